section
-- ===== PART A: goes FIRST, ahead of the names: the tables' words, and 'selects' of the private methods out of them =====
/-- a private method of a class that the tables say can be made, by its rows of tables_1 -/
def lw_okq (q : MethodName × Nat) : Prop := (q.1.cls ≠ "java/lang/invoke/MethodHandle" ∧ q.1.cls ≠ "java/lang/invoke/VarHandle") ∧ Cond.instantiable q.1.cls q.2 ∈ tables_1 ∧ Cond.privateMethod q.1 ∈ tables_1 ∧ Cond.instanceMethod q.1 ∈ tables_1
theorem lw_p0 : lw_okq (⟨"GreenDesk", "junctionAt", "(I)LGreenDesk$Junction;"⟩, 9) := ⟨⟨by decide +kernel, by decide +kernel⟩, List.mem_of_getElem? (i := 13) (by decide +kernel), List.mem_of_getElem? (i := 201) (by decide +kernel), List.mem_of_getElem? (i := 202) (by decide +kernel)⟩
theorem lw_p1 : lw_okq (⟨"GreenDesk", "streamAt", "(II)LGreenDesk$Stream;"⟩, 9) := ⟨⟨by decide +kernel, by decide +kernel⟩, List.mem_of_getElem? (i := 13) (by decide +kernel), List.mem_of_getElem? (i := 305) (by decide +kernel), List.mem_of_getElem? (i := 306) (by decide +kernel)⟩
theorem lw_p2 : lw_okq (⟨"GreenDesk", "begunAt", "(I)LGreenDesk$Plan;"⟩, 9) := ⟨⟨by decide +kernel, by decide +kernel⟩, List.mem_of_getElem? (i := 13) (by decide +kernel), List.mem_of_getElem? (i := 425) (by decide +kernel), List.mem_of_getElem? (i := 426) (by decide +kernel)⟩
theorem lw_p3 : lw_okq (⟨"GreenDesk", "tellsShortGreen", "(LGreenDesk$Junction;LGreenDesk$Plan;)Z"⟩, 9) := ⟨⟨by decide +kernel, by decide +kernel⟩, List.mem_of_getElem? (i := 13) (by decide +kernel), List.mem_of_getElem? (i := 471) (by decide +kernel), List.mem_of_getElem? (i := 472) (by decide +kernel)⟩
theorem lw_p4 : lw_okq (⟨"GreenDesk", "tellsClash", "(LGreenDesk$Junction;LGreenDesk$Plan;)Z"⟩, 9) := ⟨⟨by decide +kernel, by decide +kernel⟩, List.mem_of_getElem? (i := 13) (by decide +kernel), List.mem_of_getElem? (i := 483) (by decide +kernel), List.mem_of_getElem? (i := 484) (by decide +kernel)⟩
theorem lw_p5 : lw_okq (⟨"GreenDesk", "takenAt", "(I)LGreenDesk$Plan;"⟩, 9) := ⟨⟨by decide +kernel, by decide +kernel⟩, List.mem_of_getElem? (i := 13) (by decide +kernel), List.mem_of_getElem? (i := 523) (by decide +kernel), List.mem_of_getElem? (i := 524) (by decide +kernel)⟩
theorem lw_p6 : lw_okq (⟨"GreenDesk", "flashing", "()I"⟩, 9) := ⟨⟨by decide +kernel, by decide +kernel⟩, List.mem_of_getElem? (i := 13) (by decide +kernel), List.mem_of_getElem? (i := 679) (by decide +kernel), List.mem_of_getElem? (i := 680) (by decide +kernel)⟩
theorem lw_p7 : lw_okq (⟨"GreenDesk", "layWay", "(IIIIIII)Z"⟩, 9) := ⟨⟨by decide +kernel, by decide +kernel⟩, List.mem_of_getElem? (i := 13) (by decide +kernel), List.mem_of_getElem? (i := 691) (by decide +kernel), List.mem_of_getElem? (i := 692) (by decide +kernel)⟩
theorem lw_p8 : lw_okq (⟨"GreenDesk", "laysStop", "(IIIII)Z"⟩, 9) := ⟨⟨by decide +kernel, by decide +kernel⟩, List.mem_of_getElem? (i := 13) (by decide +kernel), List.mem_of_getElem? (i := 695) (by decide +kernel), List.mem_of_getElem? (i := 696) (by decide +kernel)⟩
theorem lw_p9 : lw_okq (⟨"GreenDeskModel", "isJunction", "(I)Z"⟩, 48) := ⟨⟨by decide +kernel, by decide +kernel⟩, List.mem_of_getElem? (i := 754) (by decide +kernel), List.mem_of_getElem? (i := 913) (by decide +kernel), List.mem_of_getElem? (i := 914) (by decide +kernel)⟩
theorem lw_p10 : lw_okq (⟨"GreenDeskModel", "isPlanned", "(I)Z"⟩, 48) := ⟨⟨by decide +kernel, by decide +kernel⟩, List.mem_of_getElem? (i := 754) (by decide +kernel), List.mem_of_getElem? (i := 920) (by decide +kernel), List.mem_of_getElem? (i := 921) (by decide +kernel)⟩
theorem lw_p11 : lw_okq (⟨"GreenDeskModel", "isStream", "(II)Z"⟩, 48) := ⟨⟨by decide +kernel, by decide +kernel⟩, List.mem_of_getElem? (i := 754) (by decide +kernel), List.mem_of_getElem? (i := 929) (by decide +kernel), List.mem_of_getElem? (i := 930) (by decide +kernel)⟩
theorem lw_p12 : lw_okq (⟨"GreenDeskModel", "seconds", "(III)I"⟩, 48) := ⟨⟨by decide +kernel, by decide +kernel⟩, List.mem_of_getElem? (i := 754) (by decide +kernel), List.mem_of_getElem? (i := 937) (by decide +kernel), List.mem_of_getElem? (i := 938) (by decide +kernel)⟩
theorem lw_p13 : lw_okq (⟨"GreenDeskModel", "isGreatest", "(II)Z"⟩, 48) := ⟨⟨by decide +kernel, by decide +kernel⟩, List.mem_of_getElem? (i := 754) (by decide +kernel), List.mem_of_getElem? (i := 945) (by decide +kernel), List.mem_of_getElem? (i := 946) (by decide +kernel)⟩
theorem lw_p14 : lw_okq (⟨"GreenDeskModel", "isSet", "(II)Z"⟩, 48) := ⟨⟨by decide +kernel, by decide +kernel⟩, List.mem_of_getElem? (i := 754) (by decide +kernel), List.mem_of_getElem? (i := 949) (by decide +kernel), List.mem_of_getElem? (i := 950) (by decide +kernel)⟩
theorem lw_p15 : lw_okq (⟨"GreenDeskModel", "apart", "(III)I"⟩, 48) := ⟨⟨by decide +kernel, by decide +kernel⟩, List.mem_of_getElem? (i := 754) (by decide +kernel), List.mem_of_getElem? (i := 953) (by decide +kernel), List.mem_of_getElem? (i := 954) (by decide +kernel)⟩
def lw_privs_1 : List (MethodName × Nat) := [(⟨"GreenDesk", "junctionAt", "(I)LGreenDesk$Junction;"⟩, 9), (⟨"GreenDesk", "streamAt", "(II)LGreenDesk$Stream;"⟩, 9), (⟨"GreenDesk", "begunAt", "(I)LGreenDesk$Plan;"⟩, 9), (⟨"GreenDesk", "tellsShortGreen", "(LGreenDesk$Junction;LGreenDesk$Plan;)Z"⟩, 9), (⟨"GreenDesk", "tellsClash", "(LGreenDesk$Junction;LGreenDesk$Plan;)Z"⟩, 9), (⟨"GreenDesk", "takenAt", "(I)LGreenDesk$Plan;"⟩, 9), (⟨"GreenDesk", "flashing", "()I"⟩, 9), (⟨"GreenDesk", "layWay", "(IIIIIII)Z"⟩, 9), (⟨"GreenDesk", "laysStop", "(IIIII)Z"⟩, 9), (⟨"GreenDeskModel", "isJunction", "(I)Z"⟩, 48), (⟨"GreenDeskModel", "isPlanned", "(I)Z"⟩, 48), (⟨"GreenDeskModel", "isStream", "(II)Z"⟩, 48), (⟨"GreenDeskModel", "seconds", "(III)I"⟩, 48), (⟨"GreenDeskModel", "isGreatest", "(II)Z"⟩, 48), (⟨"GreenDeskModel", "isSet", "(II)Z"⟩, 48), (⟨"GreenDeskModel", "apart", "(III)I"⟩, 48)]
theorem lw_r1 : ∀ q ∈ lw_privs_1, lw_okq q := List.forall_mem_cons.mpr ⟨lw_p0, List.forall_mem_cons.mpr ⟨lw_p1, List.forall_mem_cons.mpr ⟨lw_p2, List.forall_mem_cons.mpr ⟨lw_p3, List.forall_mem_cons.mpr ⟨lw_p4, List.forall_mem_cons.mpr ⟨lw_p5, List.forall_mem_cons.mpr ⟨lw_p6, List.forall_mem_cons.mpr ⟨lw_p7, List.forall_mem_cons.mpr ⟨lw_p8, List.forall_mem_cons.mpr ⟨lw_p9, List.forall_mem_cons.mpr ⟨lw_p10, List.forall_mem_cons.mpr ⟨lw_p11, List.forall_mem_cons.mpr ⟨lw_p12, List.forall_mem_cons.mpr ⟨lw_p13, List.forall_mem_cons.mpr ⟨lw_p14, List.forall_mem_cons.mpr ⟨lw_p15, fun _ h => absurd h List.not_mem_nil⟩⟩⟩⟩⟩⟩⟩⟩⟩⟩⟩⟩⟩⟩⟩⟩
theorem lw_p16 : lw_okq (⟨"GreenDeskModel", "isYielding", "(III)Z"⟩, 48) := ⟨⟨by decide +kernel, by decide +kernel⟩, List.mem_of_getElem? (i := 754) (by decide +kernel), List.mem_of_getElem? (i := 957) (by decide +kernel), List.mem_of_getElem? (i := 958) (by decide +kernel)⟩
theorem lw_p17 : lw_okq (⟨"GreenDeskModel", "betweens", "(I)I"⟩, 48) := ⟨⟨by decide +kernel, by decide +kernel⟩, List.mem_of_getElem? (i := 754) (by decide +kernel), List.mem_of_getElem? (i := 981) (by decide +kernel), List.mem_of_getElem? (i := 982) (by decide +kernel)⟩
theorem lw_p18 : lw_okq (⟨"GreenDeskModel", "between", "(II)I"⟩, 48) := ⟨⟨by decide +kernel, by decide +kernel⟩, List.mem_of_getElem? (i := 754) (by decide +kernel), List.mem_of_getElem? (i := 985) (by decide +kernel), List.mem_of_getElem? (i := 986) (by decide +kernel)⟩
theorem lw_p19 : lw_okq (⟨"GreenDeskModel", "layOut", "(I)V"⟩, 48) := ⟨⟨by decide +kernel, by decide +kernel⟩, List.mem_of_getElem? (i := 754) (by decide +kernel), List.mem_of_getElem? (i := 989) (by decide +kernel), List.mem_of_getElem? (i := 990) (by decide +kernel)⟩
theorem lw_p20 : lw_okq (⟨"GreenDeskModel", "hasLeast", "(I)Z"⟩, 48) := ⟨⟨by decide +kernel, by decide +kernel⟩, List.mem_of_getElem? (i := 754) (by decide +kernel), List.mem_of_getElem? (i := 993) (by decide +kernel), List.mem_of_getElem? (i := 994) (by decide +kernel)⟩
theorem lw_p21 : lw_okq (⟨"GreenDeskModel", "isGreen", "(III)Z"⟩, 48) := ⟨⟨by decide +kernel, by decide +kernel⟩, List.mem_of_getElem? (i := 754) (by decide +kernel), List.mem_of_getElem? (i := 997) (by decide +kernel), List.mem_of_getElem? (i := 998) (by decide +kernel)⟩
theorem lw_p22 : lw_okq (⟨"GreenDeskModel", "tells", "(IIII)Z"⟩, 48) := ⟨⟨by decide +kernel, by decide +kernel⟩, List.mem_of_getElem? (i := 754) (by decide +kernel), List.mem_of_getElem? (i := 1002) (by decide +kernel), List.mem_of_getElem? (i := 1003) (by decide +kernel)⟩
theorem lw_p23 : lw_okq (⟨"GreenDeskModel", "isApart", "(I)Z"⟩, 48) := ⟨⟨by decide +kernel, by decide +kernel⟩, List.mem_of_getElem? (i := 754) (by decide +kernel), List.mem_of_getElem? (i := 1006) (by decide +kernel), List.mem_of_getElem? (i := 1007) (by decide +kernel)⟩
theorem lw_p24 : lw_okq (⟨"GreenDeskModel", "isBegun", "(I)Z"⟩, 48) := ⟨⟨by decide +kernel, by decide +kernel⟩, List.mem_of_getElem? (i := 754) (by decide +kernel), List.mem_of_getElem? (i := 1031) (by decide +kernel), List.mem_of_getElem? (i := 1032) (by decide +kernel)⟩
theorem lw_p25 : lw_okq (⟨"GreenDeskModel", "leastSum", "(II)I"⟩, 48) := ⟨⟨by decide +kernel, by decide +kernel⟩, List.mem_of_getElem? (i := 754) (by decide +kernel), List.mem_of_getElem? (i := 1035) (by decide +kernel), List.mem_of_getElem? (i := 1036) (by decide +kernel)⟩
theorem lw_p26 : lw_okq (⟨"GreenDeskModel", "stagesOf", "(II)I"⟩, 48) := ⟨⟨by decide +kernel, by decide +kernel⟩, List.mem_of_getElem? (i := 754) (by decide +kernel), List.mem_of_getElem? (i := 1039) (by decide +kernel), List.mem_of_getElem? (i := 1040) (by decide +kernel)⟩
theorem lw_p27 : lw_okq (⟨"GreenDeskModel", "others", "(III)I"⟩, 48) := ⟨⟨by decide +kernel, by decide +kernel⟩, List.mem_of_getElem? (i := 754) (by decide +kernel), List.mem_of_getElem? (i := 1043) (by decide +kernel), List.mem_of_getElem? (i := 1044) (by decide +kernel)⟩
theorem lw_p28 : lw_okq (⟨"GreenDeskModel", "tries", "(II)V"⟩, 48) := ⟨⟨by decide +kernel, by decide +kernel⟩, List.mem_of_getElem? (i := 754) (by decide +kernel), List.mem_of_getElem? (i := 1051) (by decide +kernel), List.mem_of_getElem? (i := 1052) (by decide +kernel)⟩
theorem lw_p29 : lw_okq (⟨"GreenDeskModel", "runJunction", "(I)V"⟩, 48) := ⟨⟨by decide +kernel, by decide +kernel⟩, List.mem_of_getElem? (i := 754) (by decide +kernel), List.mem_of_getElem? (i := 1073) (by decide +kernel), List.mem_of_getElem? (i := 1074) (by decide +kernel)⟩
theorem lw_p30 : lw_okq (⟨"GreenDeskModel", "runStream", "(IZ)V"⟩, 48) := ⟨⟨by decide +kernel, by decide +kernel⟩, List.mem_of_getElem? (i := 754) (by decide +kernel), List.mem_of_getElem? (i := 1077) (by decide +kernel), List.mem_of_getElem? (i := 1078) (by decide +kernel)⟩
theorem lw_p31 : lw_okq (⟨"GreenDeskModel", "comes", "(IZ)V"⟩, 48) := ⟨⟨by decide +kernel, by decide +kernel⟩, List.mem_of_getElem? (i := 754) (by decide +kernel), List.mem_of_getElem? (i := 1081) (by decide +kernel), List.mem_of_getElem? (i := 1082) (by decide +kernel)⟩
def lw_privs_2 : List (MethodName × Nat) := [(⟨"GreenDeskModel", "isYielding", "(III)Z"⟩, 48), (⟨"GreenDeskModel", "betweens", "(I)I"⟩, 48), (⟨"GreenDeskModel", "between", "(II)I"⟩, 48), (⟨"GreenDeskModel", "layOut", "(I)V"⟩, 48), (⟨"GreenDeskModel", "hasLeast", "(I)Z"⟩, 48), (⟨"GreenDeskModel", "isGreen", "(III)Z"⟩, 48), (⟨"GreenDeskModel", "tells", "(IIII)Z"⟩, 48), (⟨"GreenDeskModel", "isApart", "(I)Z"⟩, 48), (⟨"GreenDeskModel", "isBegun", "(I)Z"⟩, 48), (⟨"GreenDeskModel", "leastSum", "(II)I"⟩, 48), (⟨"GreenDeskModel", "stagesOf", "(II)I"⟩, 48), (⟨"GreenDeskModel", "others", "(III)I"⟩, 48), (⟨"GreenDeskModel", "tries", "(II)V"⟩, 48), (⟨"GreenDeskModel", "runJunction", "(I)V"⟩, 48), (⟨"GreenDeskModel", "runStream", "(IZ)V"⟩, 48), (⟨"GreenDeskModel", "comes", "(IZ)V"⟩, 48)]
theorem lw_r2 : ∀ q ∈ lw_privs_2, lw_okq q := List.forall_mem_cons.mpr ⟨lw_p16, List.forall_mem_cons.mpr ⟨lw_p17, List.forall_mem_cons.mpr ⟨lw_p18, List.forall_mem_cons.mpr ⟨lw_p19, List.forall_mem_cons.mpr ⟨lw_p20, List.forall_mem_cons.mpr ⟨lw_p21, List.forall_mem_cons.mpr ⟨lw_p22, List.forall_mem_cons.mpr ⟨lw_p23, List.forall_mem_cons.mpr ⟨lw_p24, List.forall_mem_cons.mpr ⟨lw_p25, List.forall_mem_cons.mpr ⟨lw_p26, List.forall_mem_cons.mpr ⟨lw_p27, List.forall_mem_cons.mpr ⟨lw_p28, List.forall_mem_cons.mpr ⟨lw_p29, List.forall_mem_cons.mpr ⟨lw_p30, List.forall_mem_cons.mpr ⟨lw_p31, fun _ h => absurd h List.not_mem_nil⟩⟩⟩⟩⟩⟩⟩⟩⟩⟩⟩⟩⟩⟩⟩⟩
theorem lw_p32 : lw_okq (⟨"GreenDeskModel", "isFull", "(I)Z"⟩, 48) := ⟨⟨by decide +kernel, by decide +kernel⟩, List.mem_of_getElem? (i := 754) (by decide +kernel), List.mem_of_getElem? (i := 1085) (by decide +kernel), List.mem_of_getElem? (i := 1086) (by decide +kernel)⟩
theorem lw_p33 : lw_okq (⟨"GreenDeskModel", "isWay", "(IIIIIII)Z"⟩, 48) := ⟨⟨by decide +kernel, by decide +kernel⟩, List.mem_of_getElem? (i := 754) (by decide +kernel), List.mem_of_getElem? (i := 1109) (by decide +kernel), List.mem_of_getElem? (i := 1110) (by decide +kernel)⟩
theorem lw_p34 : lw_okq (⟨"GreenDeskModel", "passing", "(IIIZ)I"⟩, 48) := ⟨⟨by decide +kernel, by decide +kernel⟩, List.mem_of_getElem? (i := 754) (by decide +kernel), List.mem_of_getElem? (i := 1113) (by decide +kernel), List.mem_of_getElem? (i := 1114) (by decide +kernel)⟩
theorem lw_p35 : lw_okq (⟨"GreenDeskModel", "wasLit", "(IIIII)Z"⟩, 48) := ⟨⟨by decide +kernel, by decide +kernel⟩, List.mem_of_getElem? (i := 754) (by decide +kernel), List.mem_of_getElem? (i := 1128) (by decide +kernel), List.mem_of_getElem? (i := 1129) (by decide +kernel)⟩
def lw_privs_3 : List (MethodName × Nat) := [(⟨"GreenDeskModel", "isFull", "(I)Z"⟩, 48), (⟨"GreenDeskModel", "isWay", "(IIIIIII)Z"⟩, 48), (⟨"GreenDeskModel", "passing", "(IIIZ)I"⟩, 48), (⟨"GreenDeskModel", "wasLit", "(IIIII)Z"⟩, 48)]
theorem lw_r3 : ∀ q ∈ lw_privs_3, lw_okq q := List.forall_mem_cons.mpr ⟨lw_p32, List.forall_mem_cons.mpr ⟨lw_p33, List.forall_mem_cons.mpr ⟨lw_p34, List.forall_mem_cons.mpr ⟨lw_p35, fun _ h => absurd h List.not_mem_nil⟩⟩⟩⟩
def lw_privs : List (MethodName × Nat) := lw_privs_1 ++ (lw_privs_2 ++ (lw_privs_3))
def lw_tbl : List Cond := k2_sels lw_privs ++ tables_1
theorem lw_privs_ok : ∀ q ∈ lw_privs, lw_okq q := by
  show ∀ q ∈ lw_privs_1 ++ (lw_privs_2 ++ (lw_privs_3)), lw_okq q
  exact List.forall_mem_append.mpr ⟨lw_r1, List.forall_mem_append.mpr ⟨lw_r2, lw_r3⟩⟩
end
section
def RX0 : String := "GreenDesk$Apportioner"
def TX0 : u_T := fun k => match k with
  | 0 => ("GreenDesk$Apportioner", "needs", "[I", true)
  | 1 => ("GreenDesk$Apportioner", "low", "[I", true)
  | 2 => ("GreenDesk$Apportioner", "high", "[I", true)
  | 3 => ("GreenDesk$Apportioner", "found", "[I", true)
  | 4 => ("GreenDesk$Apportioner", "bestCount", "J", false)
  | _ => ("GreenDesk$Apportioner", "bestService", "J", false)
def tyX0 : Nat → FieldType := fun k => match k with
  | 0 => .array .int
  | 1 => .array .int
  | 2 => .array .int
  | 3 => .array .int
  | 4 => .long
  | _ => .long
theorem nmX0 : ∀ a, a < 6 → ∀ b, b < 6 → a ≠ b → (TX0 a).2.1 ≠ (TX0 b).2.1 := by decide +kernel
theorem tyX0_ok : ∀ k, k < 6 → parseFieldDescriptor (TX0 k).2.2.1 = some (tyX0 k) := by decide +kernel
abbrev cX0_init : ByteArray := prog_2_method_1_code
def yX0_init : MethodName := ⟨RX0, "<init>", "()V"⟩
abbrev cX0_leastCycle : ByteArray := prog_2_method_2_code
def yX0_leastCycle : MethodName := ⟨RX0, "leastCycle", "(LGreenDesk$Junction;LGreenDesk$Plan;)I"⟩
abbrev cX0_leavesOneOut : ByteArray := prog_2_method_3_code
def yX0_leavesOneOut : MethodName := ⟨RX0, "leavesOneOut", "(LGreenDesk$Junction;LGreenDesk$Plan;)Z"⟩
abbrev cX0_findFittest : ByteArray := prog_2_method_4_code
def yX0_findFittest : MethodName := ⟨RX0, "findFittest", "(LGreenDesk$Junction;LGreenDesk$Plan;I)V"⟩
abbrev cX0_mostGreen : ByteArray := prog_2_method_5_code
def yX0_mostGreen : MethodName := ⟨RX0, "mostGreen", "(LGreenDesk$Junction;LGreenDesk$Plan;II)I"⟩
abbrev cX0_keepIfBetter : ByteArray := prog_2_method_6_code
def yX0_keepIfBetter : MethodName := ⟨RX0, "keepIfBetter", "(JJ)V"⟩
abbrev cX0_askForLoad : ByteArray := prog_2_method_7_code
def yX0_askForLoad : MethodName := ⟨RX0, "askForLoad", "(LGreenDesk$Junction;LGreenDesk$Plan;JJ)V"⟩
abbrev cX0_partsUp : ByteArray := prog_2_method_8_code
def yX0_partsUp : MethodName := ⟨RX0, "partsUp", "(JJ)I"⟩
abbrev cX0_deals : ByteArray := prog_2_method_9_code
def yX0_deals : MethodName := ⟨RX0, "deals", "(II)Z"⟩
abbrev cX0_dealsBehind : ByteArray := prog_2_method_10_code
def yX0_dealsBehind : MethodName := ⟨RX0, "dealsBehind", "(III)Z"⟩
abbrev cX0_needBeside : ByteArray := prog_2_method_11_code
def yX0_needBeside : MethodName := ⟨RX0, "needBeside", "(II)I"⟩
def RX1 : String := "GreenDesk$Junction"
def TX1 : u_T := fun k => match k with
  | 0 => ("GreenDesk$Junction", "streams", "[LGreenDesk$Stream;", true)
  | 1 => ("GreenDesk$Junction", "gaps", "[I", true)
  | 2 => ("GreenDesk$Junction", "yieldsTo", "[I", true)
  | 3 => ("GreenDesk$Junction", "barred", "[I", true)
  | 4 => ("GreenDesk$Junction", "read", "[I", true)
  | 5 => ("GreenDesk$Junction", "size", "I", false)
  | 6 => ("GreenDesk$Junction", "begun", "LGreenDesk$Plan;", false)
  | 7 => ("GreenDesk$Junction", "taken", "LGreenDesk$Plan;", false)
  | 8 => ("GreenDesk$Junction", "flashing", "Z", false)
  | 9 => ("GreenDesk$Junction", "clearTill", "I", false)
  | _ => ("GreenDesk$Junction", "lit", "I", false)
def tyX1 : Nat → FieldType := fun k => match k with
  | 0 => .array (.object "GreenDesk$Stream")
  | 1 => .array .int
  | 2 => .array .int
  | 3 => .array .int
  | 4 => .array .int
  | 5 => .int
  | 6 => .object "GreenDesk$Plan"
  | 7 => .object "GreenDesk$Plan"
  | 8 => .boolean
  | 9 => .int
  | _ => .int
theorem nmX1 : ∀ a, a < 11 → ∀ b, b < 11 → a ≠ b → (TX1 a).2.1 ≠ (TX1 b).2.1 := by decide +kernel
theorem tyX1_ok : ∀ k, k < 11 → parseFieldDescriptor (TX1 k).2.2.1 = some (tyX1 k) := by decide +kernel
abbrev cX1_init : ByteArray := prog_3_method_1_code
def yX1_init : MethodName := ⟨RX1, "<init>", "()V"⟩
abbrev cX1_add : ByteArray := prog_3_method_2_code
def yX1_add : MethodName := ⟨RX1, "add", "(LGreenDesk$Stream;)I"⟩
abbrev cX1_member : ByteArray := prog_3_method_3_code
def yX1_member : MethodName := ⟨RX1, "member", "(I)LGreenDesk$Stream;"⟩
abbrev cX1_hasPlan : ByteArray := prog_3_method_4_code
def yX1_hasPlan : MethodName := ⟨RX1, "hasPlan", "()Z"⟩
abbrev cX1_oppose : ByteArray := prog_3_method_5_code
def yX1_oppose : MethodName := ⟨RX1, "oppose", "(IIII)V"⟩
abbrev cX1_mayYield : ByteArray := prog_3_method_6_code
def yX1_mayYield : MethodName := ⟨RX1, "mayYield", "(II)Z"⟩
abbrev cX1_giveWay : ByteArray := prog_3_method_7_code
def yX1_giveWay : MethodName := ⟨RX1, "giveWay", "(II)V"⟩
abbrev cX1_isSet : ByteArray := prog_3_method_8_code
def yX1_isSet : MethodName := ⟨RX1, "isSet", "(I)Z"⟩
abbrev cX1_isGreatest : ByteArray := prog_3_method_9_code
def yX1_isGreatest : MethodName := ⟨RX1, "isGreatest", "(I)Z"⟩
abbrev cX1_greatestSets : ByteArray := prog_3_method_10_code
def yX1_greatestSets : MethodName := ⟨RX1, "greatestSets", "()I"⟩
abbrev cX1_greatestSet : ByteArray := prog_3_method_11_code
def yX1_greatestSet : MethodName := ⟨RX1, "greatestSet", "(I)I"⟩
abbrev cX1_measureBetweens : ByteArray := prog_3_method_12_code
def yX1_measureBetweens : MethodName := ⟨RX1, "measureBetweens", "(LGreenDesk$Plan;)V"⟩
abbrev cX1_between : ByteArray := prog_3_method_13_code
def yX1_between : MethodName := ⟨RX1, "between", "(II)I"⟩
abbrev cX1_firstShortGreen : ByteArray := prog_3_method_14_code
def yX1_firstShortGreen : MethodName := ⟨RX1, "firstShortGreen", "(LGreenDesk$Plan;I)I"⟩
abbrev cX1_endsTooSoon : ByteArray := prog_3_method_15_code
def yX1_endsTooSoon : MethodName := ⟨RX1, "endsTooSoon", "(LGreenDesk$Plan;II)Z"⟩
abbrev cX1_adopt : ByteArray := prog_3_method_16_code
def yX1_adopt : MethodName := ⟨RX1, "adopt", "(II)V"⟩
abbrev cX1_clear : ByteArray := prog_3_method_17_code
def yX1_clear : MethodName := ⟨RX1, "clear", "(I)V"⟩
abbrev cX1_pass : ByteArray := prog_3_method_18_code
def yX1_pass : MethodName := ⟨RX1, "pass", "(I)V"⟩
abbrev cX1_lampsAt : ByteArray := prog_3_method_19_code
def yX1_lampsAt : MethodName := ⟨RX1, "lampsAt", "(I)I"⟩
def RX2 : String := "GreenDesk$Plan"
def TX2 : u_T := fun k => match k with
  | 0 => ("GreenDesk$Plan", "cycle", "I", false)
  | 1 => ("GreenDesk$Plan", "shift", "I", false)
  | 2 => ("GreenDesk$Plan", "stages", "I", false)
  | 3 => ("GreenDesk$Plan", "whole", "I", false)
  | 4 => ("GreenDesk$Plan", "rows", "[I", true)
  | 5 => ("GreenDesk$Plan", "greens", "[I", true)
  | 6 => ("GreenDesk$Plan", "betweens", "[I", true)
  | 7 => ("GreenDesk$Plan", "ends", "[I", true)
  | _ => ("GreenDesk$Plan", "lamps", "[I", true)
def tyX2 : Nat → FieldType := fun k => match k with
  | 0 => .int
  | 1 => .int
  | 2 => .int
  | 3 => .int
  | 4 => .array .int
  | 5 => .array .int
  | 6 => .array .int
  | 7 => .array .int
  | _ => .array .int
theorem nmX2 : ∀ a, a < 9 → ∀ b, b < 9 → a ≠ b → (TX2 a).2.1 ≠ (TX2 b).2.1 := by decide +kernel
theorem tyX2_ok : ∀ k, k < 9 → parseFieldDescriptor (TX2 k).2.2.1 = some (tyX2 k) := by decide +kernel
abbrev cX2_init : ByteArray := prog_4_method_1_code
def yX2_init : MethodName := ⟨RX2, "<init>", "()V"⟩
abbrev cX2_add : ByteArray := prog_4_method_2_code
def yX2_add : MethodName := ⟨RX2, "add", "(II)V"⟩
abbrev cX2_behind : ByteArray := prog_4_method_3_code
def yX2_behind : MethodName := ⟨RX2, "behind", "(I)I"⟩
abbrev cX2_hasStageWithoutGreen : ByteArray := prog_4_method_4_code
def yX2_hasStageWithoutGreen : MethodName := ⟨RX2, "hasStageWithoutGreen", "()Z"⟩
abbrev cX2_allGreens : ByteArray := prog_4_method_5_code
def yX2_allGreens : MethodName := ⟨RX2, "allGreens", "()I"⟩
abbrev cX2_allBetweens : ByteArray := prog_4_method_6_code
def yX2_allBetweens : MethodName := ⟨RX2, "allBetweens", "()I"⟩
abbrev cX2_toldOfStage : ByteArray := prog_4_method_7_code
def yX2_toldOfStage : MethodName := ⟨RX2, "toldOfStage", "(II)I"⟩
abbrev cX2_layLamps : ByteArray := prog_4_method_8_code
def yX2_layLamps : MethodName := ⟨RX2, "layLamps", "()V"⟩
abbrev cX2_layRow : ByteArray := prog_4_method_9_code
def yX2_layRow : MethodName := ⟨RX2, "layRow", "(III)V"⟩
abbrev cX2_placeAt : ByteArray := prog_4_method_10_code
def yX2_placeAt : MethodName := ⟨RX2, "placeAt", "(I)I"⟩
abbrev cX2_stageOf : ByteArray := prog_4_method_11_code
def yX2_stageOf : MethodName := ⟨RX2, "stageOf", "(I)I"⟩
abbrev cX2_shows : ByteArray := prog_4_method_12_code
def yX2_shows : MethodName := ⟨RX2, "shows", "(II)Z"⟩
abbrev cX2_stagesWith : ByteArray := prog_4_method_13_code
def yX2_stagesWith : MethodName := ⟨RX2, "stagesWith", "(I)I"⟩
def RX3 : String := "GreenDesk$Stream"
def TX3 : u_T := fun k => match k with
  | 0 => ("GreenDesk$Stream", "kind", "I", true)
  | 1 => ("GreenDesk$Stream", "hourly", "I", true)
  | 2 => ("GreenDesk$Stream", "rate", "I", true)
  | 3 => ("GreenDesk$Stream", "least", "I", true)
  | 4 => ("GreenDesk$Stream", "out", "LGreenDesk$Street;", false)
  | 5 => ("GreenDesk$Stream", "in", "LGreenDesk$Street;", false)
  | 6 => ("GreenDesk$Stream", "account", "I", false)
  | 7 => ("GreenDesk$Stream", "credit", "I", false)
  | 8 => ("GreenDesk$Stream", "waiting", "I", false)
  | 9 => ("GreenDesk$Stream", "came", "I", false)
  | 10 => ("GreenDesk$Stream", "left", "I", false)
  | 11 => ("GreenDesk$Stream", "stopped", "I", false)
  | 12 => ("GreenDesk$Stream", "mostWaiting", "I", false)
  | _ => ("GreenDesk$Stream", "waited", "J", false)
def tyX3 : Nat → FieldType := fun k => match k with
  | 0 => .int
  | 1 => .int
  | 2 => .int
  | 3 => .int
  | 4 => .object "GreenDesk$Street"
  | 5 => .object "GreenDesk$Street"
  | 6 => .int
  | 7 => .int
  | 8 => .int
  | 9 => .int
  | 10 => .int
  | 11 => .int
  | 12 => .int
  | _ => .long
theorem nmX3 : ∀ a, a < 14 → ∀ b, b < 14 → a ≠ b → (TX3 a).2.1 ≠ (TX3 b).2.1 := by decide +kernel
theorem tyX3_ok : ∀ k, k < 14 → parseFieldDescriptor (TX3 k).2.2.1 = some (tyX3 k) := by decide +kernel
abbrev cX3_init : ByteArray := prog_5_method_1_code
def yX3_init : MethodName := ⟨RX3, "<init>", "(IIII)V"⟩
abbrev cX3_pass : ByteArray := prog_5_method_2_code
def yX3_pass : MethodName := ⟨RX3, "pass", "(IZ)V"⟩
abbrev cX3_come : ByteArray := prog_5_method_3_code
def yX3_come : MethodName := ⟨RX3, "come", "(Z)V"⟩
abbrev cX3_leave : ByteArray := prog_5_method_4_code
def yX3_leave : MethodName := ⟨RX3, "leave", "(IZ)V"⟩
abbrev cX3_toldOfQueue : ByteArray := prog_5_method_5_code
def yX3_toldOfQueue : MethodName := ⟨RX3, "toldOfQueue", "(I)J"⟩
def RX4 : String := "GreenDesk$Street"
def TX4 : u_T := fun k => match k with
  | 0 => ("GreenDesk$Street", "end", "LGreenDesk$Stream;", true)
  | 1 => ("GreenDesk$Street", "nextToEnd", "LGreenDesk$Street;", true)
  | 2 => ("GreenDesk$Street", "time", "I", true)
  | 3 => ("GreenDesk$Street", "room", "I", true)
  | 4 => ("GreenDesk$Street", "due", "[Z", true)
  | _ => ("GreenDesk$Street", "load", "I", false)
def tyX4 : Nat → FieldType := fun k => match k with
  | 0 => .object "GreenDesk$Stream"
  | 1 => .object "GreenDesk$Street"
  | 2 => .int
  | 3 => .int
  | 4 => .array .boolean
  | _ => .int
theorem nmX4 : ∀ a, a < 6 → ∀ b, b < 6 → a ≠ b → (TX4 a).2.1 ≠ (TX4 b).2.1 := by decide +kernel
theorem tyX4_ok : ∀ k, k < 6 → parseFieldDescriptor (TX4 k).2.2.1 = some (tyX4 k) := by decide +kernel
abbrev cX4_init : ByteArray := prog_6_method_1_code
def yX4_init : MethodName := ⟨RX4, "<init>", "(LGreenDesk$Stream;II)V"⟩
abbrev cX4_isFull : ByteArray := prog_6_method_2_code
def yX4_isFull : MethodName := ⟨RX4, "isFull", "()Z"⟩
abbrev cX4_send : ByteArray := prog_6_method_3_code
def yX4_send : MethodName := ⟨RX4, "send", "(I)V"⟩
abbrev cX4_brings : ByteArray := prog_6_method_4_code
def yX4_brings : MethodName := ⟨RX4, "brings", "(I)Z"⟩
def RX5 : String := "GreenDesk$Watch"
def TX5 : u_T := fun k => match k with
  | 0 => ("GreenDesk$Watch", "since", "[I", true)
  | 1 => ("GreenDesk$Watch", "clashEarlier", "I", false)
  | _ => ("GreenDesk$Watch", "clashLater", "I", false)
def tyX5 : Nat → FieldType := fun k => match k with
  | 0 => .array .int
  | 1 => .int
  | _ => .int
theorem nmX5 : ∀ a, a < 3 → ∀ b, b < 3 → a ≠ b → (TX5 a).2.1 ≠ (TX5 b).2.1 := by decide +kernel
theorem tyX5_ok : ∀ k, k < 3 → parseFieldDescriptor (TX5 k).2.2.1 = some (tyX5 k) := by decide +kernel
abbrev cX5_init : ByteArray := prog_7_method_1_code
def yX5_init : MethodName := ⟨RX5, "<init>", "()V"⟩
abbrev cX5_forget : ByteArray := prog_7_method_2_code
def yX5_forget : MethodName := ⟨RX5, "forget", "()V"⟩
abbrev cX5_see : ByteArray := prog_7_method_3_code
def yX5_see : MethodName := ⟨RX5, "see", "(I)V"⟩
abbrev cX5_findsClash : ByteArray := prog_7_method_4_code
def yX5_findsClash : MethodName := ⟨RX5, "findsClash", "(LGreenDesk$Junction;I)Z"⟩
abbrev cX5_findsEarlier : ByteArray := prog_7_method_5_code
def yX5_findsEarlier : MethodName := ⟨RX5, "findsEarlier", "(LGreenDesk$Junction;I)Z"⟩
abbrev cX5_firstClashOf : ByteArray := prog_7_method_6_code
def yX5_firstClashOf : MethodName := ⟨RX5, "firstClashOf", "(LGreenDesk$Junction;LGreenDesk$Plan;)I"⟩
abbrev cX5_firstClashRead : ByteArray := prog_7_method_7_code
def yX5_firstClashRead : MethodName := ⟨RX5, "firstClashRead", "(LGreenDesk$Junction;IIII)I"⟩
def RX6 : String := "GreenDesk$Way"
def TX6 : u_T := fun k => match k with
  | 0 => ("GreenDesk$Way", "plans", "[LGreenDesk$Plan;", true)
  | 1 => ("GreenDesk$Way", "streams", "[I", true)
  | 2 => ("GreenDesk$Way", "times", "[I", true)
  | 3 => ("GreenDesk$Way", "early", "[J", true)
  | 4 => ("GreenDesk$Way", "late", "[J", true)
  | 5 => ("GreenDesk$Way", "stops", "I", false)
  | 6 => ("GreenDesk$Way", "bestLesser", "I", false)
  | 7 => ("GreenDesk$Way", "bestSum", "I", false)
  | 8 => ("GreenDesk$Way", "bestSecond", "I", false)
  | _ => ("GreenDesk$Way", "bestThird", "I", false)
def tyX6 : Nat → FieldType := fun k => match k with
  | 0 => .array (.object "GreenDesk$Plan")
  | 1 => .array .int
  | 2 => .array .int
  | 3 => .array .long
  | 4 => .array .long
  | 5 => .int
  | 6 => .int
  | 7 => .int
  | 8 => .int
  | _ => .int
theorem nmX6 : ∀ a, a < 10 → ∀ b, b < 10 → a ≠ b → (TX6 a).2.1 ≠ (TX6 b).2.1 := by decide +kernel
theorem tyX6_ok : ∀ k, k < 10 → parseFieldDescriptor (TX6 k).2.2.1 = some (tyX6 k) := by decide +kernel
abbrev cX6_init : ByteArray := prog_8_method_1_code
def yX6_init : MethodName := ⟨RX6, "<init>", "()V"⟩
abbrev cX6_add : ByteArray := prog_8_method_2_code
def yX6_add : MethodName := ⟨RX6, "add", "(LGreenDesk$Plan;IIII)V"⟩
abbrev cX6_passing : ByteArray := prog_8_method_3_code
def yX6_passing : MethodName := ⟨RX6, "passing", "(I)I"⟩
abbrev cX6_passes : ByteArray := prog_8_method_4_code
def yX6_passes : MethodName := ⟨RX6, "passes", "(II)Z"⟩
abbrev cX6_findBest : ByteArray := prog_8_method_5_code
def yX6_findBest : MethodName := ⟨RX6, "findBest", "()V"⟩
abbrev cX6_keepIfBetter : ByteArray := prog_8_method_6_code
def yX6_keepIfBetter : MethodName := ⟨RX6, "keepIfBetter", "(II)V"⟩
abbrev cX6_passingBy : ByteArray := prog_8_method_7_code
def yX6_passingBy : MethodName := ⟨RX6, "passingBy", "(III)I"⟩
abbrev cX6_layGreens : ByteArray := prog_8_method_8_code
def yX6_layGreens : MethodName := ⟨RX6, "layGreens", "()V"⟩
abbrev cX6_layOffsets : ByteArray := prog_8_method_9_code
def yX6_layOffsets : MethodName := ⟨RX6, "layOffsets", "(ILGreenDesk$Plan;)V"⟩
def RX7 : String := "GreenDesk"
def TX7 : u_T := fun k => match k with
  | 0 => ("GreenDesk", "junctions", "[LGreenDesk$Junction;", true)
  | 1 => ("GreenDesk", "watch", "LGreenDesk$Watch;", true)
  | 2 => ("GreenDesk", "apportioner", "LGreenDesk$Apportioner;", true)
  | 3 => ("GreenDesk", "way", "LGreenDesk$Way;", true)
  | 4 => ("GreenDesk", "made", "I", false)
  | 5 => ("GreenDesk", "seconds", "I", false)
  | 6 => ("GreenDesk", "whySecond", "I", false)
  | 7 => ("GreenDesk", "whyStream", "I", false)
  | _ => ("GreenDesk", "whyOther", "I", false)
def tyX7 : Nat → FieldType := fun k => match k with
  | 0 => .array (.object "GreenDesk$Junction")
  | 1 => .object "GreenDesk$Watch"
  | 2 => .object "GreenDesk$Apportioner"
  | 3 => .object "GreenDesk$Way"
  | 4 => .int
  | 5 => .int
  | 6 => .int
  | 7 => .int
  | _ => .int
theorem nmX7 : ∀ a, a < 9 → ∀ b, b < 9 → a ≠ b → (TX7 a).2.1 ≠ (TX7 b).2.1 := by decide +kernel
theorem tyX7_ok : ∀ k, k < 9 → parseFieldDescriptor (TX7 k).2.2.1 = some (tyX7 k) := by decide +kernel
abbrev cX7_init : ByteArray := prog_1_method_1_code
def yX7_init : MethodName := ⟨RX7, "<init>", "()V"⟩
abbrev cX7_junction : ByteArray := prog_1_method_2_code
def yX7_junction : MethodName := ⟨RX7, "junction", "()I"⟩
abbrev cX7_stream : ByteArray := prog_1_method_3_code
def yX7_stream : MethodName := ⟨RX7, "stream", "(IIIII)I"⟩
abbrev cX7_against : ByteArray := prog_1_method_4_code
def yX7_against : MethodName := ⟨RX7, "against", "(IIIII)Z"⟩
abbrev cX7_yields : ByteArray := prog_1_method_5_code
def yX7_yields : MethodName := ⟨RX7, "yields", "(III)Z"⟩
abbrev cX7_street : ByteArray := prog_1_method_6_code
def yX7_street : MethodName := ⟨RX7, "street", "(IIIIII)Z"⟩
abbrev cX7_sets : ByteArray := prog_1_method_7_code
def yX7_sets : MethodName := ⟨RX7, "sets", "(I)I"⟩
abbrev cX7_set : ByteArray := prog_1_method_8_code
def yX7_set : MethodName := ⟨RX7, "set", "(II)I"⟩
abbrev cX7_goes : ByteArray := prog_1_method_9_code
def yX7_goes : MethodName := ⟨RX7, "goes", "(II)Z"⟩
abbrev cX7_plan : ByteArray := prog_1_method_10_code
def yX7_plan : MethodName := ⟨RX7, "plan", "(II)Z"⟩
abbrev cX7_stage : ByteArray := prog_1_method_11_code
def yX7_stage : MethodName := ⟨RX7, "stage", "(III)I"⟩
abbrev cX7_take : ByteArray := prog_1_method_12_code
def yX7_take : MethodName := ⟨RX7, "take", "(II)I"⟩
abbrev cX7_why : ByteArray := prog_1_method_13_code
def yX7_why : MethodName := ⟨RX7, "why", "(I)I"⟩
abbrev cX7_told : ByteArray := prog_1_method_14_code
def yX7_told : MethodName := ⟨RX7, "told", "(II)I"⟩
abbrev cX7_offset : ByteArray := prog_1_method_15_code
def yX7_offset : MethodName := ⟨RX7, "offset", "(II)Z"⟩
abbrev cX7_tear : ByteArray := prog_1_method_16_code
def yX7_tear : MethodName := ⟨RX7, "tear", "(II)Z"⟩
abbrev cX7_share : ByteArray := prog_1_method_17_code
def yX7_share : MethodName := ⟨RX7, "share", "(I)I"⟩
abbrev cX7_fit : ByteArray := prog_1_method_18_code
def yX7_fit : MethodName := ⟨RX7, "fit", "(II)Z"⟩
abbrev cX7_green : ByteArray := prog_1_method_19_code
def yX7_green : MethodName := ⟨RX7, "green", "(II)I"⟩
abbrev cX7_lamp : ByteArray := prog_1_method_20_code
def yX7_lamp : MethodName := ⟨RX7, "lamp", "(III)I"⟩
abbrev cX7_run : ByteArray := prog_1_method_21_code
def yX7_run : MethodName := ⟨RX7, "run", "(I)I"⟩
abbrev cX7_queue : ByteArray := prog_1_method_22_code
def yX7_queue : MethodName := ⟨RX7, "queue", "(III)J"⟩
abbrev cX7_count : ByteArray := prog_1_method_23_code
def yX7_count : MethodName := ⟨RX7, "count", "(I)I"⟩
abbrev cX7_flashes : ByteArray := prog_1_method_24_code
def yX7_flashes : MethodName := ⟨RX7, "flashes", "(I)Z"⟩
abbrev cX7_width : ByteArray := prog_1_method_25_code
def yX7_width : MethodName := ⟨RX7, "width", "(IIIIIIII)I"⟩
abbrev cX7_wave : ByteArray := prog_1_method_26_code
def yX7_wave : MethodName := ⟨RX7, "wave", "(IIIIIIII)I"⟩
abbrev cX7_check : ByteArray := prog_1_method_27_code
def yX7_check : MethodName := ⟨RX7, "check", "(III)I"⟩
abbrev cX7_outside : ByteArray := prog_1_method_28_code
def yX7_outside : MethodName := ⟨RX7, "outside", "(III)Z"⟩
abbrev cX7_junctionAt : ByteArray := prog_1_method_29_code
def yX7_junctionAt : MethodName := ⟨RX7, "junctionAt", "(I)LGreenDesk$Junction;"⟩
abbrev cX7_streamAt : ByteArray := prog_1_method_30_code
def yX7_streamAt : MethodName := ⟨RX7, "streamAt", "(II)LGreenDesk$Stream;"⟩
abbrev cX7_begunAt : ByteArray := prog_1_method_31_code
def yX7_begunAt : MethodName := ⟨RX7, "begunAt", "(I)LGreenDesk$Plan;"⟩
abbrev cX7_takenAt : ByteArray := prog_1_method_32_code
def yX7_takenAt : MethodName := ⟨RX7, "takenAt", "(I)LGreenDesk$Plan;"⟩
abbrev cX7_flashing : ByteArray := prog_1_method_33_code
def yX7_flashing : MethodName := ⟨RX7, "flashing", "()I"⟩
abbrev cX7_tellsShortGreen : ByteArray := prog_1_method_34_code
def yX7_tellsShortGreen : MethodName := ⟨RX7, "tellsShortGreen", "(LGreenDesk$Junction;LGreenDesk$Plan;)Z"⟩
abbrev cX7_tellsClash : ByteArray := prog_1_method_35_code
def yX7_tellsClash : MethodName := ⟨RX7, "tellsClash", "(LGreenDesk$Junction;LGreenDesk$Plan;)Z"⟩
abbrev cX7_layWay : ByteArray := prog_1_method_36_code
def yX7_layWay : MethodName := ⟨RX7, "layWay", "(IIIIIII)Z"⟩
abbrev cX7_laysStop : ByteArray := prog_1_method_37_code
def yX7_laysStop : MethodName := ⟨RX7, "laysStop", "(IIIII)Z"⟩
def RX8 : String := "GreenDeskModel"
def TX8 : u_T := fun k => match k with
  | 0 => ("GreenDeskModel", "junctions", "I", false)
  | 1 => ("GreenDeskModel", "second", "I", false)
  | 2 => ("GreenDeskModel", "streams", "[I", true)
  | 3 => ("GreenDeskModel", "kind", "[I", true)
  | 4 => ("GreenDeskModel", "count", "[I", true)
  | 5 => ("GreenDeskModel", "rate", "[I", true)
  | 6 => ("GreenDeskModel", "least", "[I", true)
  | 7 => ("GreenDeskModel", "from", "[I", true)
  | 8 => ("GreenDeskModel", "yields", "[Z", true)
  | 9 => ("GreenDeskModel", "isThere", "[Z", true)
  | 10 => ("GreenDeskModel", "cycle", "[I", true)
  | 11 => ("GreenDeskModel", "stages", "[I", true)
  | 12 => ("GreenDeskModel", "bits", "[I", true)
  | 13 => ("GreenDeskModel", "green", "[I", true)
  | 14 => ("GreenDeskModel", "offset", "[I", true)
  | 15 => ("GreenDeskModel", "torn", "[I", true)
  | 16 => ("GreenDeskModel", "clearTill", "[I", true)
  | 17 => ("GreenDeskModel", "flashes", "[Z", true)
  | 18 => ("GreenDeskModel", "whyFault", "I", false)
  | 19 => ("GreenDeskModel", "whySecond", "I", false)
  | 20 => ("GreenDeskModel", "whyStream", "I", false)
  | 21 => ("GreenDeskModel", "whyOther", "I", false)
  | 22 => ("GreenDeskModel", "rows", "[I", true)
  | 23 => ("GreenDeskModel", "stageAt", "[I", true)
  | 24 => ("GreenDeskModel", "need", "[I", true)
  | 25 => ("GreenDeskModel", "tried", "[I", true)
  | 26 => ("GreenDeskModel", "fittest", "[I", true)
  | 27 => ("GreenDeskModel", "loadOver", "J", false)
  | 28 => ("GreenDeskModel", "loadUnder", "J", false)
  | 29 => ("GreenDeskModel", "hasStreet", "[Z", true)
  | 30 => ("GreenDeskModel", "streetTo", "[I", true)
  | 31 => ("GreenDeskModel", "time", "[I", true)
  | 32 => ("GreenDeskModel", "room", "[I", true)
  | 33 => ("GreenDeskModel", "onStreet", "[I", true)
  | 34 => ("GreenDeskModel", "due", "[I", true)
  | 35 => ("GreenDeskModel", "account", "[I", true)
  | 36 => ("GreenDeskModel", "credit", "[I", true)
  | 37 => ("GreenDeskModel", "waiting", "[J", true)
  | 38 => ("GreenDeskModel", "came", "[J", true)
  | 39 => ("GreenDeskModel", "left", "[J", true)
  | 40 => ("GreenDeskModel", "wait", "[J", true)
  | 41 => ("GreenDeskModel", "stops", "[J", true)
  | 42 => ("GreenDeskModel", "most", "[J", true)
  | 43 => ("GreenDeskModel", "wasGreen", "[Z", true)
  | 44 => ("GreenDeskModel", "lit", "[I", true)
  | 45 => ("GreenDeskModel", "way", "[I", true)
  | 46 => ("GreenDeskModel", "offsets", "[I", true)
  | _ => ("GreenDeskModel", "ways", "I", false)
def tyX8 : Nat → FieldType := fun k => match k with
  | 0 => .int
  | 1 => .int
  | 2 => .array .int
  | 3 => .array .int
  | 4 => .array .int
  | 5 => .array .int
  | 6 => .array .int
  | 7 => .array .int
  | 8 => .array .boolean
  | 9 => .array .boolean
  | 10 => .array .int
  | 11 => .array .int
  | 12 => .array .int
  | 13 => .array .int
  | 14 => .array .int
  | 15 => .array .int
  | 16 => .array .int
  | 17 => .array .boolean
  | 18 => .int
  | 19 => .int
  | 20 => .int
  | 21 => .int
  | 22 => .array .int
  | 23 => .array .int
  | 24 => .array .int
  | 25 => .array .int
  | 26 => .array .int
  | 27 => .long
  | 28 => .long
  | 29 => .array .boolean
  | 30 => .array .int
  | 31 => .array .int
  | 32 => .array .int
  | 33 => .array .int
  | 34 => .array .int
  | 35 => .array .int
  | 36 => .array .int
  | 37 => .array .long
  | 38 => .array .long
  | 39 => .array .long
  | 40 => .array .long
  | 41 => .array .long
  | 42 => .array .long
  | 43 => .array .boolean
  | 44 => .array .int
  | 45 => .array .int
  | 46 => .array .int
  | _ => .int
theorem nmX8 : ∀ a, a < 48 → ∀ b, b < 48 → a ≠ b → (TX8 a).2.1 ≠ (TX8 b).2.1 := by decide +kernel
theorem tyX8_ok : ∀ k, k < 48 → parseFieldDescriptor (TX8 k).2.2.1 = some (tyX8 k) := by decide +kernel
abbrev cX8_init : ByteArray := prog_10_method_1_code
def yX8_init : MethodName := ⟨RX8, "<init>", "()V"⟩
abbrev cX8_isIn : ByteArray := prog_10_method_2_code
def yX8_isIn : MethodName := ⟨RX8, "isIn", "(III)Z"⟩
abbrev cX8_isJunction : ByteArray := prog_10_method_3_code
def yX8_isJunction : MethodName := ⟨RX8, "isJunction", "(I)Z"⟩
abbrev cX8_isStream : ByteArray := prog_10_method_4_code
def yX8_isStream : MethodName := ⟨RX8, "isStream", "(II)Z"⟩
abbrev cX8_isPlanned : ByteArray := prog_10_method_5_code
def yX8_isPlanned : MethodName := ⟨RX8, "isPlanned", "(I)Z"⟩
abbrev cX8_junction : ByteArray := prog_10_method_6_code
def yX8_junction : MethodName := ⟨RX8, "junction", "()I"⟩
abbrev cX8_stream : ByteArray := prog_10_method_7_code
def yX8_stream : MethodName := ⟨RX8, "stream", "(IIIII)I"⟩
abbrev cX8_seconds : ByteArray := prog_10_method_8_code
def yX8_seconds : MethodName := ⟨RX8, "seconds", "(III)I"⟩
abbrev cX8_isYielding : ByteArray := prog_10_method_9_code
def yX8_isYielding : MethodName := ⟨RX8, "isYielding", "(III)Z"⟩
abbrev cX8_apart : ByteArray := prog_10_method_10_code
def yX8_apart : MethodName := ⟨RX8, "apart", "(III)I"⟩
abbrev cX8_against : ByteArray := prog_10_method_11_code
def yX8_against : MethodName := ⟨RX8, "against", "(IIIII)Z"⟩
abbrev cX8_yields : ByteArray := prog_10_method_12_code
def yX8_yields : MethodName := ⟨RX8, "yields", "(III)Z"⟩
abbrev cX8_isSet : ByteArray := prog_10_method_13_code
def yX8_isSet : MethodName := ⟨RX8, "isSet", "(II)Z"⟩
abbrev cX8_isGreatest : ByteArray := prog_10_method_14_code
def yX8_isGreatest : MethodName := ⟨RX8, "isGreatest", "(II)Z"⟩
abbrev cX8_sets : ByteArray := prog_10_method_15_code
def yX8_sets : MethodName := ⟨RX8, "sets", "(I)I"⟩
abbrev cX8_set : ByteArray := prog_10_method_16_code
def yX8_set : MethodName := ⟨RX8, "set", "(II)I"⟩
abbrev cX8_goes : ByteArray := prog_10_method_17_code
def yX8_goes : MethodName := ⟨RX8, "goes", "(II)Z"⟩
abbrev cX8_plan : ByteArray := prog_10_method_18_code
def yX8_plan : MethodName := ⟨RX8, "plan", "(II)Z"⟩
abbrev cX8_stage : ByteArray := prog_10_method_19_code
def yX8_stage : MethodName := ⟨RX8, "stage", "(III)I"⟩
abbrev cX8_between : ByteArray := prog_10_method_20_code
def yX8_between : MethodName := ⟨RX8, "between", "(II)I"⟩
abbrev cX8_betweens : ByteArray := prog_10_method_21_code
def yX8_betweens : MethodName := ⟨RX8, "betweens", "(I)I"⟩
abbrev cX8_layOut : ByteArray := prog_10_method_22_code
def yX8_layOut : MethodName := ⟨RX8, "layOut", "(I)V"⟩
abbrev cX8_isGreen : ByteArray := prog_10_method_23_code
def yX8_isGreen : MethodName := ⟨RX8, "isGreen", "(III)Z"⟩
abbrev cX8_take : ByteArray := prog_10_method_24_code
def yX8_take : MethodName := ⟨RX8, "take", "(II)I"⟩
abbrev cX8_tells : ByteArray := prog_10_method_25_code
def yX8_tells : MethodName := ⟨RX8, "tells", "(IIII)Z"⟩
abbrev cX8_hasLeast : ByteArray := prog_10_method_26_code
def yX8_hasLeast : MethodName := ⟨RX8, "hasLeast", "(I)Z"⟩
abbrev cX8_isApart : ByteArray := prog_10_method_27_code
def yX8_isApart : MethodName := ⟨RX8, "isApart", "(I)Z"⟩
abbrev cX8_why : ByteArray := prog_10_method_28_code
def yX8_why : MethodName := ⟨RX8, "why", "(I)I"⟩
abbrev cX8_told : ByteArray := prog_10_method_29_code
def yX8_told : MethodName := ⟨RX8, "told", "(II)I"⟩
abbrev cX8_offset : ByteArray := prog_10_method_30_code
def yX8_offset : MethodName := ⟨RX8, "offset", "(II)Z"⟩
abbrev cX8_tear : ByteArray := prog_10_method_31_code
def yX8_tear : MethodName := ⟨RX8, "tear", "(II)Z"⟩
abbrev cX8_isBegun : ByteArray := prog_10_method_32_code
def yX8_isBegun : MethodName := ⟨RX8, "isBegun", "(I)Z"⟩
abbrev cX8_stagesOf : ByteArray := prog_10_method_33_code
def yX8_stagesOf : MethodName := ⟨RX8, "stagesOf", "(II)I"⟩
abbrev cX8_leastSum : ByteArray := prog_10_method_34_code
def yX8_leastSum : MethodName := ⟨RX8, "leastSum", "(II)I"⟩
abbrev cX8_others : ByteArray := prog_10_method_35_code
def yX8_others : MethodName := ⟨RX8, "others", "(III)I"⟩
abbrev cX8_share : ByteArray := prog_10_method_36_code
def yX8_share : MethodName := ⟨RX8, "share", "(I)I"⟩
abbrev cX8_fit : ByteArray := prog_10_method_37_code
def yX8_fit : MethodName := ⟨RX8, "fit", "(II)Z"⟩
abbrev cX8_tries : ByteArray := prog_10_method_38_code
def yX8_tries : MethodName := ⟨RX8, "tries", "(II)V"⟩
abbrev cX8_green : ByteArray := prog_10_method_39_code
def yX8_green : MethodName := ⟨RX8, "green", "(II)I"⟩
abbrev cX8_lamp : ByteArray := prog_10_method_40_code
def yX8_lamp : MethodName := ⟨RX8, "lamp", "(III)I"⟩
abbrev cX8_street : ByteArray := prog_10_method_41_code
def yX8_street : MethodName := ⟨RX8, "street", "(IIIIII)Z"⟩
abbrev cX8_run : ByteArray := prog_10_method_42_code
def yX8_run : MethodName := ⟨RX8, "run", "(I)I"⟩
abbrev cX8_runJunction : ByteArray := prog_10_method_43_code
def yX8_runJunction : MethodName := ⟨RX8, "runJunction", "(I)V"⟩
abbrev cX8_comes : ByteArray := prog_10_method_44_code
def yX8_comes : MethodName := ⟨RX8, "comes", "(IZ)V"⟩
abbrev cX8_runStream : ByteArray := prog_10_method_45_code
def yX8_runStream : MethodName := ⟨RX8, "runStream", "(IZ)V"⟩
abbrev cX8_isFull : ByteArray := prog_10_method_46_code
def yX8_isFull : MethodName := ⟨RX8, "isFull", "(I)Z"⟩
abbrev cX8_queue : ByteArray := prog_10_method_47_code
def yX8_queue : MethodName := ⟨RX8, "queue", "(III)J"⟩
abbrev cX8_count : ByteArray := prog_10_method_48_code
def yX8_count : MethodName := ⟨RX8, "count", "(I)I"⟩
abbrev cX8_flashes : ByteArray := prog_10_method_49_code
def yX8_flashes : MethodName := ⟨RX8, "flashes", "(I)Z"⟩
abbrev cX8_isWay : ByteArray := prog_10_method_50_code
def yX8_isWay : MethodName := ⟨RX8, "isWay", "(IIIIIII)Z"⟩
abbrev cX8_digit : ByteArray := prog_10_method_51_code
def yX8_digit : MethodName := ⟨RX8, "digit", "(II)I"⟩
abbrev cX8_passing : ByteArray := prog_10_method_52_code
def yX8_passing : MethodName := ⟨RX8, "passing", "(IIIZ)I"⟩
abbrev cX8_width : ByteArray := prog_10_method_53_code
def yX8_width : MethodName := ⟨RX8, "width", "(IIIIIIII)I"⟩
abbrev cX8_wave : ByteArray := prog_10_method_54_code
def yX8_wave : MethodName := ⟨RX8, "wave", "(IIIIIIII)I"⟩
abbrev cX8_check : ByteArray := prog_10_method_55_code
def yX8_check : MethodName := ⟨RX8, "check", "(III)I"⟩
abbrev cX8_wasLit : ByteArray := prog_10_method_56_code
def yX8_wasLit : MethodName := ⟨RX8, "wasLit", "(IIIII)Z"⟩
def RJ13 : String := "java/lang/Long"
def TJ13 : u_T := fun k => match k with
  | _ => ("", "", "", false)
def tyJ13 : Nat → FieldType := fun k => match k with
  | _ => .int
theorem nmJ13 : ∀ a, a < 0 → ∀ b, b < 0 → a ≠ b → (TJ13 a).2.1 ≠ (TJ13 b).2.1 := by decide +kernel
theorem tyJ13_ok : ∀ k, k < 0 → parseFieldDescriptor (TJ13 k).2.2.1 = some (tyJ13 k) := by decide +kernel
abbrev cJ13_bitCount_95d88 : ByteArray := prog_11_method_50_code
def yJ13_bitCount_95d88 : MethodName := ⟨RJ13, "bitCount", "(J)I"⟩
def RJ9 : String := "java/lang/Math"
def TJ9 : u_T := fun k => match k with
  | _ => ("", "", "", false)
def tyJ9 : Nat → FieldType := fun k => match k with
  | _ => .int
theorem nmJ9 : ∀ a, a < 0 → ∀ b, b < 0 → a ≠ b → (TJ9 a).2.1 ≠ (TJ9 b).2.1 := by decide +kernel
theorem tyJ9_ok : ∀ k, k < 0 → parseFieldDescriptor (TJ9 k).2.2.1 = some (tyJ9 k) := by decide +kernel
abbrev cJ9_floorMod_7cf53 : ByteArray := prog_12_method_50_code
def yJ9_floorMod_7cf53 : MethodName := ⟨RJ9, "floorMod", "(II)I"⟩
abbrev cJ9_max_7cf53 : ByteArray := prog_12_method_65_code
def yJ9_max_7cf53 : MethodName := ⟨RJ9, "max", "(II)I"⟩
abbrev cJ9_max_f86c9 : ByteArray := prog_12_method_66_code
def yJ9_max_f86c9 : MethodName := ⟨RJ9, "max", "(JJ)J"⟩
abbrev cJ9_min_7cf53 : ByteArray := prog_12_method_69_code
def yJ9_min_7cf53 : MethodName := ⟨RJ9, "min", "(II)I"⟩
abbrev cJ9_min_f86c9 : ByteArray := prog_12_method_70_code
def yJ9_min_f86c9 : MethodName := ⟨RJ9, "min", "(JJ)J"⟩
def RL : String := "GreenDeskLaw"
abbrev cL_law : ByteArray := code
def yL_law : MethodName := ⟨RL, "law", "([I)Z"⟩
abbrev vwCl : List vw_C := [(RX0, TX0, 6), (RX1, TX1, 11), (RX2, TX2, 9), (RX3, TX3, 14), (RX4, TX4, 6), (RX5, TX5, 3), (RX6, TX6, 10), (RX7, TX7, 9), (RX8, TX8, 48)]
end
section
theorem dX0_init_0 : decode cX0_init 0 = .ok (.aload_n 0, 1) := by decide +kernel
theorem dX0_init_1 : decode cX0_init 1 = .ok (.invokespecial 3, 3) := by decide +kernel
theorem dX0_init_4 : decode cX0_init 4 = .ok (.aload_n 0, 1) := by decide +kernel
theorem dX0_init_5 : decode cX0_init 5 = .ok (.bipush 16, 2) := by decide +kernel
theorem dX0_init_7 : decode cX0_init 7 = .ok (.newarray .int, 2) := by decide +kernel
theorem dX0_init_9 : decode cX0_init 9 = .ok (.putfield 9, 3) := by decide +kernel
theorem dX0_init_12 : decode cX0_init 12 = .ok (.aload_n 0, 1) := by decide +kernel
theorem dX0_init_13 : decode cX0_init 13 = .ok (.iconst 4, 1) := by decide +kernel
theorem dX0_init_14 : decode cX0_init 14 = .ok (.newarray .int, 2) := by decide +kernel
theorem dX0_init_16 : decode cX0_init 16 = .ok (.putfield 15, 3) := by decide +kernel
theorem dX0_init_19 : decode cX0_init 19 = .ok (.aload_n 0, 1) := by decide +kernel
theorem dX0_init_20 : decode cX0_init 20 = .ok (.iconst 4, 1) := by decide +kernel
theorem dX0_init_21 : decode cX0_init 21 = .ok (.newarray .int, 2) := by decide +kernel
theorem dX0_init_23 : decode cX0_init 23 = .ok (.putfield 18, 3) := by decide +kernel
theorem dX0_init_26 : decode cX0_init 26 = .ok (.aload_n 0, 1) := by decide +kernel
theorem dX0_init_27 : decode cX0_init 27 = .ok (.iconst 4, 1) := by decide +kernel
theorem dX0_init_28 : decode cX0_init 28 = .ok (.newarray .int, 2) := by decide +kernel
theorem dX0_init_30 : decode cX0_init 30 = .ok (.putfield 21, 3) := by decide +kernel
theorem dX0_init_33 : decode cX0_init 33 = .ok (.return_, 1) := by decide +kernel
theorem dX0_leastCycle_0 : decode cX0_leastCycle 0 = .ok (.aload_n 0, 1) := by decide +kernel
theorem dX0_leastCycle_1 : decode cX0_leastCycle 1 = .ok (.aload_n 1, 1) := by decide +kernel
theorem dX0_leastCycle_2 : decode cX0_leastCycle 2 = .ok (.aload_n 2, 1) := by decide +kernel
theorem dX0_leastCycle_3 : decode cX0_leastCycle 3 = .ok (.invokevirtual 24, 3) := by decide +kernel
theorem dX0_leastCycle_6 : decode cX0_leastCycle 6 = .ok (.ifCond .eq 5, 3) := by decide +kernel
theorem dX0_leastCycle_9 : decode cX0_leastCycle 9 = .ok (.iconst (-1), 1) := by decide +kernel
theorem dX0_leastCycle_10 : decode cX0_leastCycle 10 = .ok (.ireturn, 1) := by decide +kernel
theorem dX0_leastCycle_11 : decode cX0_leastCycle 11 = .ok (.bipush 20, 2) := by decide +kernel
theorem dX0_leastCycle_13 : decode cX0_leastCycle 13 = .ok (.istore_n 3, 1) := by decide +kernel
theorem dX0_leastCycle_14 : decode cX0_leastCycle 14 = .ok (.iload_n 3, 1) := by decide +kernel
theorem dX0_leastCycle_15 : decode cX0_leastCycle 15 = .ok (.bipush 90, 2) := by decide +kernel
theorem dX0_leastCycle_17 : decode cX0_leastCycle 17 = .ok (.if_icmp .gt 37, 3) := by decide +kernel
theorem dX0_leastCycle_20 : decode cX0_leastCycle 20 = .ok (.aload_n 0, 1) := by decide +kernel
theorem dX0_leastCycle_21 : decode cX0_leastCycle 21 = .ok (.aload_n 1, 1) := by decide +kernel
theorem dX0_leastCycle_22 : decode cX0_leastCycle 22 = .ok (.aload_n 2, 1) := by decide +kernel
theorem dX0_leastCycle_23 : decode cX0_leastCycle 23 = .ok (.lconst 1, 1) := by decide +kernel
theorem dX0_leastCycle_24 : decode cX0_leastCycle 24 = .ok (.iload_n 3, 1) := by decide +kernel
theorem dX0_leastCycle_25 : decode cX0_leastCycle 25 = .ok (.i2l, 1) := by decide +kernel
theorem dX0_leastCycle_26 : decode cX0_leastCycle 26 = .ok (.invokevirtual 28, 3) := by decide +kernel
theorem dX0_leastCycle_29 : decode cX0_leastCycle 29 = .ok (.aload_n 0, 1) := by decide +kernel
theorem dX0_leastCycle_30 : decode cX0_leastCycle 30 = .ok (.iload_n 3, 1) := by decide +kernel
theorem dX0_leastCycle_31 : decode cX0_leastCycle 31 = .ok (.aload_n 2, 1) := by decide +kernel
theorem dX0_leastCycle_32 : decode cX0_leastCycle 32 = .ok (.invokevirtual 32, 3) := by decide +kernel
theorem dX0_leastCycle_35 : decode cX0_leastCycle 35 = .ok (.isub, 1) := by decide +kernel
theorem dX0_leastCycle_36 : decode cX0_leastCycle 36 = .ok (.aload_n 2, 1) := by decide +kernel
theorem dX0_leastCycle_37 : decode cX0_leastCycle 37 = .ok (.getfield 38, 3) := by decide +kernel
theorem dX0_leastCycle_40 : decode cX0_leastCycle 40 = .ok (.invokevirtual 42, 3) := by decide +kernel
theorem dX0_leastCycle_43 : decode cX0_leastCycle 43 = .ok (.ifCond .eq 5, 3) := by decide +kernel
theorem dX0_leastCycle_46 : decode cX0_leastCycle 46 = .ok (.iload_n 3, 1) := by decide +kernel
theorem dX0_leastCycle_47 : decode cX0_leastCycle 47 = .ok (.ireturn, 1) := by decide +kernel
theorem dX0_leastCycle_48 : decode cX0_leastCycle 48 = .ok (.iinc 3 1, 3) := by decide +kernel
theorem dX0_leastCycle_51 : decode cX0_leastCycle 51 = .ok (.goto (-37), 3) := by decide +kernel
theorem dX0_leastCycle_54 : decode cX0_leastCycle 54 = .ok (.iconst (-1), 1) := by decide +kernel
theorem dX0_leastCycle_55 : decode cX0_leastCycle 55 = .ok (.ireturn, 1) := by decide +kernel
theorem dX0_leavesOneOut_0 : decode cX0_leavesOneOut 0 = .ok (.iconst 0, 1) := by decide +kernel
theorem dX0_leavesOneOut_1 : decode cX0_leavesOneOut 1 = .ok (.istore_n 3, 1) := by decide +kernel
theorem dX0_leavesOneOut_2 : decode cX0_leavesOneOut 2 = .ok (.iload_n 3, 1) := by decide +kernel
theorem dX0_leavesOneOut_3 : decode cX0_leavesOneOut 3 = .ok (.aload_n 1, 1) := by decide +kernel
theorem dX0_leavesOneOut_4 : decode cX0_leavesOneOut 4 = .ok (.getfield 46, 3) := by decide +kernel
theorem dX0_leavesOneOut_7 : decode cX0_leavesOneOut 7 = .ok (.if_icmp .ge 31, 3) := by decide +kernel
theorem dX0_leavesOneOut_10 : decode cX0_leavesOneOut 10 = .ok (.aload_n 1, 1) := by decide +kernel
theorem dX0_leavesOneOut_11 : decode cX0_leavesOneOut 11 = .ok (.getfield 51, 3) := by decide +kernel
theorem dX0_leavesOneOut_14 : decode cX0_leavesOneOut 14 = .ok (.iload_n 3, 1) := by decide +kernel
theorem dX0_leavesOneOut_15 : decode cX0_leavesOneOut 15 = .ok (.aaload, 1) := by decide +kernel
theorem dX0_leavesOneOut_16 : decode cX0_leavesOneOut 16 = .ok (.getfield 55, 3) := by decide +kernel
theorem dX0_leavesOneOut_19 : decode cX0_leavesOneOut 19 = .ok (.ifCond .le 13, 3) := by decide +kernel
theorem dX0_leavesOneOut_22 : decode cX0_leavesOneOut 22 = .ok (.aload_n 2, 1) := by decide +kernel
theorem dX0_leavesOneOut_23 : decode cX0_leavesOneOut 23 = .ok (.iload_n 3, 1) := by decide +kernel
theorem dX0_leavesOneOut_24 : decode cX0_leavesOneOut 24 = .ok (.invokevirtual 60, 3) := by decide +kernel
theorem dX0_leavesOneOut_27 : decode cX0_leavesOneOut 27 = .ok (.ifCond .ne 5, 3) := by decide +kernel
theorem dX0_leavesOneOut_30 : decode cX0_leavesOneOut 30 = .ok (.iconst 1, 1) := by decide +kernel
theorem dX0_leavesOneOut_31 : decode cX0_leavesOneOut 31 = .ok (.ireturn, 1) := by decide +kernel
theorem dX0_leavesOneOut_32 : decode cX0_leavesOneOut 32 = .ok (.iinc 3 1, 3) := by decide +kernel
theorem dX0_leavesOneOut_35 : decode cX0_leavesOneOut 35 = .ok (.goto (-33), 3) := by decide +kernel
theorem dX0_leavesOneOut_38 : decode cX0_leavesOneOut 38 = .ok (.iconst 0, 1) := by decide +kernel
theorem dX0_leavesOneOut_39 : decode cX0_leavesOneOut 39 = .ok (.ireturn, 1) := by decide +kernel
theorem dX0_findFittest_0 : decode cX0_findFittest 0 = .ok (.aload_n 0, 1) := by decide +kernel
theorem dX0_findFittest_1 : decode cX0_findFittest 1 = .ok (.lconst 1, 1) := by decide +kernel
theorem dX0_findFittest_2 : decode cX0_findFittest 2 = .ok (.putfield 64, 3) := by decide +kernel
theorem dX0_findFittest_5 : decode cX0_findFittest 5 = .ok (.aload_n 0, 1) := by decide +kernel
theorem dX0_findFittest_6 : decode cX0_findFittest 6 = .ok (.lconst 0, 1) := by decide +kernel
theorem dX0_findFittest_7 : decode cX0_findFittest 7 = .ok (.putfield 68, 3) := by decide +kernel
theorem dX0_findFittest_10 : decode cX0_findFittest 10 = .ok (.iconst 0, 1) := by decide +kernel
theorem dX0_findFittest_11 : decode cX0_findFittest 11 = .ok (.istore 4, 2) := by decide +kernel
theorem dX0_findFittest_13 : decode cX0_findFittest 13 = .ok (.iload 4, 2) := by decide +kernel
theorem dX0_findFittest_15 : decode cX0_findFittest 15 = .ok (.aload_n 1, 1) := by decide +kernel
theorem dX0_findFittest_16 : decode cX0_findFittest 16 = .ok (.getfield 46, 3) := by decide +kernel
theorem dX0_findFittest_19 : decode cX0_findFittest 19 = .ok (.if_icmp .ge 66, 3) := by decide +kernel
theorem dX0_findFittest_22 : decode cX0_findFittest 22 = .ok (.aload_n 1, 1) := by decide +kernel
theorem dX0_findFittest_23 : decode cX0_findFittest 23 = .ok (.getfield 51, 3) := by decide +kernel
theorem dX0_findFittest_26 : decode cX0_findFittest 26 = .ok (.iload 4, 2) := by decide +kernel
theorem dX0_findFittest_28 : decode cX0_findFittest 28 = .ok (.aaload, 1) := by decide +kernel
theorem dX0_findFittest_29 : decode cX0_findFittest 29 = .ok (.astore 5, 2) := by decide +kernel
theorem dX0_findFittest_31 : decode cX0_findFittest 31 = .ok (.aload 5, 2) := by decide +kernel
theorem dX0_findFittest_33 : decode cX0_findFittest 33 = .ok (.getfield 55, 3) := by decide +kernel
theorem dX0_findFittest_36 : decode cX0_findFittest 36 = .ok (.ifCond .le 43, 3) := by decide +kernel
theorem dX0_findFittest_39 : decode cX0_findFittest 39 = .ok (.aload_n 2, 1) := by decide +kernel
theorem dX0_findFittest_40 : decode cX0_findFittest 40 = .ok (.iload 4, 2) := by decide +kernel
theorem dX0_findFittest_42 : decode cX0_findFittest 42 = .ok (.invokevirtual 60, 3) := by decide +kernel
theorem dX0_findFittest_45 : decode cX0_findFittest 45 = .ok (.ifCond .eq 34, 3) := by decide +kernel
theorem dX0_findFittest_48 : decode cX0_findFittest 48 = .ok (.aload_n 0, 1) := by decide +kernel
theorem dX0_findFittest_49 : decode cX0_findFittest 49 = .ok (.aload_n 1, 1) := by decide +kernel
theorem dX0_findFittest_50 : decode cX0_findFittest 50 = .ok (.aload_n 2, 1) := by decide +kernel
theorem dX0_findFittest_51 : decode cX0_findFittest 51 = .ok (.iload 4, 2) := by decide +kernel
theorem dX0_findFittest_53 : decode cX0_findFittest 53 = .ok (.iload_n 3, 1) := by decide +kernel
theorem dX0_findFittest_54 : decode cX0_findFittest 54 = .ok (.invokevirtual 71, 3) := by decide +kernel
theorem dX0_findFittest_57 : decode cX0_findFittest 57 = .ok (.istore 6, 2) := by decide +kernel
theorem dX0_findFittest_59 : decode cX0_findFittest 59 = .ok (.aload_n 0, 1) := by decide +kernel
theorem dX0_findFittest_60 : decode cX0_findFittest 60 = .ok (.aload 5, 2) := by decide +kernel
theorem dX0_findFittest_62 : decode cX0_findFittest 62 = .ok (.getfield 55, 3) := by decide +kernel
theorem dX0_findFittest_65 : decode cX0_findFittest 65 = .ok (.i2l, 1) := by decide +kernel
theorem dX0_findFittest_66 : decode cX0_findFittest 66 = .ok (.aload 5, 2) := by decide +kernel
theorem dX0_findFittest_68 : decode cX0_findFittest 68 = .ok (.getfield 75, 3) := by decide +kernel
theorem dX0_findFittest_71 : decode cX0_findFittest 71 = .ok (.i2l, 1) := by decide +kernel
theorem dX0_findFittest_72 : decode cX0_findFittest 72 = .ok (.iload 6, 2) := by decide +kernel
theorem dX0_findFittest_74 : decode cX0_findFittest 74 = .ok (.i2l, 1) := by decide +kernel
theorem dX0_findFittest_75 : decode cX0_findFittest 75 = .ok (.lmul, 1) := by decide +kernel
theorem dX0_findFittest_76 : decode cX0_findFittest 76 = .ok (.invokevirtual 78, 3) := by decide +kernel
theorem dX0_findFittest_79 : decode cX0_findFittest 79 = .ok (.iinc 4 1, 3) := by decide +kernel
theorem dX0_findFittest_82 : decode cX0_findFittest 82 = .ok (.goto (-69), 3) := by decide +kernel
theorem dX0_findFittest_85 : decode cX0_findFittest 85 = .ok (.aload_n 0, 1) := by decide +kernel
theorem dX0_findFittest_86 : decode cX0_findFittest 86 = .ok (.aload_n 1, 1) := by decide +kernel
theorem dX0_findFittest_87 : decode cX0_findFittest 87 = .ok (.aload_n 2, 1) := by decide +kernel
theorem dX0_findFittest_88 : decode cX0_findFittest 88 = .ok (.aload_n 0, 1) := by decide +kernel
theorem dX0_findFittest_89 : decode cX0_findFittest 89 = .ok (.getfield 64, 3) := by decide +kernel
theorem dX0_findFittest_92 : decode cX0_findFittest 92 = .ok (.aload_n 0, 1) := by decide +kernel
theorem dX0_findFittest_93 : decode cX0_findFittest 93 = .ok (.getfield 68, 3) := by decide +kernel
theorem dX0_findFittest_96 : decode cX0_findFittest 96 = .ok (.invokevirtual 28, 3) := by decide +kernel
theorem dX0_findFittest_99 : decode cX0_findFittest 99 = .ok (.aload_n 0, 1) := by decide +kernel
theorem dX0_findFittest_100 : decode cX0_findFittest 100 = .ok (.iload_n 3, 1) := by decide +kernel
theorem dX0_findFittest_101 : decode cX0_findFittest 101 = .ok (.aload_n 2, 1) := by decide +kernel
theorem dX0_findFittest_102 : decode cX0_findFittest 102 = .ok (.getfield 38, 3) := by decide +kernel
theorem dX0_findFittest_105 : decode cX0_findFittest 105 = .ok (.invokevirtual 42, 3) := by decide +kernel
theorem dX0_findFittest_108 : decode cX0_findFittest 108 = .ok (.pop, 1) := by decide +kernel
theorem dX0_findFittest_109 : decode cX0_findFittest 109 = .ok (.return_, 1) := by decide +kernel
theorem dX0_mostGreen_0 : decode cX0_mostGreen 0 = .ok (.iconst 0, 1) := by decide +kernel
theorem dX0_mostGreen_1 : decode cX0_mostGreen 1 = .ok (.istore 5, 2) := by decide +kernel
theorem dX0_mostGreen_3 : decode cX0_mostGreen 3 = .ok (.iload 4, 2) := by decide +kernel
theorem dX0_mostGreen_5 : decode cX0_mostGreen 5 = .ok (.iconst 1, 1) := by decide +kernel
theorem dX0_mostGreen_6 : decode cX0_mostGreen 6 = .ok (.iadd, 1) := by decide +kernel
theorem dX0_mostGreen_7 : decode cX0_mostGreen 7 = .ok (.istore 6, 2) := by decide +kernel
theorem dX0_mostGreen_9 : decode cX0_mostGreen 9 = .ok (.iconst 0, 1) := by decide +kernel
theorem dX0_mostGreen_10 : decode cX0_mostGreen 10 = .ok (.istore 7, 2) := by decide +kernel
theorem dX0_mostGreen_12 : decode cX0_mostGreen 12 = .ok (.iload 7, 2) := by decide +kernel
theorem dX0_mostGreen_14 : decode cX0_mostGreen 14 = .ok (.bipush 90, 2) := by decide +kernel
theorem dX0_mostGreen_16 : decode cX0_mostGreen 16 = .ok (.if_icmp .ge 81, 3) := by decide +kernel
theorem dX0_mostGreen_19 : decode cX0_mostGreen 19 = .ok (.iload 6, 2) := by decide +kernel
theorem dX0_mostGreen_21 : decode cX0_mostGreen 21 = .ok (.iload 5, 2) := by decide +kernel
theorem dX0_mostGreen_23 : decode cX0_mostGreen 23 = .ok (.isub, 1) := by decide +kernel
theorem dX0_mostGreen_24 : decode cX0_mostGreen 24 = .ok (.iconst 1, 1) := by decide +kernel
theorem dX0_mostGreen_25 : decode cX0_mostGreen 25 = .ok (.if_icmp .le 72, 3) := by decide +kernel
theorem dX0_mostGreen_28 : decode cX0_mostGreen 28 = .ok (.iload 5, 2) := by decide +kernel
theorem dX0_mostGreen_30 : decode cX0_mostGreen 30 = .ok (.iload 6, 2) := by decide +kernel
theorem dX0_mostGreen_32 : decode cX0_mostGreen 32 = .ok (.iadd, 1) := by decide +kernel
theorem dX0_mostGreen_33 : decode cX0_mostGreen 33 = .ok (.iconst 2, 1) := by decide +kernel
theorem dX0_mostGreen_34 : decode cX0_mostGreen 34 = .ok (.idiv, 1) := by decide +kernel
theorem dX0_mostGreen_35 : decode cX0_mostGreen 35 = .ok (.istore 8, 2) := by decide +kernel
theorem dX0_mostGreen_37 : decode cX0_mostGreen 37 = .ok (.aload_n 0, 1) := by decide +kernel
theorem dX0_mostGreen_38 : decode cX0_mostGreen 38 = .ok (.aload_n 1, 1) := by decide +kernel
theorem dX0_mostGreen_39 : decode cX0_mostGreen 39 = .ok (.aload_n 2, 1) := by decide +kernel
theorem dX0_mostGreen_40 : decode cX0_mostGreen 40 = .ok (.aload_n 1, 1) := by decide +kernel
theorem dX0_mostGreen_41 : decode cX0_mostGreen 41 = .ok (.getfield 51, 3) := by decide +kernel
theorem dX0_mostGreen_44 : decode cX0_mostGreen 44 = .ok (.iload_n 3, 1) := by decide +kernel
theorem dX0_mostGreen_45 : decode cX0_mostGreen 45 = .ok (.aaload, 1) := by decide +kernel
theorem dX0_mostGreen_46 : decode cX0_mostGreen 46 = .ok (.getfield 55, 3) := by decide +kernel
theorem dX0_mostGreen_49 : decode cX0_mostGreen 49 = .ok (.i2l, 1) := by decide +kernel
theorem dX0_mostGreen_50 : decode cX0_mostGreen 50 = .ok (.aload_n 1, 1) := by decide +kernel
theorem dX0_mostGreen_51 : decode cX0_mostGreen 51 = .ok (.getfield 51, 3) := by decide +kernel
theorem dX0_mostGreen_54 : decode cX0_mostGreen 54 = .ok (.iload_n 3, 1) := by decide +kernel
theorem dX0_mostGreen_55 : decode cX0_mostGreen 55 = .ok (.aaload, 1) := by decide +kernel
theorem dX0_mostGreen_56 : decode cX0_mostGreen 56 = .ok (.getfield 75, 3) := by decide +kernel
theorem dX0_mostGreen_59 : decode cX0_mostGreen 59 = .ok (.i2l, 1) := by decide +kernel
theorem dX0_mostGreen_60 : decode cX0_mostGreen 60 = .ok (.iload 8, 2) := by decide +kernel
theorem dX0_mostGreen_62 : decode cX0_mostGreen 62 = .ok (.i2l, 1) := by decide +kernel
theorem dX0_mostGreen_63 : decode cX0_mostGreen 63 = .ok (.lmul, 1) := by decide +kernel
theorem dX0_mostGreen_64 : decode cX0_mostGreen 64 = .ok (.invokevirtual 28, 3) := by decide +kernel
theorem dX0_mostGreen_67 : decode cX0_mostGreen 67 = .ok (.aload_n 0, 1) := by decide +kernel
theorem dX0_mostGreen_68 : decode cX0_mostGreen 68 = .ok (.iload 4, 2) := by decide +kernel
theorem dX0_mostGreen_70 : decode cX0_mostGreen 70 = .ok (.aload_n 2, 1) := by decide +kernel
theorem dX0_mostGreen_71 : decode cX0_mostGreen 71 = .ok (.getfield 38, 3) := by decide +kernel
theorem dX0_mostGreen_74 : decode cX0_mostGreen 74 = .ok (.invokevirtual 42, 3) := by decide +kernel
theorem dX0_mostGreen_77 : decode cX0_mostGreen 77 = .ok (.ifCond .eq 10, 3) := by decide +kernel
theorem dX0_mostGreen_80 : decode cX0_mostGreen 80 = .ok (.iload 8, 2) := by decide +kernel
theorem dX0_mostGreen_82 : decode cX0_mostGreen 82 = .ok (.istore 5, 2) := by decide +kernel
theorem dX0_mostGreen_84 : decode cX0_mostGreen 84 = .ok (.goto 7, 3) := by decide +kernel
theorem dX0_mostGreen_87 : decode cX0_mostGreen 87 = .ok (.iload 8, 2) := by decide +kernel
theorem dX0_mostGreen_89 : decode cX0_mostGreen 89 = .ok (.istore 6, 2) := by decide +kernel
theorem dX0_mostGreen_91 : decode cX0_mostGreen 91 = .ok (.iinc 7 1, 3) := by decide +kernel
theorem dX0_mostGreen_94 : decode cX0_mostGreen 94 = .ok (.goto (-82), 3) := by decide +kernel
theorem dX0_mostGreen_97 : decode cX0_mostGreen 97 = .ok (.iload 5, 2) := by decide +kernel
theorem dX0_mostGreen_99 : decode cX0_mostGreen 99 = .ok (.ireturn, 1) := by decide +kernel
theorem dX0_keepIfBetter_0 : decode cX0_keepIfBetter 0 = .ok (.lload_n 1, 1) := by decide +kernel
theorem dX0_keepIfBetter_1 : decode cX0_keepIfBetter 1 = .ok (.aload_n 0, 1) := by decide +kernel
theorem dX0_keepIfBetter_2 : decode cX0_keepIfBetter 2 = .ok (.getfield 68, 3) := by decide +kernel
theorem dX0_keepIfBetter_5 : decode cX0_keepIfBetter 5 = .ok (.lmul, 1) := by decide +kernel
theorem dX0_keepIfBetter_6 : decode cX0_keepIfBetter 6 = .ok (.aload_n 0, 1) := by decide +kernel
theorem dX0_keepIfBetter_7 : decode cX0_keepIfBetter 7 = .ok (.getfield 64, 3) := by decide +kernel
theorem dX0_keepIfBetter_10 : decode cX0_keepIfBetter 10 = .ok (.lload_n 3, 1) := by decide +kernel
theorem dX0_keepIfBetter_11 : decode cX0_keepIfBetter 11 = .ok (.lmul, 1) := by decide +kernel
theorem dX0_keepIfBetter_12 : decode cX0_keepIfBetter 12 = .ok (.lcmp, 1) := by decide +kernel
theorem dX0_keepIfBetter_13 : decode cX0_keepIfBetter 13 = .ok (.ifCond .ge 13, 3) := by decide +kernel
theorem dX0_keepIfBetter_16 : decode cX0_keepIfBetter 16 = .ok (.aload_n 0, 1) := by decide +kernel
theorem dX0_keepIfBetter_17 : decode cX0_keepIfBetter 17 = .ok (.lload_n 1, 1) := by decide +kernel
theorem dX0_keepIfBetter_18 : decode cX0_keepIfBetter 18 = .ok (.putfield 64, 3) := by decide +kernel
theorem dX0_keepIfBetter_21 : decode cX0_keepIfBetter 21 = .ok (.aload_n 0, 1) := by decide +kernel
theorem dX0_keepIfBetter_22 : decode cX0_keepIfBetter 22 = .ok (.lload_n 3, 1) := by decide +kernel
theorem dX0_keepIfBetter_23 : decode cX0_keepIfBetter 23 = .ok (.putfield 68, 3) := by decide +kernel
theorem dX0_keepIfBetter_26 : decode cX0_keepIfBetter 26 = .ok (.return_, 1) := by decide +kernel
theorem dX0_askForLoad_0 : decode cX0_askForLoad 0 = .ok (.iconst 0, 1) := by decide +kernel
theorem dX0_askForLoad_1 : decode cX0_askForLoad 1 = .ok (.istore 7, 2) := by decide +kernel
theorem dX0_askForLoad_3 : decode cX0_askForLoad 3 = .ok (.iload 7, 2) := by decide +kernel
theorem dX0_askForLoad_5 : decode cX0_askForLoad 5 = .ok (.aload_n 0, 1) := by decide +kernel
theorem dX0_askForLoad_6 : decode cX0_askForLoad 6 = .ok (.getfield 9, 3) := by decide +kernel
theorem dX0_askForLoad_9 : decode cX0_askForLoad 9 = .ok (.arraylength, 1) := by decide +kernel
theorem dX0_askForLoad_10 : decode cX0_askForLoad 10 = .ok (.if_icmp .ge 17, 3) := by decide +kernel
theorem dX0_askForLoad_13 : decode cX0_askForLoad 13 = .ok (.aload_n 0, 1) := by decide +kernel
theorem dX0_askForLoad_14 : decode cX0_askForLoad 14 = .ok (.getfield 9, 3) := by decide +kernel
theorem dX0_askForLoad_17 : decode cX0_askForLoad 17 = .ok (.iload 7, 2) := by decide +kernel
theorem dX0_askForLoad_19 : decode cX0_askForLoad 19 = .ok (.iconst 0, 1) := by decide +kernel
theorem dX0_askForLoad_20 : decode cX0_askForLoad 20 = .ok (.iastore, 1) := by decide +kernel
theorem dX0_askForLoad_21 : decode cX0_askForLoad 21 = .ok (.iinc 7 1, 3) := by decide +kernel
theorem dX0_askForLoad_24 : decode cX0_askForLoad 24 = .ok (.goto (-21), 3) := by decide +kernel
theorem dX0_askForLoad_27 : decode cX0_askForLoad 27 = .ok (.iconst 0, 1) := by decide +kernel
theorem dX0_askForLoad_28 : decode cX0_askForLoad 28 = .ok (.istore 7, 2) := by decide +kernel
theorem dX0_askForLoad_30 : decode cX0_askForLoad 30 = .ok (.iload 7, 2) := by decide +kernel
theorem dX0_askForLoad_32 : decode cX0_askForLoad 32 = .ok (.aload_n 1, 1) := by decide +kernel
theorem dX0_askForLoad_33 : decode cX0_askForLoad 33 = .ok (.getfield 46, 3) := by decide +kernel
theorem dX0_askForLoad_36 : decode cX0_askForLoad 36 = .ok (.if_icmp .ge 67, 3) := by decide +kernel
theorem dX0_askForLoad_39 : decode cX0_askForLoad 39 = .ok (.aload_n 1, 1) := by decide +kernel
theorem dX0_askForLoad_40 : decode cX0_askForLoad 40 = .ok (.getfield 51, 3) := by decide +kernel
theorem dX0_askForLoad_43 : decode cX0_askForLoad 43 = .ok (.iload 7, 2) := by decide +kernel
theorem dX0_askForLoad_45 : decode cX0_askForLoad 45 = .ok (.aaload, 1) := by decide +kernel
theorem dX0_askForLoad_46 : decode cX0_askForLoad 46 = .ok (.astore 8, 2) := by decide +kernel
theorem dX0_askForLoad_48 : decode cX0_askForLoad 48 = .ok (.aload_n 2, 1) := by decide +kernel
theorem dX0_askForLoad_49 : decode cX0_askForLoad 49 = .ok (.iload 7, 2) := by decide +kernel
theorem dX0_askForLoad_51 : decode cX0_askForLoad 51 = .ok (.invokevirtual 60, 3) := by decide +kernel
theorem dX0_askForLoad_54 : decode cX0_askForLoad 54 = .ok (.istore 9, 2) := by decide +kernel
theorem dX0_askForLoad_56 : decode cX0_askForLoad 56 = .ok (.aload 8, 2) := by decide +kernel
theorem dX0_askForLoad_58 : decode cX0_askForLoad 58 = .ok (.getfield 55, 3) := by decide +kernel
theorem dX0_askForLoad_61 : decode cX0_askForLoad 61 = .ok (.i2l, 1) := by decide +kernel
theorem dX0_askForLoad_62 : decode cX0_askForLoad 62 = .ok (.lload 5, 2) := by decide +kernel
theorem dX0_askForLoad_64 : decode cX0_askForLoad 64 = .ok (.lmul, 1) := by decide +kernel
theorem dX0_askForLoad_65 : decode cX0_askForLoad 65 = .ok (.aload 8, 2) := by decide +kernel
theorem dX0_askForLoad_67 : decode cX0_askForLoad 67 = .ok (.getfield 75, 3) := by decide +kernel
theorem dX0_askForLoad_70 : decode cX0_askForLoad 70 = .ok (.i2l, 1) := by decide +kernel
theorem dX0_askForLoad_71 : decode cX0_askForLoad 71 = .ok (.lload_n 3, 1) := by decide +kernel
theorem dX0_askForLoad_72 : decode cX0_askForLoad 72 = .ok (.lmul, 1) := by decide +kernel
theorem dX0_askForLoad_73 : decode cX0_askForLoad 73 = .ok (.invokestatic 82, 3) := by decide +kernel
theorem dX0_askForLoad_76 : decode cX0_askForLoad 76 = .ok (.istore 10, 2) := by decide +kernel
theorem dX0_askForLoad_78 : decode cX0_askForLoad 78 = .ok (.aload_n 0, 1) := by decide +kernel
theorem dX0_askForLoad_79 : decode cX0_askForLoad 79 = .ok (.getfield 9, 3) := by decide +kernel
theorem dX0_askForLoad_82 : decode cX0_askForLoad 82 = .ok (.iload 9, 2) := by decide +kernel
theorem dX0_askForLoad_84 : decode cX0_askForLoad 84 = .ok (.aload_n 0, 1) := by decide +kernel
theorem dX0_askForLoad_85 : decode cX0_askForLoad 85 = .ok (.getfield 9, 3) := by decide +kernel
theorem dX0_askForLoad_88 : decode cX0_askForLoad 88 = .ok (.iload 9, 2) := by decide +kernel
theorem dX0_askForLoad_90 : decode cX0_askForLoad 90 = .ok (.iaload, 1) := by decide +kernel
theorem dX0_askForLoad_91 : decode cX0_askForLoad 91 = .ok (.iload 10, 2) := by decide +kernel
theorem dX0_askForLoad_93 : decode cX0_askForLoad 93 = .ok (.invokestatic 86, 3) := by decide +kernel
theorem dX0_askForLoad_96 : decode cX0_askForLoad 96 = .ok (.iastore, 1) := by decide +kernel
theorem dX0_askForLoad_97 : decode cX0_askForLoad 97 = .ok (.iinc 7 1, 3) := by decide +kernel
theorem dX0_askForLoad_100 : decode cX0_askForLoad 100 = .ok (.goto (-70), 3) := by decide +kernel
theorem dX0_askForLoad_103 : decode cX0_askForLoad 103 = .ok (.return_, 1) := by decide +kernel
theorem dX0_partsUp_0 : decode cX0_partsUp 0 = .ok (.lload_n 2, 1) := by decide +kernel
theorem dX0_partsUp_1 : decode cX0_partsUp 1 = .ok (.lconst 0, 1) := by decide +kernel
theorem dX0_partsUp_2 : decode cX0_partsUp 2 = .ok (.lcmp, 1) := by decide +kernel
theorem dX0_partsUp_3 : decode cX0_partsUp 3 = .ok (.ifCond .gt 16, 3) := by decide +kernel
theorem dX0_partsUp_6 : decode cX0_partsUp 6 = .ok (.lload_n 0, 1) := by decide +kernel
theorem dX0_partsUp_7 : decode cX0_partsUp 7 = .ok (.lconst 0, 1) := by decide +kernel
theorem dX0_partsUp_8 : decode cX0_partsUp 8 = .ok (.lcmp, 1) := by decide +kernel
theorem dX0_partsUp_9 : decode cX0_partsUp 9 = .ok (.ifCond .le 8, 3) := by decide +kernel
theorem dX0_partsUp_12 : decode cX0_partsUp 12 = .ok (.ldc 92, 2) := by decide +kernel
theorem dX0_partsUp_14 : decode cX0_partsUp 14 = .ok (.goto 4, 3) := by decide +kernel
theorem dX0_partsUp_17 : decode cX0_partsUp 17 = .ok (.iconst 0, 1) := by decide +kernel
theorem dX0_partsUp_18 : decode cX0_partsUp 18 = .ok (.ireturn, 1) := by decide +kernel
theorem dX0_partsUp_19 : decode cX0_partsUp 19 = .ok (.ldc2_w 93, 3) := by decide +kernel
theorem dX0_partsUp_22 : decode cX0_partsUp 22 = .ok (.lload_n 0, 1) := by decide +kernel
theorem dX0_partsUp_23 : decode cX0_partsUp 23 = .ok (.lload_n 2, 1) := by decide +kernel
theorem dX0_partsUp_24 : decode cX0_partsUp 24 = .ok (.ladd, 1) := by decide +kernel
theorem dX0_partsUp_25 : decode cX0_partsUp 25 = .ok (.lconst 1, 1) := by decide +kernel
theorem dX0_partsUp_26 : decode cX0_partsUp 26 = .ok (.lsub, 1) := by decide +kernel
theorem dX0_partsUp_27 : decode cX0_partsUp 27 = .ok (.lload_n 2, 1) := by decide +kernel
theorem dX0_partsUp_28 : decode cX0_partsUp 28 = .ok (.ldiv, 1) := by decide +kernel
theorem dX0_partsUp_29 : decode cX0_partsUp 29 = .ok (.invokestatic 95, 3) := by decide +kernel
theorem dX0_partsUp_32 : decode cX0_partsUp 32 = .ok (.l2i, 1) := by decide +kernel
theorem dX0_partsUp_33 : decode cX0_partsUp 33 = .ok (.ireturn, 1) := by decide +kernel
theorem dX0_deals_0 : decode cX0_deals 0 = .ok (.iconst 1, 1) := by decide +kernel
theorem dX0_deals_1 : decode cX0_deals 1 = .ok (.aload_n 0, 1) := by decide +kernel
theorem dX0_deals_2 : decode cX0_deals 2 = .ok (.getfield 9, 3) := by decide +kernel
theorem dX0_deals_5 : decode cX0_deals 5 = .ok (.iconst 1, 1) := by decide +kernel
theorem dX0_deals_6 : decode cX0_deals 6 = .ok (.iaload, 1) := by decide +kernel
theorem dX0_deals_7 : decode cX0_deals 7 = .ok (.invokestatic 86, 3) := by decide +kernel
theorem dX0_deals_10 : decode cX0_deals 10 = .ok (.istore_n 3, 1) := by decide +kernel
theorem dX0_deals_11 : decode cX0_deals 11 = .ok (.iload_n 3, 1) := by decide +kernel
theorem dX0_deals_12 : decode cX0_deals 12 = .ok (.iload_n 1, 1) := by decide +kernel
theorem dX0_deals_13 : decode cX0_deals 13 = .ok (.if_icmp .ge 30, 3) := by decide +kernel
theorem dX0_deals_16 : decode cX0_deals 16 = .ok (.aload_n 0, 1) := by decide +kernel
theorem dX0_deals_17 : decode cX0_deals 17 = .ok (.iload_n 3, 1) := by decide +kernel
theorem dX0_deals_18 : decode cX0_deals 18 = .ok (.iload_n 1, 1) := by decide +kernel
theorem dX0_deals_19 : decode cX0_deals 19 = .ok (.iload_n 3, 1) := by decide +kernel
theorem dX0_deals_20 : decode cX0_deals 20 = .ok (.isub, 1) := by decide +kernel
theorem dX0_deals_21 : decode cX0_deals 21 = .ok (.iload_n 2, 1) := by decide +kernel
theorem dX0_deals_22 : decode cX0_deals 22 = .ok (.invokevirtual 99, 3) := by decide +kernel
theorem dX0_deals_25 : decode cX0_deals 25 = .ok (.ifCond .eq 12, 3) := by decide +kernel
theorem dX0_deals_28 : decode cX0_deals 28 = .ok (.aload_n 0, 1) := by decide +kernel
theorem dX0_deals_29 : decode cX0_deals 29 = .ok (.getfield 21, 3) := by decide +kernel
theorem dX0_deals_32 : decode cX0_deals 32 = .ok (.iconst 0, 1) := by decide +kernel
theorem dX0_deals_33 : decode cX0_deals 33 = .ok (.iload_n 3, 1) := by decide +kernel
theorem dX0_deals_34 : decode cX0_deals 34 = .ok (.iastore, 1) := by decide +kernel
theorem dX0_deals_35 : decode cX0_deals 35 = .ok (.iconst 1, 1) := by decide +kernel
theorem dX0_deals_36 : decode cX0_deals 36 = .ok (.ireturn, 1) := by decide +kernel
theorem dX0_deals_37 : decode cX0_deals 37 = .ok (.iinc 3 1, 3) := by decide +kernel
theorem dX0_deals_40 : decode cX0_deals 40 = .ok (.goto (-29), 3) := by decide +kernel
theorem dX0_deals_43 : decode cX0_deals 43 = .ok (.iconst 0, 1) := by decide +kernel
theorem dX0_deals_44 : decode cX0_deals 44 = .ok (.ireturn, 1) := by decide +kernel
theorem dX0_dealsBehind_0 : decode cX0_dealsBehind 0 = .ok (.aload_n 0, 1) := by decide +kernel
theorem dX0_dealsBehind_1 : decode cX0_dealsBehind 1 = .ok (.bipush 14, 2) := by decide +kernel
theorem dX0_dealsBehind_3 : decode cX0_dealsBehind 3 = .ok (.iload_n 1, 1) := by decide +kernel
theorem dX0_dealsBehind_4 : decode cX0_dealsBehind 4 = .ok (.invokevirtual 103, 3) := by decide +kernel
theorem dX0_dealsBehind_7 : decode cX0_dealsBehind 7 = .ok (.iload_n 2, 1) := by decide +kernel
theorem dX0_dealsBehind_8 : decode cX0_dealsBehind 8 = .ok (.if_icmp .le 5, 3) := by decide +kernel
theorem dX0_dealsBehind_11 : decode cX0_dealsBehind 11 = .ok (.iconst 0, 1) := by decide +kernel
theorem dX0_dealsBehind_12 : decode cX0_dealsBehind 12 = .ok (.ireturn, 1) := by decide +kernel
theorem dX0_dealsBehind_13 : decode cX0_dealsBehind 13 = .ok (.iconst 1, 1) := by decide +kernel
theorem dX0_dealsBehind_14 : decode cX0_dealsBehind 14 = .ok (.istore 4, 2) := by decide +kernel
theorem dX0_dealsBehind_16 : decode cX0_dealsBehind 16 = .ok (.iload 4, 2) := by decide +kernel
theorem dX0_dealsBehind_18 : decode cX0_dealsBehind 18 = .ok (.iconst 4, 1) := by decide +kernel
theorem dX0_dealsBehind_19 : decode cX0_dealsBehind 19 = .ok (.if_icmp .ge 100, 3) := by decide +kernel
theorem dX0_dealsBehind_22 : decode cX0_dealsBehind 22 = .ok (.iload_n 2, 1) := by decide +kernel
theorem dX0_dealsBehind_23 : decode cX0_dealsBehind 23 = .ok (.aload_n 0, 1) := by decide +kernel
theorem dX0_dealsBehind_24 : decode cX0_dealsBehind 24 = .ok (.bipush 14, 2) := by decide +kernel
theorem dX0_dealsBehind_26 : decode cX0_dealsBehind 26 = .ok (.iconst 1, 1) := by decide +kernel
theorem dX0_dealsBehind_27 : decode cX0_dealsBehind 27 = .ok (.iload 4, 2) := by decide +kernel
theorem dX0_dealsBehind_29 : decode cX0_dealsBehind 29 = .ok (.ishl, 1) := by decide +kernel
theorem dX0_dealsBehind_30 : decode cX0_dealsBehind 30 = .ok (.iconst (-1), 1) := by decide +kernel
theorem dX0_dealsBehind_31 : decode cX0_dealsBehind 31 = .ok (.ixor, 1) := by decide +kernel
theorem dX0_dealsBehind_32 : decode cX0_dealsBehind 32 = .ok (.iand, 1) := by decide +kernel
theorem dX0_dealsBehind_33 : decode cX0_dealsBehind 33 = .ok (.iload_n 1, 1) := by decide +kernel
theorem dX0_dealsBehind_34 : decode cX0_dealsBehind 34 = .ok (.invokevirtual 103, 3) := by decide +kernel
theorem dX0_dealsBehind_37 : decode cX0_dealsBehind 37 = .ok (.isub, 1) := by decide +kernel
theorem dX0_dealsBehind_38 : decode cX0_dealsBehind 38 = .ok (.istore 5, 2) := by decide +kernel
theorem dX0_dealsBehind_40 : decode cX0_dealsBehind 40 = .ok (.aload_n 0, 1) := by decide +kernel
theorem dX0_dealsBehind_41 : decode cX0_dealsBehind 41 = .ok (.getfield 15, 3) := by decide +kernel
theorem dX0_dealsBehind_44 : decode cX0_dealsBehind 44 = .ok (.iload 4, 2) := by decide +kernel
theorem dX0_dealsBehind_46 : decode cX0_dealsBehind 46 = .ok (.iload 4, 2) := by decide +kernel
theorem dX0_dealsBehind_48 : decode cX0_dealsBehind 48 = .ok (.iload_n 3, 1) := by decide +kernel
theorem dX0_dealsBehind_49 : decode cX0_dealsBehind 49 = .ok (.if_icmp .ge 19, 3) := by decide +kernel
theorem dX0_dealsBehind_52 : decode cX0_dealsBehind 52 = .ok (.iconst 1, 1) := by decide +kernel
theorem dX0_dealsBehind_53 : decode cX0_dealsBehind 53 = .ok (.aload_n 0, 1) := by decide +kernel
theorem dX0_dealsBehind_54 : decode cX0_dealsBehind 54 = .ok (.iconst 1, 1) := by decide +kernel
theorem dX0_dealsBehind_55 : decode cX0_dealsBehind 55 = .ok (.iload 4, 2) := by decide +kernel
theorem dX0_dealsBehind_57 : decode cX0_dealsBehind 57 = .ok (.ishl, 1) := by decide +kernel
theorem dX0_dealsBehind_58 : decode cX0_dealsBehind 58 = .ok (.iload_n 1, 1) := by decide +kernel
theorem dX0_dealsBehind_59 : decode cX0_dealsBehind 59 = .ok (.invokevirtual 103, 3) := by decide +kernel
theorem dX0_dealsBehind_62 : decode cX0_dealsBehind 62 = .ok (.invokestatic 86, 3) := by decide +kernel
theorem dX0_dealsBehind_65 : decode cX0_dealsBehind 65 = .ok (.goto 4, 3) := by decide +kernel
theorem dX0_dealsBehind_68 : decode cX0_dealsBehind 68 = .ok (.iconst 0, 1) := by decide +kernel
theorem dX0_dealsBehind_69 : decode cX0_dealsBehind 69 = .ok (.iastore, 1) := by decide +kernel
theorem dX0_dealsBehind_70 : decode cX0_dealsBehind 70 = .ok (.aload_n 0, 1) := by decide +kernel
theorem dX0_dealsBehind_71 : decode cX0_dealsBehind 71 = .ok (.getfield 18, 3) := by decide +kernel
theorem dX0_dealsBehind_74 : decode cX0_dealsBehind 74 = .ok (.iload 4, 2) := by decide +kernel
theorem dX0_dealsBehind_76 : decode cX0_dealsBehind 76 = .ok (.iload 4, 2) := by decide +kernel
theorem dX0_dealsBehind_78 : decode cX0_dealsBehind 78 = .ok (.iload_n 3, 1) := by decide +kernel
theorem dX0_dealsBehind_79 : decode cX0_dealsBehind 79 = .ok (.if_icmp .ge 8, 3) := by decide +kernel
theorem dX0_dealsBehind_82 : decode cX0_dealsBehind 82 = .ok (.iload 5, 2) := by decide +kernel
theorem dX0_dealsBehind_84 : decode cX0_dealsBehind 84 = .ok (.goto 9, 3) := by decide +kernel
theorem dX0_dealsBehind_87 : decode cX0_dealsBehind 87 = .ok (.iconst 0, 1) := by decide +kernel
theorem dX0_dealsBehind_88 : decode cX0_dealsBehind 88 = .ok (.iload 5, 2) := by decide +kernel
theorem dX0_dealsBehind_90 : decode cX0_dealsBehind 90 = .ok (.invokestatic 106, 3) := by decide +kernel
theorem dX0_dealsBehind_93 : decode cX0_dealsBehind 93 = .ok (.iastore, 1) := by decide +kernel
theorem dX0_dealsBehind_94 : decode cX0_dealsBehind 94 = .ok (.aload_n 0, 1) := by decide +kernel
theorem dX0_dealsBehind_95 : decode cX0_dealsBehind 95 = .ok (.getfield 15, 3) := by decide +kernel
theorem dX0_dealsBehind_98 : decode cX0_dealsBehind 98 = .ok (.iload 4, 2) := by decide +kernel
theorem dX0_dealsBehind_100 : decode cX0_dealsBehind 100 = .ok (.iaload, 1) := by decide +kernel
theorem dX0_dealsBehind_101 : decode cX0_dealsBehind 101 = .ok (.aload_n 0, 1) := by decide +kernel
theorem dX0_dealsBehind_102 : decode cX0_dealsBehind 102 = .ok (.getfield 18, 3) := by decide +kernel
theorem dX0_dealsBehind_105 : decode cX0_dealsBehind 105 = .ok (.iload 4, 2) := by decide +kernel
theorem dX0_dealsBehind_107 : decode cX0_dealsBehind 107 = .ok (.iaload, 1) := by decide +kernel
theorem dX0_dealsBehind_108 : decode cX0_dealsBehind 108 = .ok (.if_icmp .le 5, 3) := by decide +kernel
theorem dX0_dealsBehind_111 : decode cX0_dealsBehind 111 = .ok (.iconst 0, 1) := by decide +kernel
theorem dX0_dealsBehind_112 : decode cX0_dealsBehind 112 = .ok (.ireturn, 1) := by decide +kernel
theorem dX0_dealsBehind_113 : decode cX0_dealsBehind 113 = .ok (.iinc 4 1, 3) := by decide +kernel
theorem dX0_dealsBehind_116 : decode cX0_dealsBehind 116 = .ok (.goto (-100), 3) := by decide +kernel
theorem dX0_dealsBehind_119 : decode cX0_dealsBehind 119 = .ok (.aload_n 0, 1) := by decide +kernel
theorem dX0_dealsBehind_120 : decode cX0_dealsBehind 120 = .ok (.getfield 15, 3) := by decide +kernel
theorem dX0_dealsBehind_123 : decode cX0_dealsBehind 123 = .ok (.iconst 1, 1) := by decide +kernel
theorem dX0_dealsBehind_124 : decode cX0_dealsBehind 124 = .ok (.iaload, 1) := by decide +kernel
theorem dX0_dealsBehind_125 : decode cX0_dealsBehind 125 = .ok (.aload_n 0, 1) := by decide +kernel
theorem dX0_dealsBehind_126 : decode cX0_dealsBehind 126 = .ok (.getfield 15, 3) := by decide +kernel
theorem dX0_dealsBehind_129 : decode cX0_dealsBehind 129 = .ok (.iconst 2, 1) := by decide +kernel
theorem dX0_dealsBehind_130 : decode cX0_dealsBehind 130 = .ok (.iaload, 1) := by decide +kernel
theorem dX0_dealsBehind_131 : decode cX0_dealsBehind 131 = .ok (.iadd, 1) := by decide +kernel
theorem dX0_dealsBehind_132 : decode cX0_dealsBehind 132 = .ok (.aload_n 0, 1) := by decide +kernel
theorem dX0_dealsBehind_133 : decode cX0_dealsBehind 133 = .ok (.getfield 15, 3) := by decide +kernel
theorem dX0_dealsBehind_136 : decode cX0_dealsBehind 136 = .ok (.iconst 3, 1) := by decide +kernel
theorem dX0_dealsBehind_137 : decode cX0_dealsBehind 137 = .ok (.iaload, 1) := by decide +kernel
theorem dX0_dealsBehind_138 : decode cX0_dealsBehind 138 = .ok (.iadd, 1) := by decide +kernel
theorem dX0_dealsBehind_139 : decode cX0_dealsBehind 139 = .ok (.iload_n 2, 1) := by decide +kernel
theorem dX0_dealsBehind_140 : decode cX0_dealsBehind 140 = .ok (.if_icmp .gt 27, 3) := by decide +kernel
theorem dX0_dealsBehind_143 : decode cX0_dealsBehind 143 = .ok (.aload_n 0, 1) := by decide +kernel
theorem dX0_dealsBehind_144 : decode cX0_dealsBehind 144 = .ok (.getfield 18, 3) := by decide +kernel
theorem dX0_dealsBehind_147 : decode cX0_dealsBehind 147 = .ok (.iconst 1, 1) := by decide +kernel
theorem dX0_dealsBehind_148 : decode cX0_dealsBehind 148 = .ok (.iaload, 1) := by decide +kernel
theorem dX0_dealsBehind_149 : decode cX0_dealsBehind 149 = .ok (.aload_n 0, 1) := by decide +kernel
theorem dX0_dealsBehind_150 : decode cX0_dealsBehind 150 = .ok (.getfield 18, 3) := by decide +kernel
theorem dX0_dealsBehind_153 : decode cX0_dealsBehind 153 = .ok (.iconst 2, 1) := by decide +kernel
theorem dX0_dealsBehind_154 : decode cX0_dealsBehind 154 = .ok (.iaload, 1) := by decide +kernel
theorem dX0_dealsBehind_155 : decode cX0_dealsBehind 155 = .ok (.iadd, 1) := by decide +kernel
theorem dX0_dealsBehind_156 : decode cX0_dealsBehind 156 = .ok (.aload_n 0, 1) := by decide +kernel
theorem dX0_dealsBehind_157 : decode cX0_dealsBehind 157 = .ok (.getfield 18, 3) := by decide +kernel
theorem dX0_dealsBehind_160 : decode cX0_dealsBehind 160 = .ok (.iconst 3, 1) := by decide +kernel
theorem dX0_dealsBehind_161 : decode cX0_dealsBehind 161 = .ok (.iaload, 1) := by decide +kernel
theorem dX0_dealsBehind_162 : decode cX0_dealsBehind 162 = .ok (.iadd, 1) := by decide +kernel
theorem dX0_dealsBehind_163 : decode cX0_dealsBehind 163 = .ok (.iload_n 2, 1) := by decide +kernel
theorem dX0_dealsBehind_164 : decode cX0_dealsBehind 164 = .ok (.if_icmp .ge 5, 3) := by decide +kernel
theorem dX0_dealsBehind_167 : decode cX0_dealsBehind 167 = .ok (.iconst 0, 1) := by decide +kernel
theorem dX0_dealsBehind_168 : decode cX0_dealsBehind 168 = .ok (.ireturn, 1) := by decide +kernel
theorem dX0_dealsBehind_169 : decode cX0_dealsBehind 169 = .ok (.aload_n 0, 1) := by decide +kernel
theorem dX0_dealsBehind_170 : decode cX0_dealsBehind 170 = .ok (.getfield 21, 3) := by decide +kernel
theorem dX0_dealsBehind_173 : decode cX0_dealsBehind 173 = .ok (.iconst 1, 1) := by decide +kernel
theorem dX0_dealsBehind_174 : decode cX0_dealsBehind 174 = .ok (.aload_n 0, 1) := by decide +kernel
theorem dX0_dealsBehind_175 : decode cX0_dealsBehind 175 = .ok (.getfield 15, 3) := by decide +kernel
theorem dX0_dealsBehind_178 : decode cX0_dealsBehind 178 = .ok (.iconst 1, 1) := by decide +kernel
theorem dX0_dealsBehind_179 : decode cX0_dealsBehind 179 = .ok (.iaload, 1) := by decide +kernel
theorem dX0_dealsBehind_180 : decode cX0_dealsBehind 180 = .ok (.iload_n 2, 1) := by decide +kernel
theorem dX0_dealsBehind_181 : decode cX0_dealsBehind 181 = .ok (.aload_n 0, 1) := by decide +kernel
theorem dX0_dealsBehind_182 : decode cX0_dealsBehind 182 = .ok (.getfield 18, 3) := by decide +kernel
theorem dX0_dealsBehind_185 : decode cX0_dealsBehind 185 = .ok (.iconst 2, 1) := by decide +kernel
theorem dX0_dealsBehind_186 : decode cX0_dealsBehind 186 = .ok (.iaload, 1) := by decide +kernel
theorem dX0_dealsBehind_187 : decode cX0_dealsBehind 187 = .ok (.isub, 1) := by decide +kernel
theorem dX0_dealsBehind_188 : decode cX0_dealsBehind 188 = .ok (.aload_n 0, 1) := by decide +kernel
theorem dX0_dealsBehind_189 : decode cX0_dealsBehind 189 = .ok (.getfield 18, 3) := by decide +kernel
theorem dX0_dealsBehind_192 : decode cX0_dealsBehind 192 = .ok (.iconst 3, 1) := by decide +kernel
theorem dX0_dealsBehind_193 : decode cX0_dealsBehind 193 = .ok (.iaload, 1) := by decide +kernel
theorem dX0_dealsBehind_194 : decode cX0_dealsBehind 194 = .ok (.isub, 1) := by decide +kernel
theorem dX0_dealsBehind_195 : decode cX0_dealsBehind 195 = .ok (.invokestatic 86, 3) := by decide +kernel
theorem dX0_dealsBehind_198 : decode cX0_dealsBehind 198 = .ok (.iastore, 1) := by decide +kernel
theorem dX0_dealsBehind_199 : decode cX0_dealsBehind 199 = .ok (.aload_n 0, 1) := by decide +kernel
theorem dX0_dealsBehind_200 : decode cX0_dealsBehind 200 = .ok (.getfield 21, 3) := by decide +kernel
theorem dX0_dealsBehind_203 : decode cX0_dealsBehind 203 = .ok (.iconst 2, 1) := by decide +kernel
theorem dX0_dealsBehind_204 : decode cX0_dealsBehind 204 = .ok (.aload_n 0, 1) := by decide +kernel
theorem dX0_dealsBehind_205 : decode cX0_dealsBehind 205 = .ok (.getfield 15, 3) := by decide +kernel
theorem dX0_dealsBehind_208 : decode cX0_dealsBehind 208 = .ok (.iconst 2, 1) := by decide +kernel
theorem dX0_dealsBehind_209 : decode cX0_dealsBehind 209 = .ok (.iaload, 1) := by decide +kernel
theorem dX0_dealsBehind_210 : decode cX0_dealsBehind 210 = .ok (.iload_n 2, 1) := by decide +kernel
theorem dX0_dealsBehind_211 : decode cX0_dealsBehind 211 = .ok (.aload_n 0, 1) := by decide +kernel
theorem dX0_dealsBehind_212 : decode cX0_dealsBehind 212 = .ok (.getfield 21, 3) := by decide +kernel
theorem dX0_dealsBehind_215 : decode cX0_dealsBehind 215 = .ok (.iconst 1, 1) := by decide +kernel
theorem dX0_dealsBehind_216 : decode cX0_dealsBehind 216 = .ok (.iaload, 1) := by decide +kernel
theorem dX0_dealsBehind_217 : decode cX0_dealsBehind 217 = .ok (.isub, 1) := by decide +kernel
theorem dX0_dealsBehind_218 : decode cX0_dealsBehind 218 = .ok (.aload_n 0, 1) := by decide +kernel
theorem dX0_dealsBehind_219 : decode cX0_dealsBehind 219 = .ok (.getfield 18, 3) := by decide +kernel
theorem dX0_dealsBehind_222 : decode cX0_dealsBehind 222 = .ok (.iconst 3, 1) := by decide +kernel
theorem dX0_dealsBehind_223 : decode cX0_dealsBehind 223 = .ok (.iaload, 1) := by decide +kernel
theorem dX0_dealsBehind_224 : decode cX0_dealsBehind 224 = .ok (.isub, 1) := by decide +kernel
theorem dX0_dealsBehind_225 : decode cX0_dealsBehind 225 = .ok (.invokestatic 86, 3) := by decide +kernel
theorem dX0_dealsBehind_228 : decode cX0_dealsBehind 228 = .ok (.iastore, 1) := by decide +kernel
theorem dX0_dealsBehind_229 : decode cX0_dealsBehind 229 = .ok (.aload_n 0, 1) := by decide +kernel
theorem dX0_dealsBehind_230 : decode cX0_dealsBehind 230 = .ok (.getfield 21, 3) := by decide +kernel
theorem dX0_dealsBehind_233 : decode cX0_dealsBehind 233 = .ok (.iconst 3, 1) := by decide +kernel
theorem dX0_dealsBehind_234 : decode cX0_dealsBehind 234 = .ok (.iload_n 2, 1) := by decide +kernel
theorem dX0_dealsBehind_235 : decode cX0_dealsBehind 235 = .ok (.aload_n 0, 1) := by decide +kernel
theorem dX0_dealsBehind_236 : decode cX0_dealsBehind 236 = .ok (.getfield 21, 3) := by decide +kernel
theorem dX0_dealsBehind_239 : decode cX0_dealsBehind 239 = .ok (.iconst 1, 1) := by decide +kernel
theorem dX0_dealsBehind_240 : decode cX0_dealsBehind 240 = .ok (.iaload, 1) := by decide +kernel
theorem dX0_dealsBehind_241 : decode cX0_dealsBehind 241 = .ok (.isub, 1) := by decide +kernel
theorem dX0_dealsBehind_242 : decode cX0_dealsBehind 242 = .ok (.aload_n 0, 1) := by decide +kernel
theorem dX0_dealsBehind_243 : decode cX0_dealsBehind 243 = .ok (.getfield 21, 3) := by decide +kernel
theorem dX0_dealsBehind_246 : decode cX0_dealsBehind 246 = .ok (.iconst 2, 1) := by decide +kernel
theorem dX0_dealsBehind_247 : decode cX0_dealsBehind 247 = .ok (.iaload, 1) := by decide +kernel
theorem dX0_dealsBehind_248 : decode cX0_dealsBehind 248 = .ok (.isub, 1) := by decide +kernel
theorem dX0_dealsBehind_249 : decode cX0_dealsBehind 249 = .ok (.iastore, 1) := by decide +kernel
theorem dX0_dealsBehind_250 : decode cX0_dealsBehind 250 = .ok (.iconst 1, 1) := by decide +kernel
theorem dX0_dealsBehind_251 : decode cX0_dealsBehind 251 = .ok (.ireturn, 1) := by decide +kernel
theorem dX0_needBeside_0 : decode cX0_needBeside 0 = .ok (.aload_n 0, 1) := by decide +kernel
theorem dX0_needBeside_1 : decode cX0_needBeside 1 = .ok (.getfield 9, 3) := by decide +kernel
theorem dX0_needBeside_4 : decode cX0_needBeside 4 = .ok (.iload_n 1, 1) := by decide +kernel
theorem dX0_needBeside_5 : decode cX0_needBeside 5 = .ok (.iaload, 1) := by decide +kernel
theorem dX0_needBeside_6 : decode cX0_needBeside 6 = .ok (.aload_n 0, 1) := by decide +kernel
theorem dX0_needBeside_7 : decode cX0_needBeside 7 = .ok (.getfield 9, 3) := by decide +kernel
theorem dX0_needBeside_10 : decode cX0_needBeside 10 = .ok (.iload_n 1, 1) := by decide +kernel
theorem dX0_needBeside_11 : decode cX0_needBeside 11 = .ok (.iconst 1, 1) := by decide +kernel
theorem dX0_needBeside_12 : decode cX0_needBeside 12 = .ok (.ior, 1) := by decide +kernel
theorem dX0_needBeside_13 : decode cX0_needBeside 13 = .ok (.iaload, 1) := by decide +kernel
theorem dX0_needBeside_14 : decode cX0_needBeside 14 = .ok (.iload_n 2, 1) := by decide +kernel
theorem dX0_needBeside_15 : decode cX0_needBeside 15 = .ok (.isub, 1) := by decide +kernel
theorem dX0_needBeside_16 : decode cX0_needBeside 16 = .ok (.invokestatic 86, 3) := by decide +kernel
theorem dX0_needBeside_19 : decode cX0_needBeside 19 = .ok (.ireturn, 1) := by decide +kernel
theorem dX1_init_0 : decode cX1_init 0 = .ok (.aload_n 0, 1) := by decide +kernel
theorem dX1_init_1 : decode cX1_init 1 = .ok (.invokespecial 3, 3) := by decide +kernel
theorem dX1_init_4 : decode cX1_init 4 = .ok (.aload_n 0, 1) := by decide +kernel
theorem dX1_init_5 : decode cX1_init 5 = .ok (.bipush 8, 2) := by decide +kernel
theorem dX1_init_7 : decode cX1_init 7 = .ok (.anewarray 9, 3) := by decide +kernel
theorem dX1_init_10 : decode cX1_init 10 = .ok (.putfield 11, 3) := by decide +kernel
theorem dX1_init_13 : decode cX1_init 13 = .ok (.aload_n 0, 1) := by decide +kernel
theorem dX1_init_14 : decode cX1_init 14 = .ok (.bipush 64, 2) := by decide +kernel
theorem dX1_init_16 : decode cX1_init 16 = .ok (.newarray .int, 2) := by decide +kernel
theorem dX1_init_18 : decode cX1_init 18 = .ok (.putfield 17, 3) := by decide +kernel
theorem dX1_init_21 : decode cX1_init 21 = .ok (.aload_n 0, 1) := by decide +kernel
theorem dX1_init_22 : decode cX1_init 22 = .ok (.bipush 8, 2) := by decide +kernel
theorem dX1_init_24 : decode cX1_init 24 = .ok (.newarray .int, 2) := by decide +kernel
theorem dX1_init_26 : decode cX1_init 26 = .ok (.putfield 21, 3) := by decide +kernel
theorem dX1_init_29 : decode cX1_init 29 = .ok (.aload_n 0, 1) := by decide +kernel
theorem dX1_init_30 : decode cX1_init 30 = .ok (.bipush 8, 2) := by decide +kernel
theorem dX1_init_32 : decode cX1_init 32 = .ok (.newarray .int, 2) := by decide +kernel
theorem dX1_init_34 : decode cX1_init 34 = .ok (.putfield 24, 3) := by decide +kernel
theorem dX1_init_37 : decode cX1_init 37 = .ok (.aload_n 0, 1) := by decide +kernel
theorem dX1_init_38 : decode cX1_init 38 = .ok (.sipush 200, 3) := by decide +kernel
theorem dX1_init_41 : decode cX1_init 41 = .ok (.newarray .int, 2) := by decide +kernel
theorem dX1_init_43 : decode cX1_init 43 = .ok (.putfield 27, 3) := by decide +kernel
theorem dX1_init_46 : decode cX1_init 46 = .ok (.return_, 1) := by decide +kernel
theorem dX1_add_0 : decode cX1_add 0 = .ok (.aload_n 0, 1) := by decide +kernel
theorem dX1_add_1 : decode cX1_add 1 = .ok (.getfield 11, 3) := by decide +kernel
theorem dX1_add_4 : decode cX1_add 4 = .ok (.aload_n 0, 1) := by decide +kernel
theorem dX1_add_5 : decode cX1_add 5 = .ok (.getfield 30, 3) := by decide +kernel
theorem dX1_add_8 : decode cX1_add 8 = .ok (.aload_n 1, 1) := by decide +kernel
theorem dX1_add_9 : decode cX1_add 9 = .ok (.aastore, 1) := by decide +kernel
theorem dX1_add_10 : decode cX1_add 10 = .ok (.aload_n 0, 1) := by decide +kernel
theorem dX1_add_11 : decode cX1_add 11 = .ok (.dup, 1) := by decide +kernel
theorem dX1_add_12 : decode cX1_add 12 = .ok (.getfield 30, 3) := by decide +kernel
theorem dX1_add_15 : decode cX1_add 15 = .ok (.iconst 1, 1) := by decide +kernel
theorem dX1_add_16 : decode cX1_add 16 = .ok (.iadd, 1) := by decide +kernel
theorem dX1_add_17 : decode cX1_add 17 = .ok (.putfield 30, 3) := by decide +kernel
theorem dX1_add_20 : decode cX1_add 20 = .ok (.aload_n 0, 1) := by decide +kernel
theorem dX1_add_21 : decode cX1_add 21 = .ok (.getfield 30, 3) := by decide +kernel
theorem dX1_add_24 : decode cX1_add 24 = .ok (.iconst 1, 1) := by decide +kernel
theorem dX1_add_25 : decode cX1_add 25 = .ok (.isub, 1) := by decide +kernel
theorem dX1_add_26 : decode cX1_add 26 = .ok (.ireturn, 1) := by decide +kernel
theorem dX1_member_0 : decode cX1_member 0 = .ok (.iload_n 1, 1) := by decide +kernel
theorem dX1_member_1 : decode cX1_member 1 = .ok (.ifCond .lt 11, 3) := by decide +kernel
theorem dX1_member_4 : decode cX1_member 4 = .ok (.iload_n 1, 1) := by decide +kernel
theorem dX1_member_5 : decode cX1_member 5 = .ok (.aload_n 0, 1) := by decide +kernel
theorem dX1_member_6 : decode cX1_member 6 = .ok (.getfield 30, 3) := by decide +kernel
theorem dX1_member_9 : decode cX1_member 9 = .ok (.if_icmp .lt 7, 3) := by decide +kernel
theorem dX1_member_12 : decode cX1_member 12 = .ok (.aconst_null, 1) := by decide +kernel
theorem dX1_member_13 : decode cX1_member 13 = .ok (.goto 9, 3) := by decide +kernel
theorem dX1_member_16 : decode cX1_member 16 = .ok (.aload_n 0, 1) := by decide +kernel
theorem dX1_member_17 : decode cX1_member 17 = .ok (.getfield 11, 3) := by decide +kernel
theorem dX1_member_20 : decode cX1_member 20 = .ok (.iload_n 1, 1) := by decide +kernel
theorem dX1_member_21 : decode cX1_member 21 = .ok (.aaload, 1) := by decide +kernel
theorem dX1_member_22 : decode cX1_member 22 = .ok (.areturn, 1) := by decide +kernel
theorem dX1_hasPlan_0 : decode cX1_hasPlan 0 = .ok (.aload_n 0, 1) := by decide +kernel
theorem dX1_hasPlan_1 : decode cX1_hasPlan 1 = .ok (.getfield 34, 3) := by decide +kernel
theorem dX1_hasPlan_4 : decode cX1_hasPlan 4 = .ok (.ifnonnull 10, 3) := by decide +kernel
theorem dX1_hasPlan_7 : decode cX1_hasPlan 7 = .ok (.aload_n 0, 1) := by decide +kernel
theorem dX1_hasPlan_8 : decode cX1_hasPlan 8 = .ok (.getfield 38, 3) := by decide +kernel
theorem dX1_hasPlan_11 : decode cX1_hasPlan 11 = .ok (.ifnull 7, 3) := by decide +kernel
theorem dX1_hasPlan_14 : decode cX1_hasPlan 14 = .ok (.iconst 1, 1) := by decide +kernel
theorem dX1_hasPlan_15 : decode cX1_hasPlan 15 = .ok (.goto 4, 3) := by decide +kernel
theorem dX1_hasPlan_18 : decode cX1_hasPlan 18 = .ok (.iconst 0, 1) := by decide +kernel
theorem dX1_hasPlan_19 : decode cX1_hasPlan 19 = .ok (.ireturn, 1) := by decide +kernel
theorem dX1_oppose_0 : decode cX1_oppose 0 = .ok (.aload_n 0, 1) := by decide +kernel
theorem dX1_oppose_1 : decode cX1_oppose 1 = .ok (.getfield 17, 3) := by decide +kernel
theorem dX1_oppose_4 : decode cX1_oppose 4 = .ok (.iload_n 1, 1) := by decide +kernel
theorem dX1_oppose_5 : decode cX1_oppose 5 = .ok (.bipush 8, 2) := by decide +kernel
theorem dX1_oppose_7 : decode cX1_oppose 7 = .ok (.imul, 1) := by decide +kernel
theorem dX1_oppose_8 : decode cX1_oppose 8 = .ok (.iload_n 2, 1) := by decide +kernel
theorem dX1_oppose_9 : decode cX1_oppose 9 = .ok (.iadd, 1) := by decide +kernel
theorem dX1_oppose_10 : decode cX1_oppose 10 = .ok (.iload_n 3, 1) := by decide +kernel
theorem dX1_oppose_11 : decode cX1_oppose 11 = .ok (.iastore, 1) := by decide +kernel
theorem dX1_oppose_12 : decode cX1_oppose 12 = .ok (.aload_n 0, 1) := by decide +kernel
theorem dX1_oppose_13 : decode cX1_oppose 13 = .ok (.getfield 17, 3) := by decide +kernel
theorem dX1_oppose_16 : decode cX1_oppose 16 = .ok (.iload_n 2, 1) := by decide +kernel
theorem dX1_oppose_17 : decode cX1_oppose 17 = .ok (.bipush 8, 2) := by decide +kernel
theorem dX1_oppose_19 : decode cX1_oppose 19 = .ok (.imul, 1) := by decide +kernel
theorem dX1_oppose_20 : decode cX1_oppose 20 = .ok (.iload_n 1, 1) := by decide +kernel
theorem dX1_oppose_21 : decode cX1_oppose 21 = .ok (.iadd, 1) := by decide +kernel
theorem dX1_oppose_22 : decode cX1_oppose 22 = .ok (.iload 4, 2) := by decide +kernel
theorem dX1_oppose_24 : decode cX1_oppose 24 = .ok (.iastore, 1) := by decide +kernel
theorem dX1_oppose_25 : decode cX1_oppose 25 = .ok (.aload_n 0, 1) := by decide +kernel
theorem dX1_oppose_26 : decode cX1_oppose 26 = .ok (.getfield 21, 3) := by decide +kernel
theorem dX1_oppose_29 : decode cX1_oppose 29 = .ok (.iload_n 1, 1) := by decide +kernel
theorem dX1_oppose_30 : decode cX1_oppose 30 = .ok (.iaload, 1) := by decide +kernel
theorem dX1_oppose_31 : decode cX1_oppose 31 = .ok (.iload_n 2, 1) := by decide +kernel
theorem dX1_oppose_32 : decode cX1_oppose 32 = .ok (.ishr, 1) := by decide +kernel
theorem dX1_oppose_33 : decode cX1_oppose 33 = .ok (.iconst 1, 1) := by decide +kernel
theorem dX1_oppose_34 : decode cX1_oppose 34 = .ok (.iand, 1) := by decide +kernel
theorem dX1_oppose_35 : decode cX1_oppose 35 = .ok (.ifCond .ne 40, 3) := by decide +kernel
theorem dX1_oppose_38 : decode cX1_oppose 38 = .ok (.aload_n 0, 1) := by decide +kernel
theorem dX1_oppose_39 : decode cX1_oppose 39 = .ok (.getfield 21, 3) := by decide +kernel
theorem dX1_oppose_42 : decode cX1_oppose 42 = .ok (.iload_n 2, 1) := by decide +kernel
theorem dX1_oppose_43 : decode cX1_oppose 43 = .ok (.iaload, 1) := by decide +kernel
theorem dX1_oppose_44 : decode cX1_oppose 44 = .ok (.iload_n 1, 1) := by decide +kernel
theorem dX1_oppose_45 : decode cX1_oppose 45 = .ok (.ishr, 1) := by decide +kernel
theorem dX1_oppose_46 : decode cX1_oppose 46 = .ok (.iconst 1, 1) := by decide +kernel
theorem dX1_oppose_47 : decode cX1_oppose 47 = .ok (.iand, 1) := by decide +kernel
theorem dX1_oppose_48 : decode cX1_oppose 48 = .ok (.ifCond .ne 27, 3) := by decide +kernel
theorem dX1_oppose_51 : decode cX1_oppose 51 = .ok (.aload_n 0, 1) := by decide +kernel
theorem dX1_oppose_52 : decode cX1_oppose 52 = .ok (.getfield 24, 3) := by decide +kernel
theorem dX1_oppose_55 : decode cX1_oppose 55 = .ok (.iload_n 1, 1) := by decide +kernel
theorem dX1_oppose_56 : decode cX1_oppose 56 = .ok (.dup2, 1) := by decide +kernel
theorem dX1_oppose_57 : decode cX1_oppose 57 = .ok (.iaload, 1) := by decide +kernel
theorem dX1_oppose_58 : decode cX1_oppose 58 = .ok (.iconst 1, 1) := by decide +kernel
theorem dX1_oppose_59 : decode cX1_oppose 59 = .ok (.iload_n 2, 1) := by decide +kernel
theorem dX1_oppose_60 : decode cX1_oppose 60 = .ok (.ishl, 1) := by decide +kernel
theorem dX1_oppose_61 : decode cX1_oppose 61 = .ok (.ior, 1) := by decide +kernel
theorem dX1_oppose_62 : decode cX1_oppose 62 = .ok (.iastore, 1) := by decide +kernel
theorem dX1_oppose_63 : decode cX1_oppose 63 = .ok (.aload_n 0, 1) := by decide +kernel
theorem dX1_oppose_64 : decode cX1_oppose 64 = .ok (.getfield 24, 3) := by decide +kernel
theorem dX1_oppose_67 : decode cX1_oppose 67 = .ok (.iload_n 2, 1) := by decide +kernel
theorem dX1_oppose_68 : decode cX1_oppose 68 = .ok (.dup2, 1) := by decide +kernel
theorem dX1_oppose_69 : decode cX1_oppose 69 = .ok (.iaload, 1) := by decide +kernel
theorem dX1_oppose_70 : decode cX1_oppose 70 = .ok (.iconst 1, 1) := by decide +kernel
theorem dX1_oppose_71 : decode cX1_oppose 71 = .ok (.iload_n 1, 1) := by decide +kernel
theorem dX1_oppose_72 : decode cX1_oppose 72 = .ok (.ishl, 1) := by decide +kernel
theorem dX1_oppose_73 : decode cX1_oppose 73 = .ok (.ior, 1) := by decide +kernel
theorem dX1_oppose_74 : decode cX1_oppose 74 = .ok (.iastore, 1) := by decide +kernel
theorem dX1_oppose_75 : decode cX1_oppose 75 = .ok (.return_, 1) := by decide +kernel
theorem dX1_mayYield_0 : decode cX1_mayYield 0 = .ok (.aload_n 0, 1) := by decide +kernel
theorem dX1_mayYield_1 : decode cX1_mayYield 1 = .ok (.iload_n 1, 1) := by decide +kernel
theorem dX1_mayYield_2 : decode cX1_mayYield 2 = .ok (.invokevirtual 41, 3) := by decide +kernel
theorem dX1_mayYield_5 : decode cX1_mayYield 5 = .ok (.astore_n 3, 1) := by decide +kernel
theorem dX1_mayYield_6 : decode cX1_mayYield 6 = .ok (.aload_n 0, 1) := by decide +kernel
theorem dX1_mayYield_7 : decode cX1_mayYield 7 = .ok (.iload_n 2, 1) := by decide +kernel
theorem dX1_mayYield_8 : decode cX1_mayYield 8 = .ok (.invokevirtual 41, 3) := by decide +kernel
theorem dX1_mayYield_11 : decode cX1_mayYield 11 = .ok (.astore 4, 2) := by decide +kernel
theorem dX1_mayYield_13 : decode cX1_mayYield 13 = .ok (.aload_n 3, 1) := by decide +kernel
theorem dX1_mayYield_14 : decode cX1_mayYield 14 = .ok (.ifnull 56, 3) := by decide +kernel
theorem dX1_mayYield_17 : decode cX1_mayYield 17 = .ok (.aload 4, 2) := by decide +kernel
theorem dX1_mayYield_19 : decode cX1_mayYield 19 = .ok (.ifnull 51, 3) := by decide +kernel
theorem dX1_mayYield_22 : decode cX1_mayYield 22 = .ok (.aload_n 3, 1) := by decide +kernel
theorem dX1_mayYield_23 : decode cX1_mayYield 23 = .ok (.getfield 45, 3) := by decide +kernel
theorem dX1_mayYield_26 : decode cX1_mayYield 26 = .ok (.iconst 1, 1) := by decide +kernel
theorem dX1_mayYield_27 : decode cX1_mayYield 27 = .ok (.if_icmp .ne 43, 3) := by decide +kernel
theorem dX1_mayYield_30 : decode cX1_mayYield 30 = .ok (.aload 4, 2) := by decide +kernel
theorem dX1_mayYield_32 : decode cX1_mayYield 32 = .ok (.getfield 45, 3) := by decide +kernel
theorem dX1_mayYield_35 : decode cX1_mayYield 35 = .ok (.iconst 1, 1) := by decide +kernel
theorem dX1_mayYield_36 : decode cX1_mayYield 36 = .ok (.if_icmp .eq 34, 3) := by decide +kernel
theorem dX1_mayYield_39 : decode cX1_mayYield 39 = .ok (.aload_n 0, 1) := by decide +kernel
theorem dX1_mayYield_40 : decode cX1_mayYield 40 = .ok (.getfield 17, 3) := by decide +kernel
theorem dX1_mayYield_43 : decode cX1_mayYield 43 = .ok (.iload_n 1, 1) := by decide +kernel
theorem dX1_mayYield_44 : decode cX1_mayYield 44 = .ok (.bipush 8, 2) := by decide +kernel
theorem dX1_mayYield_46 : decode cX1_mayYield 46 = .ok (.imul, 1) := by decide +kernel
theorem dX1_mayYield_47 : decode cX1_mayYield 47 = .ok (.iload_n 2, 1) := by decide +kernel
theorem dX1_mayYield_48 : decode cX1_mayYield 48 = .ok (.iadd, 1) := by decide +kernel
theorem dX1_mayYield_49 : decode cX1_mayYield 49 = .ok (.iaload, 1) := by decide +kernel
theorem dX1_mayYield_50 : decode cX1_mayYield 50 = .ok (.ifCond .eq 20, 3) := by decide +kernel
theorem dX1_mayYield_53 : decode cX1_mayYield 53 = .ok (.aload_n 0, 1) := by decide +kernel
theorem dX1_mayYield_54 : decode cX1_mayYield 54 = .ok (.getfield 21, 3) := by decide +kernel
theorem dX1_mayYield_57 : decode cX1_mayYield 57 = .ok (.iload_n 1, 1) := by decide +kernel
theorem dX1_mayYield_58 : decode cX1_mayYield 58 = .ok (.iaload, 1) := by decide +kernel
theorem dX1_mayYield_59 : decode cX1_mayYield 59 = .ok (.iload_n 2, 1) := by decide +kernel
theorem dX1_mayYield_60 : decode cX1_mayYield 60 = .ok (.ishr, 1) := by decide +kernel
theorem dX1_mayYield_61 : decode cX1_mayYield 61 = .ok (.iconst 1, 1) := by decide +kernel
theorem dX1_mayYield_62 : decode cX1_mayYield 62 = .ok (.iand, 1) := by decide +kernel
theorem dX1_mayYield_63 : decode cX1_mayYield 63 = .ok (.ifCond .ne 7, 3) := by decide +kernel
theorem dX1_mayYield_66 : decode cX1_mayYield 66 = .ok (.iconst 1, 1) := by decide +kernel
theorem dX1_mayYield_67 : decode cX1_mayYield 67 = .ok (.goto 4, 3) := by decide +kernel
theorem dX1_mayYield_70 : decode cX1_mayYield 70 = .ok (.iconst 0, 1) := by decide +kernel
theorem dX1_mayYield_71 : decode cX1_mayYield 71 = .ok (.ireturn, 1) := by decide +kernel
theorem dX1_giveWay_0 : decode cX1_giveWay 0 = .ok (.aload_n 0, 1) := by decide +kernel
theorem dX1_giveWay_1 : decode cX1_giveWay 1 = .ok (.getfield 21, 3) := by decide +kernel
theorem dX1_giveWay_4 : decode cX1_giveWay 4 = .ok (.iload_n 1, 1) := by decide +kernel
theorem dX1_giveWay_5 : decode cX1_giveWay 5 = .ok (.dup2, 1) := by decide +kernel
theorem dX1_giveWay_6 : decode cX1_giveWay 6 = .ok (.iaload, 1) := by decide +kernel
theorem dX1_giveWay_7 : decode cX1_giveWay 7 = .ok (.iconst 1, 1) := by decide +kernel
theorem dX1_giveWay_8 : decode cX1_giveWay 8 = .ok (.iload_n 2, 1) := by decide +kernel
theorem dX1_giveWay_9 : decode cX1_giveWay 9 = .ok (.ishl, 1) := by decide +kernel
theorem dX1_giveWay_10 : decode cX1_giveWay 10 = .ok (.ior, 1) := by decide +kernel
theorem dX1_giveWay_11 : decode cX1_giveWay 11 = .ok (.iastore, 1) := by decide +kernel
theorem dX1_giveWay_12 : decode cX1_giveWay 12 = .ok (.aload_n 0, 1) := by decide +kernel
theorem dX1_giveWay_13 : decode cX1_giveWay 13 = .ok (.getfield 24, 3) := by decide +kernel
theorem dX1_giveWay_16 : decode cX1_giveWay 16 = .ok (.iload_n 1, 1) := by decide +kernel
theorem dX1_giveWay_17 : decode cX1_giveWay 17 = .ok (.dup2, 1) := by decide +kernel
theorem dX1_giveWay_18 : decode cX1_giveWay 18 = .ok (.iaload, 1) := by decide +kernel
theorem dX1_giveWay_19 : decode cX1_giveWay 19 = .ok (.iconst 1, 1) := by decide +kernel
theorem dX1_giveWay_20 : decode cX1_giveWay 20 = .ok (.iload_n 2, 1) := by decide +kernel
theorem dX1_giveWay_21 : decode cX1_giveWay 21 = .ok (.ishl, 1) := by decide +kernel
theorem dX1_giveWay_22 : decode cX1_giveWay 22 = .ok (.iconst (-1), 1) := by decide +kernel
theorem dX1_giveWay_23 : decode cX1_giveWay 23 = .ok (.ixor, 1) := by decide +kernel
theorem dX1_giveWay_24 : decode cX1_giveWay 24 = .ok (.iand, 1) := by decide +kernel
theorem dX1_giveWay_25 : decode cX1_giveWay 25 = .ok (.iastore, 1) := by decide +kernel
theorem dX1_giveWay_26 : decode cX1_giveWay 26 = .ok (.aload_n 0, 1) := by decide +kernel
theorem dX1_giveWay_27 : decode cX1_giveWay 27 = .ok (.getfield 24, 3) := by decide +kernel
theorem dX1_giveWay_30 : decode cX1_giveWay 30 = .ok (.iload_n 2, 1) := by decide +kernel
theorem dX1_giveWay_31 : decode cX1_giveWay 31 = .ok (.dup2, 1) := by decide +kernel
theorem dX1_giveWay_32 : decode cX1_giveWay 32 = .ok (.iaload, 1) := by decide +kernel
theorem dX1_giveWay_33 : decode cX1_giveWay 33 = .ok (.iconst 1, 1) := by decide +kernel
theorem dX1_giveWay_34 : decode cX1_giveWay 34 = .ok (.iload_n 1, 1) := by decide +kernel
theorem dX1_giveWay_35 : decode cX1_giveWay 35 = .ok (.ishl, 1) := by decide +kernel
theorem dX1_giveWay_36 : decode cX1_giveWay 36 = .ok (.iconst (-1), 1) := by decide +kernel
theorem dX1_giveWay_37 : decode cX1_giveWay 37 = .ok (.ixor, 1) := by decide +kernel
theorem dX1_giveWay_38 : decode cX1_giveWay 38 = .ok (.iand, 1) := by decide +kernel
theorem dX1_giveWay_39 : decode cX1_giveWay 39 = .ok (.iastore, 1) := by decide +kernel
theorem dX1_giveWay_40 : decode cX1_giveWay 40 = .ok (.return_, 1) := by decide +kernel
theorem dX1_isSet_0 : decode cX1_isSet 0 = .ok (.iload_n 1, 1) := by decide +kernel
theorem dX1_isSet_1 : decode cX1_isSet 1 = .ok (.ifCond .lt 13, 3) := by decide +kernel
theorem dX1_isSet_4 : decode cX1_isSet 4 = .ok (.iload_n 1, 1) := by decide +kernel
theorem dX1_isSet_5 : decode cX1_isSet 5 = .ok (.iconst 1, 1) := by decide +kernel
theorem dX1_isSet_6 : decode cX1_isSet 6 = .ok (.aload_n 0, 1) := by decide +kernel
theorem dX1_isSet_7 : decode cX1_isSet 7 = .ok (.getfield 30, 3) := by decide +kernel
theorem dX1_isSet_10 : decode cX1_isSet 10 = .ok (.ishl, 1) := by decide +kernel
theorem dX1_isSet_11 : decode cX1_isSet 11 = .ok (.if_icmp .lt 5, 3) := by decide +kernel
theorem dX1_isSet_14 : decode cX1_isSet 14 = .ok (.iconst 0, 1) := by decide +kernel
theorem dX1_isSet_15 : decode cX1_isSet 15 = .ok (.ireturn, 1) := by decide +kernel
theorem dX1_isSet_16 : decode cX1_isSet 16 = .ok (.iconst 0, 1) := by decide +kernel
theorem dX1_isSet_17 : decode cX1_isSet 17 = .ok (.istore_n 2, 1) := by decide +kernel
theorem dX1_isSet_18 : decode cX1_isSet 18 = .ok (.iload_n 2, 1) := by decide +kernel
theorem dX1_isSet_19 : decode cX1_isSet 19 = .ok (.aload_n 0, 1) := by decide +kernel
theorem dX1_isSet_20 : decode cX1_isSet 20 = .ok (.getfield 30, 3) := by decide +kernel
theorem dX1_isSet_23 : decode cX1_isSet 23 = .ok (.if_icmp .ge 30, 3) := by decide +kernel
theorem dX1_isSet_26 : decode cX1_isSet 26 = .ok (.iload_n 1, 1) := by decide +kernel
theorem dX1_isSet_27 : decode cX1_isSet 27 = .ok (.iload_n 2, 1) := by decide +kernel
theorem dX1_isSet_28 : decode cX1_isSet 28 = .ok (.ishr, 1) := by decide +kernel
theorem dX1_isSet_29 : decode cX1_isSet 29 = .ok (.iconst 1, 1) := by decide +kernel
theorem dX1_isSet_30 : decode cX1_isSet 30 = .ok (.iand, 1) := by decide +kernel
theorem dX1_isSet_31 : decode cX1_isSet 31 = .ok (.ifCond .eq 16, 3) := by decide +kernel
theorem dX1_isSet_34 : decode cX1_isSet 34 = .ok (.aload_n 0, 1) := by decide +kernel
theorem dX1_isSet_35 : decode cX1_isSet 35 = .ok (.getfield 24, 3) := by decide +kernel
theorem dX1_isSet_38 : decode cX1_isSet 38 = .ok (.iload_n 2, 1) := by decide +kernel
theorem dX1_isSet_39 : decode cX1_isSet 39 = .ok (.iaload, 1) := by decide +kernel
theorem dX1_isSet_40 : decode cX1_isSet 40 = .ok (.iload_n 1, 1) := by decide +kernel
theorem dX1_isSet_41 : decode cX1_isSet 41 = .ok (.iand, 1) := by decide +kernel
theorem dX1_isSet_42 : decode cX1_isSet 42 = .ok (.ifCond .eq 5, 3) := by decide +kernel
theorem dX1_isSet_45 : decode cX1_isSet 45 = .ok (.iconst 0, 1) := by decide +kernel
theorem dX1_isSet_46 : decode cX1_isSet 46 = .ok (.ireturn, 1) := by decide +kernel
theorem dX1_isSet_47 : decode cX1_isSet 47 = .ok (.iinc 2 1, 3) := by decide +kernel
theorem dX1_isSet_50 : decode cX1_isSet 50 = .ok (.goto (-32), 3) := by decide +kernel
theorem dX1_isSet_53 : decode cX1_isSet 53 = .ok (.iconst 1, 1) := by decide +kernel
theorem dX1_isSet_54 : decode cX1_isSet 54 = .ok (.ireturn, 1) := by decide +kernel
theorem dX1_isGreatest_0 : decode cX1_isGreatest 0 = .ok (.iconst 0, 1) := by decide +kernel
theorem dX1_isGreatest_1 : decode cX1_isGreatest 1 = .ok (.istore_n 2, 1) := by decide +kernel
theorem dX1_isGreatest_2 : decode cX1_isGreatest 2 = .ok (.iload_n 2, 1) := by decide +kernel
theorem dX1_isGreatest_3 : decode cX1_isGreatest 3 = .ok (.aload_n 0, 1) := by decide +kernel
theorem dX1_isGreatest_4 : decode cX1_isGreatest 4 = .ok (.getfield 30, 3) := by decide +kernel
theorem dX1_isGreatest_7 : decode cX1_isGreatest 7 = .ok (.if_icmp .ge 45, 3) := by decide +kernel
theorem dX1_isGreatest_10 : decode cX1_isGreatest 10 = .ok (.iload_n 1, 1) := by decide +kernel
theorem dX1_isGreatest_11 : decode cX1_isGreatest 11 = .ok (.iload_n 2, 1) := by decide +kernel
theorem dX1_isGreatest_12 : decode cX1_isGreatest 12 = .ok (.ishr, 1) := by decide +kernel
theorem dX1_isGreatest_13 : decode cX1_isGreatest 13 = .ok (.iconst 1, 1) := by decide +kernel
theorem dX1_isGreatest_14 : decode cX1_isGreatest 14 = .ok (.iand, 1) := by decide +kernel
theorem dX1_isGreatest_15 : decode cX1_isGreatest 15 = .ok (.ifCond .eq 7, 3) := by decide +kernel
theorem dX1_isGreatest_18 : decode cX1_isGreatest 18 = .ok (.iconst 1, 1) := by decide +kernel
theorem dX1_isGreatest_19 : decode cX1_isGreatest 19 = .ok (.goto 4, 3) := by decide +kernel
theorem dX1_isGreatest_22 : decode cX1_isGreatest 22 = .ok (.iconst 0, 1) := by decide +kernel
theorem dX1_isGreatest_23 : decode cX1_isGreatest 23 = .ok (.istore_n 3, 1) := by decide +kernel
theorem dX1_isGreatest_24 : decode cX1_isGreatest 24 = .ok (.iload_n 3, 1) := by decide +kernel
theorem dX1_isGreatest_25 : decode cX1_isGreatest 25 = .ok (.aload_n 0, 1) := by decide +kernel
theorem dX1_isGreatest_26 : decode cX1_isGreatest 26 = .ok (.getfield 24, 3) := by decide +kernel
theorem dX1_isGreatest_29 : decode cX1_isGreatest 29 = .ok (.iload_n 2, 1) := by decide +kernel
theorem dX1_isGreatest_30 : decode cX1_isGreatest 30 = .ok (.iaload, 1) := by decide +kernel
theorem dX1_isGreatest_31 : decode cX1_isGreatest 31 = .ok (.iload_n 1, 1) := by decide +kernel
theorem dX1_isGreatest_32 : decode cX1_isGreatest 32 = .ok (.iand, 1) := by decide +kernel
theorem dX1_isGreatest_33 : decode cX1_isGreatest 33 = .ok (.ifCond .ne 7, 3) := by decide +kernel
theorem dX1_isGreatest_36 : decode cX1_isGreatest 36 = .ok (.iconst 1, 1) := by decide +kernel
theorem dX1_isGreatest_37 : decode cX1_isGreatest 37 = .ok (.goto 4, 3) := by decide +kernel
theorem dX1_isGreatest_40 : decode cX1_isGreatest 40 = .ok (.iconst 0, 1) := by decide +kernel
theorem dX1_isGreatest_41 : decode cX1_isGreatest 41 = .ok (.if_icmp .eq 5, 3) := by decide +kernel
theorem dX1_isGreatest_44 : decode cX1_isGreatest 44 = .ok (.iconst 0, 1) := by decide +kernel
theorem dX1_isGreatest_45 : decode cX1_isGreatest 45 = .ok (.ireturn, 1) := by decide +kernel
theorem dX1_isGreatest_46 : decode cX1_isGreatest 46 = .ok (.iinc 2 1, 3) := by decide +kernel
theorem dX1_isGreatest_49 : decode cX1_isGreatest 49 = .ok (.goto (-47), 3) := by decide +kernel
theorem dX1_isGreatest_52 : decode cX1_isGreatest 52 = .ok (.iconst 1, 1) := by decide +kernel
theorem dX1_isGreatest_53 : decode cX1_isGreatest 53 = .ok (.ireturn, 1) := by decide +kernel
theorem dX1_greatestSets_0 : decode cX1_greatestSets 0 = .ok (.iconst 0, 1) := by decide +kernel
theorem dX1_greatestSets_1 : decode cX1_greatestSets 1 = .ok (.istore_n 1, 1) := by decide +kernel
theorem dX1_greatestSets_2 : decode cX1_greatestSets 2 = .ok (.iconst 1, 1) := by decide +kernel
theorem dX1_greatestSets_3 : decode cX1_greatestSets 3 = .ok (.istore_n 2, 1) := by decide +kernel
theorem dX1_greatestSets_4 : decode cX1_greatestSets 4 = .ok (.iload_n 2, 1) := by decide +kernel
theorem dX1_greatestSets_5 : decode cX1_greatestSets 5 = .ok (.iconst 1, 1) := by decide +kernel
theorem dX1_greatestSets_6 : decode cX1_greatestSets 6 = .ok (.aload_n 0, 1) := by decide +kernel
theorem dX1_greatestSets_7 : decode cX1_greatestSets 7 = .ok (.getfield 30, 3) := by decide +kernel
theorem dX1_greatestSets_10 : decode cX1_greatestSets 10 = .ok (.ishl, 1) := by decide +kernel
theorem dX1_greatestSets_11 : decode cX1_greatestSets 11 = .ok (.if_icmp .ge 20, 3) := by decide +kernel
theorem dX1_greatestSets_14 : decode cX1_greatestSets 14 = .ok (.aload_n 0, 1) := by decide +kernel
theorem dX1_greatestSets_15 : decode cX1_greatestSets 15 = .ok (.iload_n 2, 1) := by decide +kernel
theorem dX1_greatestSets_16 : decode cX1_greatestSets 16 = .ok (.invokevirtual 48, 3) := by decide +kernel
theorem dX1_greatestSets_19 : decode cX1_greatestSets 19 = .ok (.ifCond .eq 6, 3) := by decide +kernel
theorem dX1_greatestSets_22 : decode cX1_greatestSets 22 = .ok (.iinc 1 1, 3) := by decide +kernel
theorem dX1_greatestSets_25 : decode cX1_greatestSets 25 = .ok (.iinc 2 1, 3) := by decide +kernel
theorem dX1_greatestSets_28 : decode cX1_greatestSets 28 = .ok (.goto (-24), 3) := by decide +kernel
theorem dX1_greatestSets_31 : decode cX1_greatestSets 31 = .ok (.iload_n 1, 1) := by decide +kernel
theorem dX1_greatestSets_32 : decode cX1_greatestSets 32 = .ok (.ireturn, 1) := by decide +kernel
theorem dX1_greatestSet_0 : decode cX1_greatestSet 0 = .ok (.iconst 0, 1) := by decide +kernel
theorem dX1_greatestSet_1 : decode cX1_greatestSet 1 = .ok (.istore_n 2, 1) := by decide +kernel
theorem dX1_greatestSet_2 : decode cX1_greatestSet 2 = .ok (.iconst 1, 1) := by decide +kernel
theorem dX1_greatestSet_3 : decode cX1_greatestSet 3 = .ok (.istore_n 3, 1) := by decide +kernel
theorem dX1_greatestSet_4 : decode cX1_greatestSet 4 = .ok (.iload_n 3, 1) := by decide +kernel
theorem dX1_greatestSet_5 : decode cX1_greatestSet 5 = .ok (.iconst 1, 1) := by decide +kernel
theorem dX1_greatestSet_6 : decode cX1_greatestSet 6 = .ok (.aload_n 0, 1) := by decide +kernel
theorem dX1_greatestSet_7 : decode cX1_greatestSet 7 = .ok (.getfield 30, 3) := by decide +kernel
theorem dX1_greatestSet_10 : decode cX1_greatestSet 10 = .ok (.ishl, 1) := by decide +kernel
theorem dX1_greatestSet_11 : decode cX1_greatestSet 11 = .ok (.if_icmp .ge 27, 3) := by decide +kernel
theorem dX1_greatestSet_14 : decode cX1_greatestSet 14 = .ok (.aload_n 0, 1) := by decide +kernel
theorem dX1_greatestSet_15 : decode cX1_greatestSet 15 = .ok (.iload_n 3, 1) := by decide +kernel
theorem dX1_greatestSet_16 : decode cX1_greatestSet 16 = .ok (.invokevirtual 48, 3) := by decide +kernel
theorem dX1_greatestSet_19 : decode cX1_greatestSet 19 = .ok (.ifCond .eq 13, 3) := by decide +kernel
theorem dX1_greatestSet_22 : decode cX1_greatestSet 22 = .ok (.iload_n 2, 1) := by decide +kernel
theorem dX1_greatestSet_23 : decode cX1_greatestSet 23 = .ok (.iload_n 1, 1) := by decide +kernel
theorem dX1_greatestSet_24 : decode cX1_greatestSet 24 = .ok (.if_icmp .ne 5, 3) := by decide +kernel
theorem dX1_greatestSet_27 : decode cX1_greatestSet 27 = .ok (.iload_n 3, 1) := by decide +kernel
theorem dX1_greatestSet_28 : decode cX1_greatestSet 28 = .ok (.ireturn, 1) := by decide +kernel
theorem dX1_greatestSet_29 : decode cX1_greatestSet 29 = .ok (.iinc 2 1, 3) := by decide +kernel
theorem dX1_greatestSet_32 : decode cX1_greatestSet 32 = .ok (.iinc 3 1, 3) := by decide +kernel
theorem dX1_greatestSet_35 : decode cX1_greatestSet 35 = .ok (.goto (-31), 3) := by decide +kernel
theorem dX1_greatestSet_38 : decode cX1_greatestSet 38 = .ok (.iconst (-1), 1) := by decide +kernel
theorem dX1_greatestSet_39 : decode cX1_greatestSet 39 = .ok (.ireturn, 1) := by decide +kernel
theorem dX1_measureBetweens_0 : decode cX1_measureBetweens 0 = .ok (.iconst 0, 1) := by decide +kernel
theorem dX1_measureBetweens_1 : decode cX1_measureBetweens 1 = .ok (.istore_n 2, 1) := by decide +kernel
theorem dX1_measureBetweens_2 : decode cX1_measureBetweens 2 = .ok (.iload_n 2, 1) := by decide +kernel
theorem dX1_measureBetweens_3 : decode cX1_measureBetweens 3 = .ok (.aload_n 1, 1) := by decide +kernel
theorem dX1_measureBetweens_4 : decode cX1_measureBetweens 4 = .ok (.getfield 52, 3) := by decide +kernel
theorem dX1_measureBetweens_7 : decode cX1_measureBetweens 7 = .ok (.if_icmp .ge 50, 3) := by decide +kernel
theorem dX1_measureBetweens_10 : decode cX1_measureBetweens 10 = .ok (.aload_n 1, 1) := by decide +kernel
theorem dX1_measureBetweens_11 : decode cX1_measureBetweens 11 = .ok (.getfield 57, 3) := by decide +kernel
theorem dX1_measureBetweens_14 : decode cX1_measureBetweens 14 = .ok (.iload_n 2, 1) := by decide +kernel
theorem dX1_measureBetweens_15 : decode cX1_measureBetweens 15 = .ok (.iaload, 1) := by decide +kernel
theorem dX1_measureBetweens_16 : decode cX1_measureBetweens 16 = .ok (.istore_n 3, 1) := by decide +kernel
theorem dX1_measureBetweens_17 : decode cX1_measureBetweens 17 = .ok (.aload_n 1, 1) := by decide +kernel
theorem dX1_measureBetweens_18 : decode cX1_measureBetweens 18 = .ok (.getfield 57, 3) := by decide +kernel
theorem dX1_measureBetweens_21 : decode cX1_measureBetweens 21 = .ok (.aload_n 1, 1) := by decide +kernel
theorem dX1_measureBetweens_22 : decode cX1_measureBetweens 22 = .ok (.iload_n 2, 1) := by decide +kernel
theorem dX1_measureBetweens_23 : decode cX1_measureBetweens 23 = .ok (.invokevirtual 60, 3) := by decide +kernel
theorem dX1_measureBetweens_26 : decode cX1_measureBetweens 26 = .ok (.iaload, 1) := by decide +kernel
theorem dX1_measureBetweens_27 : decode cX1_measureBetweens 27 = .ok (.istore 4, 2) := by decide +kernel
theorem dX1_measureBetweens_29 : decode cX1_measureBetweens 29 = .ok (.aload_n 1, 1) := by decide +kernel
theorem dX1_measureBetweens_30 : decode cX1_measureBetweens 30 = .ok (.getfield 64, 3) := by decide +kernel
theorem dX1_measureBetweens_33 : decode cX1_measureBetweens 33 = .ok (.iload_n 2, 1) := by decide +kernel
theorem dX1_measureBetweens_34 : decode cX1_measureBetweens 34 = .ok (.aload_n 0, 1) := by decide +kernel
theorem dX1_measureBetweens_35 : decode cX1_measureBetweens 35 = .ok (.iload_n 3, 1) := by decide +kernel
theorem dX1_measureBetweens_36 : decode cX1_measureBetweens 36 = .ok (.iload 4, 2) := by decide +kernel
theorem dX1_measureBetweens_38 : decode cX1_measureBetweens 38 = .ok (.iconst (-1), 1) := by decide +kernel
theorem dX1_measureBetweens_39 : decode cX1_measureBetweens 39 = .ok (.ixor, 1) := by decide +kernel
theorem dX1_measureBetweens_40 : decode cX1_measureBetweens 40 = .ok (.iand, 1) := by decide +kernel
theorem dX1_measureBetweens_41 : decode cX1_measureBetweens 41 = .ok (.iload 4, 2) := by decide +kernel
theorem dX1_measureBetweens_43 : decode cX1_measureBetweens 43 = .ok (.iload_n 3, 1) := by decide +kernel
theorem dX1_measureBetweens_44 : decode cX1_measureBetweens 44 = .ok (.iconst (-1), 1) := by decide +kernel
theorem dX1_measureBetweens_45 : decode cX1_measureBetweens 45 = .ok (.ixor, 1) := by decide +kernel
theorem dX1_measureBetweens_46 : decode cX1_measureBetweens 46 = .ok (.iand, 1) := by decide +kernel
theorem dX1_measureBetweens_47 : decode cX1_measureBetweens 47 = .ok (.invokevirtual 67, 3) := by decide +kernel
theorem dX1_measureBetweens_50 : decode cX1_measureBetweens 50 = .ok (.iastore, 1) := by decide +kernel
theorem dX1_measureBetweens_51 : decode cX1_measureBetweens 51 = .ok (.iinc 2 1, 3) := by decide +kernel
theorem dX1_measureBetweens_54 : decode cX1_measureBetweens 54 = .ok (.goto (-52), 3) := by decide +kernel
theorem dX1_measureBetweens_57 : decode cX1_measureBetweens 57 = .ok (.return_, 1) := by decide +kernel
theorem dX1_between_0 : decode cX1_between 0 = .ok (.iconst 0, 1) := by decide +kernel
theorem dX1_between_1 : decode cX1_between 1 = .ok (.istore_n 3, 1) := by decide +kernel
theorem dX1_between_2 : decode cX1_between 2 = .ok (.iconst 0, 1) := by decide +kernel
theorem dX1_between_3 : decode cX1_between 3 = .ok (.istore 4, 2) := by decide +kernel
theorem dX1_between_5 : decode cX1_between 5 = .ok (.iload 4, 2) := by decide +kernel
theorem dX1_between_7 : decode cX1_between 7 = .ok (.aload_n 0, 1) := by decide +kernel
theorem dX1_between_8 : decode cX1_between 8 = .ok (.getfield 30, 3) := by decide +kernel
theorem dX1_between_11 : decode cX1_between 11 = .ok (.if_icmp .ge 84, 3) := by decide +kernel
theorem dX1_between_14 : decode cX1_between 14 = .ok (.iload_n 1, 1) := by decide +kernel
theorem dX1_between_15 : decode cX1_between 15 = .ok (.iload 4, 2) := by decide +kernel
theorem dX1_between_17 : decode cX1_between 17 = .ok (.ishr, 1) := by decide +kernel
theorem dX1_between_18 : decode cX1_between 18 = .ok (.iconst 1, 1) := by decide +kernel
theorem dX1_between_19 : decode cX1_between 19 = .ok (.iand, 1) := by decide +kernel
theorem dX1_between_20 : decode cX1_between 20 = .ok (.ifCond .ne 7, 3) := by decide +kernel
theorem dX1_between_23 : decode cX1_between 23 = .ok (.iconst 0, 1) := by decide +kernel
theorem dX1_between_24 : decode cX1_between 24 = .ok (.goto 12, 3) := by decide +kernel
theorem dX1_between_27 : decode cX1_between 27 = .ok (.aload_n 0, 1) := by decide +kernel
theorem dX1_between_28 : decode cX1_between 28 = .ok (.getfield 24, 3) := by decide +kernel
theorem dX1_between_31 : decode cX1_between 31 = .ok (.iload 4, 2) := by decide +kernel
theorem dX1_between_33 : decode cX1_between 33 = .ok (.iaload, 1) := by decide +kernel
theorem dX1_between_34 : decode cX1_between 34 = .ok (.iload_n 2, 1) := by decide +kernel
theorem dX1_between_35 : decode cX1_between 35 = .ok (.iand, 1) := by decide +kernel
theorem dX1_between_36 : decode cX1_between 36 = .ok (.istore 5, 2) := by decide +kernel
theorem dX1_between_38 : decode cX1_between 38 = .ok (.iconst 0, 1) := by decide +kernel
theorem dX1_between_39 : decode cX1_between 39 = .ok (.istore 6, 2) := by decide +kernel
theorem dX1_between_41 : decode cX1_between 41 = .ok (.iload 6, 2) := by decide +kernel
theorem dX1_between_43 : decode cX1_between 43 = .ok (.aload_n 0, 1) := by decide +kernel
theorem dX1_between_44 : decode cX1_between 44 = .ok (.getfield 30, 3) := by decide +kernel
theorem dX1_between_47 : decode cX1_between 47 = .ok (.if_icmp .ge 42, 3) := by decide +kernel
theorem dX1_between_50 : decode cX1_between 50 = .ok (.iload 5, 2) := by decide +kernel
theorem dX1_between_52 : decode cX1_between 52 = .ok (.ifCond .eq 37, 3) := by decide +kernel
theorem dX1_between_55 : decode cX1_between 55 = .ok (.iload 5, 2) := by decide +kernel
theorem dX1_between_57 : decode cX1_between 57 = .ok (.iload 6, 2) := by decide +kernel
theorem dX1_between_59 : decode cX1_between 59 = .ok (.ishr, 1) := by decide +kernel
theorem dX1_between_60 : decode cX1_between 60 = .ok (.iconst 1, 1) := by decide +kernel
theorem dX1_between_61 : decode cX1_between 61 = .ok (.iand, 1) := by decide +kernel
theorem dX1_between_62 : decode cX1_between 62 = .ok (.ifCond .eq 21, 3) := by decide +kernel
theorem dX1_between_65 : decode cX1_between 65 = .ok (.iload_n 3, 1) := by decide +kernel
theorem dX1_between_66 : decode cX1_between 66 = .ok (.aload_n 0, 1) := by decide +kernel
theorem dX1_between_67 : decode cX1_between 67 = .ok (.getfield 17, 3) := by decide +kernel
theorem dX1_between_70 : decode cX1_between 70 = .ok (.iload 4, 2) := by decide +kernel
theorem dX1_between_72 : decode cX1_between 72 = .ok (.bipush 8, 2) := by decide +kernel
theorem dX1_between_74 : decode cX1_between 74 = .ok (.imul, 1) := by decide +kernel
theorem dX1_between_75 : decode cX1_between 75 = .ok (.iload 6, 2) := by decide +kernel
theorem dX1_between_77 : decode cX1_between 77 = .ok (.iadd, 1) := by decide +kernel
theorem dX1_between_78 : decode cX1_between 78 = .ok (.iaload, 1) := by decide +kernel
theorem dX1_between_79 : decode cX1_between 79 = .ok (.invokestatic 71, 3) := by decide +kernel
theorem dX1_between_82 : decode cX1_between 82 = .ok (.istore_n 3, 1) := by decide +kernel
theorem dX1_between_83 : decode cX1_between 83 = .ok (.iinc 6 1, 3) := by decide +kernel
theorem dX1_between_86 : decode cX1_between 86 = .ok (.goto (-45), 3) := by decide +kernel
theorem dX1_between_89 : decode cX1_between 89 = .ok (.iinc 4 1, 3) := by decide +kernel
theorem dX1_between_92 : decode cX1_between 92 = .ok (.goto (-87), 3) := by decide +kernel
theorem dX1_between_95 : decode cX1_between 95 = .ok (.iload_n 3, 1) := by decide +kernel
theorem dX1_between_96 : decode cX1_between 96 = .ok (.ireturn, 1) := by decide +kernel
theorem dX1_firstShortGreen_0 : decode cX1_firstShortGreen 0 = .ok (.aload_n 1, 1) := by decide +kernel
theorem dX1_firstShortGreen_1 : decode cX1_firstShortGreen 1 = .ok (.getfield 76, 3) := by decide +kernel
theorem dX1_firstShortGreen_4 : decode cX1_firstShortGreen 4 = .ok (.iload_n 2, 1) := by decide +kernel
theorem dX1_firstShortGreen_5 : decode cX1_firstShortGreen 5 = .ok (.ifCond .ne 12, 3) := by decide +kernel
theorem dX1_firstShortGreen_8 : decode cX1_firstShortGreen 8 = .ok (.aload_n 1, 1) := by decide +kernel
theorem dX1_firstShortGreen_9 : decode cX1_firstShortGreen 9 = .ok (.getfield 79, 3) := by decide +kernel
theorem dX1_firstShortGreen_12 : decode cX1_firstShortGreen 12 = .ok (.iconst 1, 1) := by decide +kernel
theorem dX1_firstShortGreen_13 : decode cX1_firstShortGreen 13 = .ok (.isub, 1) := by decide +kernel
theorem dX1_firstShortGreen_14 : decode cX1_firstShortGreen 14 = .ok (.goto 6, 3) := by decide +kernel
theorem dX1_firstShortGreen_17 : decode cX1_firstShortGreen 17 = .ok (.iload_n 2, 1) := by decide +kernel
theorem dX1_firstShortGreen_18 : decode cX1_firstShortGreen 18 = .ok (.iconst 1, 1) := by decide +kernel
theorem dX1_firstShortGreen_19 : decode cX1_firstShortGreen 19 = .ok (.isub, 1) := by decide +kernel
theorem dX1_firstShortGreen_20 : decode cX1_firstShortGreen 20 = .ok (.iaload, 1) := by decide +kernel
theorem dX1_firstShortGreen_21 : decode cX1_firstShortGreen 21 = .ok (.istore_n 3, 1) := by decide +kernel
theorem dX1_firstShortGreen_22 : decode cX1_firstShortGreen 22 = .ok (.aload_n 1, 1) := by decide +kernel
theorem dX1_firstShortGreen_23 : decode cX1_firstShortGreen 23 = .ok (.getfield 76, 3) := by decide +kernel
theorem dX1_firstShortGreen_26 : decode cX1_firstShortGreen 26 = .ok (.iload_n 2, 1) := by decide +kernel
theorem dX1_firstShortGreen_27 : decode cX1_firstShortGreen 27 = .ok (.iaload, 1) := by decide +kernel
theorem dX1_firstShortGreen_28 : decode cX1_firstShortGreen 28 = .ok (.iload_n 3, 1) := by decide +kernel
theorem dX1_firstShortGreen_29 : decode cX1_firstShortGreen 29 = .ok (.iconst (-1), 1) := by decide +kernel
theorem dX1_firstShortGreen_30 : decode cX1_firstShortGreen 30 = .ok (.ixor, 1) := by decide +kernel
theorem dX1_firstShortGreen_31 : decode cX1_firstShortGreen 31 = .ok (.iand, 1) := by decide +kernel
theorem dX1_firstShortGreen_32 : decode cX1_firstShortGreen 32 = .ok (.istore 4, 2) := by decide +kernel
theorem dX1_firstShortGreen_34 : decode cX1_firstShortGreen 34 = .ok (.iconst 0, 1) := by decide +kernel
theorem dX1_firstShortGreen_35 : decode cX1_firstShortGreen 35 = .ok (.istore 5, 2) := by decide +kernel
theorem dX1_firstShortGreen_37 : decode cX1_firstShortGreen 37 = .ok (.iload 5, 2) := by decide +kernel
theorem dX1_firstShortGreen_39 : decode cX1_firstShortGreen 39 = .ok (.aload_n 0, 1) := by decide +kernel
theorem dX1_firstShortGreen_40 : decode cX1_firstShortGreen 40 = .ok (.getfield 30, 3) := by decide +kernel
theorem dX1_firstShortGreen_43 : decode cX1_firstShortGreen 43 = .ok (.if_icmp .ge 38, 3) := by decide +kernel
theorem dX1_firstShortGreen_46 : decode cX1_firstShortGreen 46 = .ok (.iload 4, 2) := by decide +kernel
theorem dX1_firstShortGreen_48 : decode cX1_firstShortGreen 48 = .ok (.ifCond .eq 33, 3) := by decide +kernel
theorem dX1_firstShortGreen_51 : decode cX1_firstShortGreen 51 = .ok (.iload 4, 2) := by decide +kernel
theorem dX1_firstShortGreen_53 : decode cX1_firstShortGreen 53 = .ok (.iload 5, 2) := by decide +kernel
theorem dX1_firstShortGreen_55 : decode cX1_firstShortGreen 55 = .ok (.ishr, 1) := by decide +kernel
theorem dX1_firstShortGreen_56 : decode cX1_firstShortGreen 56 = .ok (.iconst 1, 1) := by decide +kernel
theorem dX1_firstShortGreen_57 : decode cX1_firstShortGreen 57 = .ok (.iand, 1) := by decide +kernel
theorem dX1_firstShortGreen_58 : decode cX1_firstShortGreen 58 = .ok (.ifCond .eq 17, 3) := by decide +kernel
theorem dX1_firstShortGreen_61 : decode cX1_firstShortGreen 61 = .ok (.aload_n 0, 1) := by decide +kernel
theorem dX1_firstShortGreen_62 : decode cX1_firstShortGreen 62 = .ok (.aload_n 1, 1) := by decide +kernel
theorem dX1_firstShortGreen_63 : decode cX1_firstShortGreen 63 = .ok (.iload 5, 2) := by decide +kernel
theorem dX1_firstShortGreen_65 : decode cX1_firstShortGreen 65 = .ok (.iload_n 2, 1) := by decide +kernel
theorem dX1_firstShortGreen_66 : decode cX1_firstShortGreen 66 = .ok (.invokevirtual 82, 3) := by decide +kernel
theorem dX1_firstShortGreen_69 : decode cX1_firstShortGreen 69 = .ok (.ifCond .eq 6, 3) := by decide +kernel
theorem dX1_firstShortGreen_72 : decode cX1_firstShortGreen 72 = .ok (.iload 5, 2) := by decide +kernel
theorem dX1_firstShortGreen_74 : decode cX1_firstShortGreen 74 = .ok (.ireturn, 1) := by decide +kernel
theorem dX1_firstShortGreen_75 : decode cX1_firstShortGreen 75 = .ok (.iinc 5 1, 3) := by decide +kernel
theorem dX1_firstShortGreen_78 : decode cX1_firstShortGreen 78 = .ok (.goto (-41), 3) := by decide +kernel
theorem dX1_firstShortGreen_81 : decode cX1_firstShortGreen 81 = .ok (.iconst (-1), 1) := by decide +kernel
theorem dX1_firstShortGreen_82 : decode cX1_firstShortGreen 82 = .ok (.ireturn, 1) := by decide +kernel
theorem dX1_endsTooSoon_0 : decode cX1_endsTooSoon 0 = .ok (.iload_n 3, 1) := by decide +kernel
theorem dX1_endsTooSoon_1 : decode cX1_endsTooSoon 1 = .ok (.istore 4, 2) := by decide +kernel
theorem dX1_endsTooSoon_3 : decode cX1_endsTooSoon 3 = .ok (.iconst 0, 1) := by decide +kernel
theorem dX1_endsTooSoon_4 : decode cX1_endsTooSoon 4 = .ok (.istore 5, 2) := by decide +kernel
theorem dX1_endsTooSoon_6 : decode cX1_endsTooSoon 6 = .ok (.iload 5, 2) := by decide +kernel
theorem dX1_endsTooSoon_8 : decode cX1_endsTooSoon 8 = .ok (.aload_n 0, 1) := by decide +kernel
theorem dX1_endsTooSoon_9 : decode cX1_endsTooSoon 9 = .ok (.getfield 11, 3) := by decide +kernel
theorem dX1_endsTooSoon_12 : decode cX1_endsTooSoon 12 = .ok (.iload_n 2, 1) := by decide +kernel
theorem dX1_endsTooSoon_13 : decode cX1_endsTooSoon 13 = .ok (.aaload, 1) := by decide +kernel
theorem dX1_endsTooSoon_14 : decode cX1_endsTooSoon 14 = .ok (.getfield 86, 3) := by decide +kernel
theorem dX1_endsTooSoon_17 : decode cX1_endsTooSoon 17 = .ok (.if_icmp .ge 46, 3) := by decide +kernel
theorem dX1_endsTooSoon_20 : decode cX1_endsTooSoon 20 = .ok (.aload_n 1, 1) := by decide +kernel
theorem dX1_endsTooSoon_21 : decode cX1_endsTooSoon 21 = .ok (.getfield 76, 3) := by decide +kernel
theorem dX1_endsTooSoon_24 : decode cX1_endsTooSoon 24 = .ok (.iload 4, 2) := by decide +kernel
theorem dX1_endsTooSoon_26 : decode cX1_endsTooSoon 26 = .ok (.iaload, 1) := by decide +kernel
theorem dX1_endsTooSoon_27 : decode cX1_endsTooSoon 27 = .ok (.iload_n 2, 1) := by decide +kernel
theorem dX1_endsTooSoon_28 : decode cX1_endsTooSoon 28 = .ok (.ishr, 1) := by decide +kernel
theorem dX1_endsTooSoon_29 : decode cX1_endsTooSoon 29 = .ok (.iconst 1, 1) := by decide +kernel
theorem dX1_endsTooSoon_30 : decode cX1_endsTooSoon 30 = .ok (.iand, 1) := by decide +kernel
theorem dX1_endsTooSoon_31 : decode cX1_endsTooSoon 31 = .ok (.ifCond .ne 5, 3) := by decide +kernel
theorem dX1_endsTooSoon_34 : decode cX1_endsTooSoon 34 = .ok (.iconst 1, 1) := by decide +kernel
theorem dX1_endsTooSoon_35 : decode cX1_endsTooSoon 35 = .ok (.ireturn, 1) := by decide +kernel
theorem dX1_endsTooSoon_36 : decode cX1_endsTooSoon 36 = .ok (.iload 4, 2) := by decide +kernel
theorem dX1_endsTooSoon_38 : decode cX1_endsTooSoon 38 = .ok (.iconst 1, 1) := by decide +kernel
theorem dX1_endsTooSoon_39 : decode cX1_endsTooSoon 39 = .ok (.iadd, 1) := by decide +kernel
theorem dX1_endsTooSoon_40 : decode cX1_endsTooSoon 40 = .ok (.aload_n 1, 1) := by decide +kernel
theorem dX1_endsTooSoon_41 : decode cX1_endsTooSoon 41 = .ok (.getfield 79, 3) := by decide +kernel
theorem dX1_endsTooSoon_44 : decode cX1_endsTooSoon 44 = .ok (.if_icmp .ge 10, 3) := by decide +kernel
theorem dX1_endsTooSoon_47 : decode cX1_endsTooSoon 47 = .ok (.iload 4, 2) := by decide +kernel
theorem dX1_endsTooSoon_49 : decode cX1_endsTooSoon 49 = .ok (.iconst 1, 1) := by decide +kernel
theorem dX1_endsTooSoon_50 : decode cX1_endsTooSoon 50 = .ok (.iadd, 1) := by decide +kernel
theorem dX1_endsTooSoon_51 : decode cX1_endsTooSoon 51 = .ok (.goto 4, 3) := by decide +kernel
theorem dX1_endsTooSoon_54 : decode cX1_endsTooSoon 54 = .ok (.iconst 0, 1) := by decide +kernel
theorem dX1_endsTooSoon_55 : decode cX1_endsTooSoon 55 = .ok (.istore 4, 2) := by decide +kernel
theorem dX1_endsTooSoon_57 : decode cX1_endsTooSoon 57 = .ok (.iinc 5 1, 3) := by decide +kernel
theorem dX1_endsTooSoon_60 : decode cX1_endsTooSoon 60 = .ok (.goto (-54), 3) := by decide +kernel
theorem dX1_endsTooSoon_63 : decode cX1_endsTooSoon 63 = .ok (.iconst 0, 1) := by decide +kernel
theorem dX1_endsTooSoon_64 : decode cX1_endsTooSoon 64 = .ok (.ireturn, 1) := by decide +kernel
theorem dX1_adopt_0 : decode cX1_adopt 0 = .ok (.aload_n 0, 1) := by decide +kernel
theorem dX1_adopt_1 : decode cX1_adopt 1 = .ok (.aload_n 0, 1) := by decide +kernel
theorem dX1_adopt_2 : decode cX1_adopt 2 = .ok (.getfield 34, 3) := by decide +kernel
theorem dX1_adopt_5 : decode cX1_adopt 5 = .ok (.putfield 38, 3) := by decide +kernel
theorem dX1_adopt_8 : decode cX1_adopt 8 = .ok (.aload_n 0, 1) := by decide +kernel
theorem dX1_adopt_9 : decode cX1_adopt 9 = .ok (.aconst_null, 1) := by decide +kernel
theorem dX1_adopt_10 : decode cX1_adopt 10 = .ok (.putfield 34, 3) := by decide +kernel
theorem dX1_adopt_13 : decode cX1_adopt 13 = .ok (.aload_n 0, 1) := by decide +kernel
theorem dX1_adopt_14 : decode cX1_adopt 14 = .ok (.getfield 38, 3) := by decide +kernel
theorem dX1_adopt_17 : decode cX1_adopt 17 = .ok (.iload_n 1, 1) := by decide +kernel
theorem dX1_adopt_18 : decode cX1_adopt 18 = .ok (.putfield 89, 3) := by decide +kernel
theorem dX1_adopt_21 : decode cX1_adopt 21 = .ok (.aload_n 0, 1) := by decide +kernel
theorem dX1_adopt_22 : decode cX1_adopt 22 = .ok (.getfield 38, 3) := by decide +kernel
theorem dX1_adopt_25 : decode cX1_adopt 25 = .ok (.aload_n 0, 1) := by decide +kernel
theorem dX1_adopt_26 : decode cX1_adopt 26 = .ok (.getfield 38, 3) := by decide +kernel
theorem dX1_adopt_29 : decode cX1_adopt 29 = .ok (.getfield 52, 3) := by decide +kernel
theorem dX1_adopt_32 : decode cX1_adopt 32 = .ok (.putfield 92, 3) := by decide +kernel
theorem dX1_adopt_35 : decode cX1_adopt 35 = .ok (.aload_n 0, 1) := by decide +kernel
theorem dX1_adopt_36 : decode cX1_adopt 36 = .ok (.iconst 0, 1) := by decide +kernel
theorem dX1_adopt_37 : decode cX1_adopt 37 = .ok (.putfield 95, 3) := by decide +kernel
theorem dX1_adopt_40 : decode cX1_adopt 40 = .ok (.aload_n 0, 1) := by decide +kernel
theorem dX1_adopt_41 : decode cX1_adopt 41 = .ok (.iload_n 2, 1) := by decide +kernel
theorem dX1_adopt_42 : decode cX1_adopt 42 = .ok (.invokevirtual 99, 3) := by decide +kernel
theorem dX1_adopt_45 : decode cX1_adopt 45 = .ok (.return_, 1) := by decide +kernel
theorem dX1_clear_0 : decode cX1_clear 0 = .ok (.iload_n 1, 1) := by decide +kernel
theorem dX1_clear_1 : decode cX1_clear 1 = .ok (.ifCond .le 11, 3) := by decide +kernel
theorem dX1_clear_4 : decode cX1_clear 4 = .ok (.aload_n 0, 1) := by decide +kernel
theorem dX1_clear_5 : decode cX1_clear 5 = .ok (.iload_n 1, 1) := by decide +kernel
theorem dX1_clear_6 : decode cX1_clear 6 = .ok (.bipush 20, 2) := by decide +kernel
theorem dX1_clear_8 : decode cX1_clear 8 = .ok (.iadd, 1) := by decide +kernel
theorem dX1_clear_9 : decode cX1_clear 9 = .ok (.putfield 103, 3) := by decide +kernel
theorem dX1_clear_12 : decode cX1_clear 12 = .ok (.return_, 1) := by decide +kernel
theorem dX1_pass_0 : decode cX1_pass 0 = .ok (.aload_n 0, 1) := by decide +kernel
theorem dX1_pass_1 : decode cX1_pass 1 = .ok (.aload_n 0, 1) := by decide +kernel
theorem dX1_pass_2 : decode cX1_pass 2 = .ok (.iload_n 1, 1) := by decide +kernel
theorem dX1_pass_3 : decode cX1_pass 3 = .ok (.invokevirtual 106, 3) := by decide +kernel
theorem dX1_pass_6 : decode cX1_pass 6 = .ok (.putfield 109, 3) := by decide +kernel
theorem dX1_pass_9 : decode cX1_pass 9 = .ok (.aload_n 0, 1) := by decide +kernel
theorem dX1_pass_10 : decode cX1_pass 10 = .ok (.getfield 27, 3) := by decide +kernel
theorem dX1_pass_13 : decode cX1_pass 13 = .ok (.iload_n 1, 1) := by decide +kernel
theorem dX1_pass_14 : decode cX1_pass 14 = .ok (.sipush 200, 3) := by decide +kernel
theorem dX1_pass_17 : decode cX1_pass 17 = .ok (.irem, 1) := by decide +kernel
theorem dX1_pass_18 : decode cX1_pass 18 = .ok (.aload_n 0, 1) := by decide +kernel
theorem dX1_pass_19 : decode cX1_pass 19 = .ok (.getfield 109, 3) := by decide +kernel
theorem dX1_pass_22 : decode cX1_pass 22 = .ok (.iastore, 1) := by decide +kernel
theorem dX1_pass_23 : decode cX1_pass 23 = .ok (.iconst 0, 1) := by decide +kernel
theorem dX1_pass_24 : decode cX1_pass 24 = .ok (.istore_n 2, 1) := by decide +kernel
theorem dX1_pass_25 : decode cX1_pass 25 = .ok (.iload_n 2, 1) := by decide +kernel
theorem dX1_pass_26 : decode cX1_pass 26 = .ok (.aload_n 0, 1) := by decide +kernel
theorem dX1_pass_27 : decode cX1_pass 27 = .ok (.getfield 30, 3) := by decide +kernel
theorem dX1_pass_30 : decode cX1_pass 30 = .ok (.if_icmp .ge 35, 3) := by decide +kernel
theorem dX1_pass_33 : decode cX1_pass 33 = .ok (.aload_n 0, 1) := by decide +kernel
theorem dX1_pass_34 : decode cX1_pass 34 = .ok (.getfield 11, 3) := by decide +kernel
theorem dX1_pass_37 : decode cX1_pass 37 = .ok (.iload_n 2, 1) := by decide +kernel
theorem dX1_pass_38 : decode cX1_pass 38 = .ok (.aaload, 1) := by decide +kernel
theorem dX1_pass_39 : decode cX1_pass 39 = .ok (.iload_n 1, 1) := by decide +kernel
theorem dX1_pass_40 : decode cX1_pass 40 = .ok (.aload_n 0, 1) := by decide +kernel
theorem dX1_pass_41 : decode cX1_pass 41 = .ok (.getfield 109, 3) := by decide +kernel
theorem dX1_pass_44 : decode cX1_pass 44 = .ok (.iload_n 2, 1) := by decide +kernel
theorem dX1_pass_45 : decode cX1_pass 45 = .ok (.ishr, 1) := by decide +kernel
theorem dX1_pass_46 : decode cX1_pass 46 = .ok (.iconst 1, 1) := by decide +kernel
theorem dX1_pass_47 : decode cX1_pass 47 = .ok (.iand, 1) := by decide +kernel
theorem dX1_pass_48 : decode cX1_pass 48 = .ok (.ifCond .eq 7, 3) := by decide +kernel
theorem dX1_pass_51 : decode cX1_pass 51 = .ok (.iconst 1, 1) := by decide +kernel
theorem dX1_pass_52 : decode cX1_pass 52 = .ok (.goto 4, 3) := by decide +kernel
theorem dX1_pass_55 : decode cX1_pass 55 = .ok (.iconst 0, 1) := by decide +kernel
theorem dX1_pass_56 : decode cX1_pass 56 = .ok (.invokevirtual 112, 3) := by decide +kernel
theorem dX1_pass_59 : decode cX1_pass 59 = .ok (.iinc 2 1, 3) := by decide +kernel
theorem dX1_pass_62 : decode cX1_pass 62 = .ok (.goto (-37), 3) := by decide +kernel
theorem dX1_pass_65 : decode cX1_pass 65 = .ok (.return_, 1) := by decide +kernel
theorem dX1_lampsAt_0 : decode cX1_lampsAt 0 = .ok (.aload_n 0, 1) := by decide +kernel
theorem dX1_lampsAt_1 : decode cX1_lampsAt 1 = .ok (.getfield 38, 3) := by decide +kernel
theorem dX1_lampsAt_4 : decode cX1_lampsAt 4 = .ok (.ifnonnull 5, 3) := by decide +kernel
theorem dX1_lampsAt_7 : decode cX1_lampsAt 7 = .ok (.iconst 0, 1) := by decide +kernel
theorem dX1_lampsAt_8 : decode cX1_lampsAt 8 = .ok (.ireturn, 1) := by decide +kernel
theorem dX1_lampsAt_9 : decode cX1_lampsAt 9 = .ok (.aload_n 0, 1) := by decide +kernel
theorem dX1_lampsAt_10 : decode cX1_lampsAt 10 = .ok (.getfield 38, 3) := by decide +kernel
theorem dX1_lampsAt_13 : decode cX1_lampsAt 13 = .ok (.iload_n 1, 1) := by decide +kernel
theorem dX1_lampsAt_14 : decode cX1_lampsAt 14 = .ok (.invokevirtual 116, 3) := by decide +kernel
theorem dX1_lampsAt_17 : decode cX1_lampsAt 17 = .ok (.istore_n 2, 1) := by decide +kernel
theorem dX1_lampsAt_18 : decode cX1_lampsAt 18 = .ok (.aload_n 0, 1) := by decide +kernel
theorem dX1_lampsAt_19 : decode cX1_lampsAt 19 = .ok (.getfield 38, 3) := by decide +kernel
theorem dX1_lampsAt_22 : decode cX1_lampsAt 22 = .ok (.getfield 92, 3) := by decide +kernel
theorem dX1_lampsAt_25 : decode cX1_lampsAt 25 = .ok (.aload_n 0, 1) := by decide +kernel
theorem dX1_lampsAt_26 : decode cX1_lampsAt 26 = .ok (.getfield 38, 3) := by decide +kernel
theorem dX1_lampsAt_29 : decode cX1_lampsAt 29 = .ok (.getfield 52, 3) := by decide +kernel
theorem dX1_lampsAt_32 : decode cX1_lampsAt 32 = .ok (.if_icmp .ge 26, 3) := by decide +kernel
theorem dX1_lampsAt_35 : decode cX1_lampsAt 35 = .ok (.aload_n 0, 1) := by decide +kernel
theorem dX1_lampsAt_36 : decode cX1_lampsAt 36 = .ok (.getfield 38, 3) := by decide +kernel
theorem dX1_lampsAt_39 : decode cX1_lampsAt 39 = .ok (.iload_n 2, 1) := by decide +kernel
theorem dX1_lampsAt_40 : decode cX1_lampsAt 40 = .ok (.invokevirtual 119, 3) := by decide +kernel
theorem dX1_lampsAt_43 : decode cX1_lampsAt 43 = .ok (.aload_n 0, 1) := by decide +kernel
theorem dX1_lampsAt_44 : decode cX1_lampsAt 44 = .ok (.getfield 38, 3) := by decide +kernel
theorem dX1_lampsAt_47 : decode cX1_lampsAt 47 = .ok (.getfield 92, 3) := by decide +kernel
theorem dX1_lampsAt_50 : decode cX1_lampsAt 50 = .ok (.if_icmp .lt 8, 3) := by decide +kernel
theorem dX1_lampsAt_53 : decode cX1_lampsAt 53 = .ok (.aload_n 0, 1) := by decide +kernel
theorem dX1_lampsAt_54 : decode cX1_lampsAt 54 = .ok (.iconst 1, 1) := by decide +kernel
theorem dX1_lampsAt_55 : decode cX1_lampsAt 55 = .ok (.putfield 95, 3) := by decide +kernel
theorem dX1_lampsAt_58 : decode cX1_lampsAt 58 = .ok (.aload_n 0, 1) := by decide +kernel
theorem dX1_lampsAt_59 : decode cX1_lampsAt 59 = .ok (.getfield 95, 3) := by decide +kernel
theorem dX1_lampsAt_62 : decode cX1_lampsAt 62 = .ok (.ifCond .ne 11, 3) := by decide +kernel
theorem dX1_lampsAt_65 : decode cX1_lampsAt 65 = .ok (.iload_n 1, 1) := by decide +kernel
theorem dX1_lampsAt_66 : decode cX1_lampsAt 66 = .ok (.aload_n 0, 1) := by decide +kernel
theorem dX1_lampsAt_67 : decode cX1_lampsAt 67 = .ok (.getfield 103, 3) := by decide +kernel
theorem dX1_lampsAt_70 : decode cX1_lampsAt 70 = .ok (.if_icmp .ge 7, 3) := by decide +kernel
theorem dX1_lampsAt_73 : decode cX1_lampsAt 73 = .ok (.iconst 0, 1) := by decide +kernel
theorem dX1_lampsAt_74 : decode cX1_lampsAt 74 = .ok (.goto 12, 3) := by decide +kernel
theorem dX1_lampsAt_77 : decode cX1_lampsAt 77 = .ok (.aload_n 0, 1) := by decide +kernel
theorem dX1_lampsAt_78 : decode cX1_lampsAt 78 = .ok (.getfield 38, 3) := by decide +kernel
theorem dX1_lampsAt_81 : decode cX1_lampsAt 81 = .ok (.getfield 76, 3) := by decide +kernel
theorem dX1_lampsAt_84 : decode cX1_lampsAt 84 = .ok (.iload_n 2, 1) := by decide +kernel
theorem dX1_lampsAt_85 : decode cX1_lampsAt 85 = .ok (.iaload, 1) := by decide +kernel
theorem dX1_lampsAt_86 : decode cX1_lampsAt 86 = .ok (.ireturn, 1) := by decide +kernel
theorem dX2_init_0 : decode cX2_init 0 = .ok (.aload_n 0, 1) := by decide +kernel
theorem dX2_init_1 : decode cX2_init 1 = .ok (.invokespecial 3, 3) := by decide +kernel
theorem dX2_init_4 : decode cX2_init 4 = .ok (.aload_n 0, 1) := by decide +kernel
theorem dX2_init_5 : decode cX2_init 5 = .ok (.bipush 20, 2) := by decide +kernel
theorem dX2_init_7 : decode cX2_init 7 = .ok (.putfield 9, 3) := by decide +kernel
theorem dX2_init_10 : decode cX2_init 10 = .ok (.aload_n 0, 1) := by decide +kernel
theorem dX2_init_11 : decode cX2_init 11 = .ok (.iconst 4, 1) := by decide +kernel
theorem dX2_init_12 : decode cX2_init 12 = .ok (.newarray .int, 2) := by decide +kernel
theorem dX2_init_14 : decode cX2_init 14 = .ok (.putfield 15, 3) := by decide +kernel
theorem dX2_init_17 : decode cX2_init 17 = .ok (.aload_n 0, 1) := by decide +kernel
theorem dX2_init_18 : decode cX2_init 18 = .ok (.iconst 4, 1) := by decide +kernel
theorem dX2_init_19 : decode cX2_init 19 = .ok (.newarray .int, 2) := by decide +kernel
theorem dX2_init_21 : decode cX2_init 21 = .ok (.putfield 19, 3) := by decide +kernel
theorem dX2_init_24 : decode cX2_init 24 = .ok (.aload_n 0, 1) := by decide +kernel
theorem dX2_init_25 : decode cX2_init 25 = .ok (.iconst 4, 1) := by decide +kernel
theorem dX2_init_26 : decode cX2_init 26 = .ok (.newarray .int, 2) := by decide +kernel
theorem dX2_init_28 : decode cX2_init 28 = .ok (.putfield 22, 3) := by decide +kernel
theorem dX2_init_31 : decode cX2_init 31 = .ok (.aload_n 0, 1) := by decide +kernel
theorem dX2_init_32 : decode cX2_init 32 = .ok (.iconst 4, 1) := by decide +kernel
theorem dX2_init_33 : decode cX2_init 33 = .ok (.newarray .int, 2) := by decide +kernel
theorem dX2_init_35 : decode cX2_init 35 = .ok (.putfield 25, 3) := by decide +kernel
theorem dX2_init_38 : decode cX2_init 38 = .ok (.aload_n 0, 1) := by decide +kernel
theorem dX2_init_39 : decode cX2_init 39 = .ok (.bipush 90, 2) := by decide +kernel
theorem dX2_init_41 : decode cX2_init 41 = .ok (.newarray .int, 2) := by decide +kernel
theorem dX2_init_43 : decode cX2_init 43 = .ok (.putfield 28, 3) := by decide +kernel
theorem dX2_init_46 : decode cX2_init 46 = .ok (.return_, 1) := by decide +kernel
theorem dX2_add_0 : decode cX2_add 0 = .ok (.aload_n 0, 1) := by decide +kernel
theorem dX2_add_1 : decode cX2_add 1 = .ok (.getfield 15, 3) := by decide +kernel
theorem dX2_add_4 : decode cX2_add 4 = .ok (.aload_n 0, 1) := by decide +kernel
theorem dX2_add_5 : decode cX2_add 5 = .ok (.getfield 31, 3) := by decide +kernel
theorem dX2_add_8 : decode cX2_add 8 = .ok (.iload_n 1, 1) := by decide +kernel
theorem dX2_add_9 : decode cX2_add 9 = .ok (.iastore, 1) := by decide +kernel
theorem dX2_add_10 : decode cX2_add 10 = .ok (.aload_n 0, 1) := by decide +kernel
theorem dX2_add_11 : decode cX2_add 11 = .ok (.getfield 19, 3) := by decide +kernel
theorem dX2_add_14 : decode cX2_add 14 = .ok (.aload_n 0, 1) := by decide +kernel
theorem dX2_add_15 : decode cX2_add 15 = .ok (.getfield 31, 3) := by decide +kernel
theorem dX2_add_18 : decode cX2_add 18 = .ok (.iload_n 2, 1) := by decide +kernel
theorem dX2_add_19 : decode cX2_add 19 = .ok (.iastore, 1) := by decide +kernel
theorem dX2_add_20 : decode cX2_add 20 = .ok (.aload_n 0, 1) := by decide +kernel
theorem dX2_add_21 : decode cX2_add 21 = .ok (.dup, 1) := by decide +kernel
theorem dX2_add_22 : decode cX2_add 22 = .ok (.getfield 31, 3) := by decide +kernel
theorem dX2_add_25 : decode cX2_add 25 = .ok (.iconst 1, 1) := by decide +kernel
theorem dX2_add_26 : decode cX2_add 26 = .ok (.iadd, 1) := by decide +kernel
theorem dX2_add_27 : decode cX2_add 27 = .ok (.putfield 31, 3) := by decide +kernel
theorem dX2_add_30 : decode cX2_add 30 = .ok (.return_, 1) := by decide +kernel
theorem dX2_behind_0 : decode cX2_behind 0 = .ok (.iload_n 1, 1) := by decide +kernel
theorem dX2_behind_1 : decode cX2_behind 1 = .ok (.iconst 1, 1) := by decide +kernel
theorem dX2_behind_2 : decode cX2_behind 2 = .ok (.iadd, 1) := by decide +kernel
theorem dX2_behind_3 : decode cX2_behind 3 = .ok (.aload_n 0, 1) := by decide +kernel
theorem dX2_behind_4 : decode cX2_behind 4 = .ok (.getfield 31, 3) := by decide +kernel
theorem dX2_behind_7 : decode cX2_behind 7 = .ok (.if_icmp .ge 9, 3) := by decide +kernel
theorem dX2_behind_10 : decode cX2_behind 10 = .ok (.iload_n 1, 1) := by decide +kernel
theorem dX2_behind_11 : decode cX2_behind 11 = .ok (.iconst 1, 1) := by decide +kernel
theorem dX2_behind_12 : decode cX2_behind 12 = .ok (.iadd, 1) := by decide +kernel
theorem dX2_behind_13 : decode cX2_behind 13 = .ok (.goto 4, 3) := by decide +kernel
theorem dX2_behind_16 : decode cX2_behind 16 = .ok (.iconst 0, 1) := by decide +kernel
theorem dX2_behind_17 : decode cX2_behind 17 = .ok (.ireturn, 1) := by decide +kernel
theorem dX2_hasStageWithoutGreen_0 : decode cX2_hasStageWithoutGreen 0 = .ok (.iconst 0, 1) := by decide +kernel
theorem dX2_hasStageWithoutGreen_1 : decode cX2_hasStageWithoutGreen 1 = .ok (.istore_n 1, 1) := by decide +kernel
theorem dX2_hasStageWithoutGreen_2 : decode cX2_hasStageWithoutGreen 2 = .ok (.iload_n 1, 1) := by decide +kernel
theorem dX2_hasStageWithoutGreen_3 : decode cX2_hasStageWithoutGreen 3 = .ok (.aload_n 0, 1) := by decide +kernel
theorem dX2_hasStageWithoutGreen_4 : decode cX2_hasStageWithoutGreen 4 = .ok (.getfield 31, 3) := by decide +kernel
theorem dX2_hasStageWithoutGreen_7 : decode cX2_hasStageWithoutGreen 7 = .ok (.if_icmp .ge 21, 3) := by decide +kernel
theorem dX2_hasStageWithoutGreen_10 : decode cX2_hasStageWithoutGreen 10 = .ok (.aload_n 0, 1) := by decide +kernel
theorem dX2_hasStageWithoutGreen_11 : decode cX2_hasStageWithoutGreen 11 = .ok (.getfield 19, 3) := by decide +kernel
theorem dX2_hasStageWithoutGreen_14 : decode cX2_hasStageWithoutGreen 14 = .ok (.iload_n 1, 1) := by decide +kernel
theorem dX2_hasStageWithoutGreen_15 : decode cX2_hasStageWithoutGreen 15 = .ok (.iaload, 1) := by decide +kernel
theorem dX2_hasStageWithoutGreen_16 : decode cX2_hasStageWithoutGreen 16 = .ok (.iconst 1, 1) := by decide +kernel
theorem dX2_hasStageWithoutGreen_17 : decode cX2_hasStageWithoutGreen 17 = .ok (.if_icmp .ge 5, 3) := by decide +kernel
theorem dX2_hasStageWithoutGreen_20 : decode cX2_hasStageWithoutGreen 20 = .ok (.iconst 1, 1) := by decide +kernel
theorem dX2_hasStageWithoutGreen_21 : decode cX2_hasStageWithoutGreen 21 = .ok (.ireturn, 1) := by decide +kernel
theorem dX2_hasStageWithoutGreen_22 : decode cX2_hasStageWithoutGreen 22 = .ok (.iinc 1 1, 3) := by decide +kernel
theorem dX2_hasStageWithoutGreen_25 : decode cX2_hasStageWithoutGreen 25 = .ok (.goto (-23), 3) := by decide +kernel
theorem dX2_hasStageWithoutGreen_28 : decode cX2_hasStageWithoutGreen 28 = .ok (.iconst 0, 1) := by decide +kernel
theorem dX2_hasStageWithoutGreen_29 : decode cX2_hasStageWithoutGreen 29 = .ok (.ireturn, 1) := by decide +kernel
theorem dX2_allGreens_0 : decode cX2_allGreens 0 = .ok (.iconst 0, 1) := by decide +kernel
theorem dX2_allGreens_1 : decode cX2_allGreens 1 = .ok (.istore_n 1, 1) := by decide +kernel
theorem dX2_allGreens_2 : decode cX2_allGreens 2 = .ok (.iconst 0, 1) := by decide +kernel
theorem dX2_allGreens_3 : decode cX2_allGreens 3 = .ok (.istore_n 2, 1) := by decide +kernel
theorem dX2_allGreens_4 : decode cX2_allGreens 4 = .ok (.iload_n 2, 1) := by decide +kernel
theorem dX2_allGreens_5 : decode cX2_allGreens 5 = .ok (.aload_n 0, 1) := by decide +kernel
theorem dX2_allGreens_6 : decode cX2_allGreens 6 = .ok (.getfield 31, 3) := by decide +kernel
theorem dX2_allGreens_9 : decode cX2_allGreens 9 = .ok (.if_icmp .ge 18, 3) := by decide +kernel
theorem dX2_allGreens_12 : decode cX2_allGreens 12 = .ok (.iload_n 1, 1) := by decide +kernel
theorem dX2_allGreens_13 : decode cX2_allGreens 13 = .ok (.aload_n 0, 1) := by decide +kernel
theorem dX2_allGreens_14 : decode cX2_allGreens 14 = .ok (.getfield 19, 3) := by decide +kernel
theorem dX2_allGreens_17 : decode cX2_allGreens 17 = .ok (.iload_n 2, 1) := by decide +kernel
theorem dX2_allGreens_18 : decode cX2_allGreens 18 = .ok (.iaload, 1) := by decide +kernel
theorem dX2_allGreens_19 : decode cX2_allGreens 19 = .ok (.iadd, 1) := by decide +kernel
theorem dX2_allGreens_20 : decode cX2_allGreens 20 = .ok (.istore_n 1, 1) := by decide +kernel
theorem dX2_allGreens_21 : decode cX2_allGreens 21 = .ok (.iinc 2 1, 3) := by decide +kernel
theorem dX2_allGreens_24 : decode cX2_allGreens 24 = .ok (.goto (-20), 3) := by decide +kernel
theorem dX2_allGreens_27 : decode cX2_allGreens 27 = .ok (.iload_n 1, 1) := by decide +kernel
theorem dX2_allGreens_28 : decode cX2_allGreens 28 = .ok (.ireturn, 1) := by decide +kernel
theorem dX2_allBetweens_0 : decode cX2_allBetweens 0 = .ok (.iconst 0, 1) := by decide +kernel
theorem dX2_allBetweens_1 : decode cX2_allBetweens 1 = .ok (.istore_n 1, 1) := by decide +kernel
theorem dX2_allBetweens_2 : decode cX2_allBetweens 2 = .ok (.iconst 0, 1) := by decide +kernel
theorem dX2_allBetweens_3 : decode cX2_allBetweens 3 = .ok (.istore_n 2, 1) := by decide +kernel
theorem dX2_allBetweens_4 : decode cX2_allBetweens 4 = .ok (.iload_n 2, 1) := by decide +kernel
theorem dX2_allBetweens_5 : decode cX2_allBetweens 5 = .ok (.aload_n 0, 1) := by decide +kernel
theorem dX2_allBetweens_6 : decode cX2_allBetweens 6 = .ok (.getfield 31, 3) := by decide +kernel
theorem dX2_allBetweens_9 : decode cX2_allBetweens 9 = .ok (.if_icmp .ge 18, 3) := by decide +kernel
theorem dX2_allBetweens_12 : decode cX2_allBetweens 12 = .ok (.iload_n 1, 1) := by decide +kernel
theorem dX2_allBetweens_13 : decode cX2_allBetweens 13 = .ok (.aload_n 0, 1) := by decide +kernel
theorem dX2_allBetweens_14 : decode cX2_allBetweens 14 = .ok (.getfield 22, 3) := by decide +kernel
theorem dX2_allBetweens_17 : decode cX2_allBetweens 17 = .ok (.iload_n 2, 1) := by decide +kernel
theorem dX2_allBetweens_18 : decode cX2_allBetweens 18 = .ok (.iaload, 1) := by decide +kernel
theorem dX2_allBetweens_19 : decode cX2_allBetweens 19 = .ok (.iadd, 1) := by decide +kernel
theorem dX2_allBetweens_20 : decode cX2_allBetweens 20 = .ok (.istore_n 1, 1) := by decide +kernel
theorem dX2_allBetweens_21 : decode cX2_allBetweens 21 = .ok (.iinc 2 1, 3) := by decide +kernel
theorem dX2_allBetweens_24 : decode cX2_allBetweens 24 = .ok (.goto (-20), 3) := by decide +kernel
theorem dX2_allBetweens_27 : decode cX2_allBetweens 27 = .ok (.iload_n 1, 1) := by decide +kernel
theorem dX2_allBetweens_28 : decode cX2_allBetweens 28 = .ok (.ireturn, 1) := by decide +kernel
theorem dX2_toldOfStage_0 : decode cX2_toldOfStage 0 = .ok (.iload_n 2, 1) := by decide +kernel
theorem dX2_toldOfStage_1 : decode cX2_toldOfStage 1 = .ok (.ifCond .lt 11, 3) := by decide +kernel
theorem dX2_toldOfStage_4 : decode cX2_toldOfStage 4 = .ok (.iload_n 2, 1) := by decide +kernel
theorem dX2_toldOfStage_5 : decode cX2_toldOfStage 5 = .ok (.aload_n 0, 1) := by decide +kernel
theorem dX2_toldOfStage_6 : decode cX2_toldOfStage 6 = .ok (.getfield 31, 3) := by decide +kernel
theorem dX2_toldOfStage_9 : decode cX2_toldOfStage 9 = .ok (.if_icmp .lt 5, 3) := by decide +kernel
theorem dX2_toldOfStage_12 : decode cX2_toldOfStage 12 = .ok (.iconst (-1), 1) := by decide +kernel
theorem dX2_toldOfStage_13 : decode cX2_toldOfStage 13 = .ok (.ireturn, 1) := by decide +kernel
theorem dX2_toldOfStage_14 : decode cX2_toldOfStage 14 = .ok (.iload_n 1, 1) := by decide +kernel
theorem dX2_toldOfStage_15 : decode cX2_toldOfStage 15 = .ok (.tableswitch 58 1 3 #[25, 32, 51], 25) := by decide +kernel
theorem dX2_toldOfStage_40 : decode cX2_toldOfStage 40 = .ok (.aload_n 0, 1) := by decide +kernel
theorem dX2_toldOfStage_41 : decode cX2_toldOfStage 41 = .ok (.getfield 15, 3) := by decide +kernel
theorem dX2_toldOfStage_44 : decode cX2_toldOfStage 44 = .ok (.iload_n 2, 1) := by decide +kernel
theorem dX2_toldOfStage_45 : decode cX2_toldOfStage 45 = .ok (.iaload, 1) := by decide +kernel
theorem dX2_toldOfStage_46 : decode cX2_toldOfStage 46 = .ok (.ireturn, 1) := by decide +kernel
theorem dX2_toldOfStage_47 : decode cX2_toldOfStage 47 = .ok (.iload_n 2, 1) := by decide +kernel
theorem dX2_toldOfStage_48 : decode cX2_toldOfStage 48 = .ok (.aload_n 0, 1) := by decide +kernel
theorem dX2_toldOfStage_49 : decode cX2_toldOfStage 49 = .ok (.getfield 34, 3) := by decide +kernel
theorem dX2_toldOfStage_52 : decode cX2_toldOfStage 52 = .ok (.if_icmp .ge 12, 3) := by decide +kernel
theorem dX2_toldOfStage_55 : decode cX2_toldOfStage 55 = .ok (.aload_n 0, 1) := by decide +kernel
theorem dX2_toldOfStage_56 : decode cX2_toldOfStage 56 = .ok (.getfield 19, 3) := by decide +kernel
theorem dX2_toldOfStage_59 : decode cX2_toldOfStage 59 = .ok (.iload_n 2, 1) := by decide +kernel
theorem dX2_toldOfStage_60 : decode cX2_toldOfStage 60 = .ok (.iaload, 1) := by decide +kernel
theorem dX2_toldOfStage_61 : decode cX2_toldOfStage 61 = .ok (.goto 4, 3) := by decide +kernel
theorem dX2_toldOfStage_64 : decode cX2_toldOfStage 64 = .ok (.iconst (-1), 1) := by decide +kernel
theorem dX2_toldOfStage_65 : decode cX2_toldOfStage 65 = .ok (.ireturn, 1) := by decide +kernel
theorem dX2_toldOfStage_66 : decode cX2_toldOfStage 66 = .ok (.aload_n 0, 1) := by decide +kernel
theorem dX2_toldOfStage_67 : decode cX2_toldOfStage 67 = .ok (.getfield 22, 3) := by decide +kernel
theorem dX2_toldOfStage_70 : decode cX2_toldOfStage 70 = .ok (.iload_n 2, 1) := by decide +kernel
theorem dX2_toldOfStage_71 : decode cX2_toldOfStage 71 = .ok (.iaload, 1) := by decide +kernel
theorem dX2_toldOfStage_72 : decode cX2_toldOfStage 72 = .ok (.ireturn, 1) := by decide +kernel
theorem dX2_toldOfStage_73 : decode cX2_toldOfStage 73 = .ok (.iconst (-1), 1) := by decide +kernel
theorem dX2_toldOfStage_74 : decode cX2_toldOfStage 74 = .ok (.ireturn, 1) := by decide +kernel
theorem dX2_layLamps_0 : decode cX2_layLamps 0 = .ok (.iconst 0, 1) := by decide +kernel
theorem dX2_layLamps_1 : decode cX2_layLamps 1 = .ok (.istore_n 1, 1) := by decide +kernel
theorem dX2_layLamps_2 : decode cX2_layLamps 2 = .ok (.iconst 0, 1) := by decide +kernel
theorem dX2_layLamps_3 : decode cX2_layLamps 3 = .ok (.istore_n 2, 1) := by decide +kernel
theorem dX2_layLamps_4 : decode cX2_layLamps 4 = .ok (.iload_n 2, 1) := by decide +kernel
theorem dX2_layLamps_5 : decode cX2_layLamps 5 = .ok (.aload_n 0, 1) := by decide +kernel
theorem dX2_layLamps_6 : decode cX2_layLamps 6 = .ok (.getfield 31, 3) := by decide +kernel
theorem dX2_layLamps_9 : decode cX2_layLamps 9 = .ok (.if_icmp .ge 83, 3) := by decide +kernel
theorem dX2_layLamps_12 : decode cX2_layLamps 12 = .ok (.aload_n 0, 1) := by decide +kernel
theorem dX2_layLamps_13 : decode cX2_layLamps 13 = .ok (.iload_n 1, 1) := by decide +kernel
theorem dX2_layLamps_14 : decode cX2_layLamps 14 = .ok (.iload_n 1, 1) := by decide +kernel
theorem dX2_layLamps_15 : decode cX2_layLamps 15 = .ok (.aload_n 0, 1) := by decide +kernel
theorem dX2_layLamps_16 : decode cX2_layLamps 16 = .ok (.getfield 19, 3) := by decide +kernel
theorem dX2_layLamps_19 : decode cX2_layLamps 19 = .ok (.iload_n 2, 1) := by decide +kernel
theorem dX2_layLamps_20 : decode cX2_layLamps 20 = .ok (.iaload, 1) := by decide +kernel
theorem dX2_layLamps_21 : decode cX2_layLamps 21 = .ok (.iadd, 1) := by decide +kernel
theorem dX2_layLamps_22 : decode cX2_layLamps 22 = .ok (.aload_n 0, 1) := by decide +kernel
theorem dX2_layLamps_23 : decode cX2_layLamps 23 = .ok (.getfield 15, 3) := by decide +kernel
theorem dX2_layLamps_26 : decode cX2_layLamps 26 = .ok (.iload_n 2, 1) := by decide +kernel
theorem dX2_layLamps_27 : decode cX2_layLamps 27 = .ok (.iaload, 1) := by decide +kernel
theorem dX2_layLamps_28 : decode cX2_layLamps 28 = .ok (.invokevirtual 37, 3) := by decide +kernel
theorem dX2_layLamps_31 : decode cX2_layLamps 31 = .ok (.iload_n 1, 1) := by decide +kernel
theorem dX2_layLamps_32 : decode cX2_layLamps 32 = .ok (.aload_n 0, 1) := by decide +kernel
theorem dX2_layLamps_33 : decode cX2_layLamps 33 = .ok (.getfield 19, 3) := by decide +kernel
theorem dX2_layLamps_36 : decode cX2_layLamps 36 = .ok (.iload_n 2, 1) := by decide +kernel
theorem dX2_layLamps_37 : decode cX2_layLamps 37 = .ok (.iaload, 1) := by decide +kernel
theorem dX2_layLamps_38 : decode cX2_layLamps 38 = .ok (.iadd, 1) := by decide +kernel
theorem dX2_layLamps_39 : decode cX2_layLamps 39 = .ok (.istore_n 1, 1) := by decide +kernel
theorem dX2_layLamps_40 : decode cX2_layLamps 40 = .ok (.aload_n 0, 1) := by decide +kernel
theorem dX2_layLamps_41 : decode cX2_layLamps 41 = .ok (.iload_n 1, 1) := by decide +kernel
theorem dX2_layLamps_42 : decode cX2_layLamps 42 = .ok (.iload_n 1, 1) := by decide +kernel
theorem dX2_layLamps_43 : decode cX2_layLamps 43 = .ok (.aload_n 0, 1) := by decide +kernel
theorem dX2_layLamps_44 : decode cX2_layLamps 44 = .ok (.getfield 22, 3) := by decide +kernel
theorem dX2_layLamps_47 : decode cX2_layLamps 47 = .ok (.iload_n 2, 1) := by decide +kernel
theorem dX2_layLamps_48 : decode cX2_layLamps 48 = .ok (.iaload, 1) := by decide +kernel
theorem dX2_layLamps_49 : decode cX2_layLamps 49 = .ok (.iadd, 1) := by decide +kernel
theorem dX2_layLamps_50 : decode cX2_layLamps 50 = .ok (.aload_n 0, 1) := by decide +kernel
theorem dX2_layLamps_51 : decode cX2_layLamps 51 = .ok (.getfield 15, 3) := by decide +kernel
theorem dX2_layLamps_54 : decode cX2_layLamps 54 = .ok (.iload_n 2, 1) := by decide +kernel
theorem dX2_layLamps_55 : decode cX2_layLamps 55 = .ok (.iaload, 1) := by decide +kernel
theorem dX2_layLamps_56 : decode cX2_layLamps 56 = .ok (.aload_n 0, 1) := by decide +kernel
theorem dX2_layLamps_57 : decode cX2_layLamps 57 = .ok (.getfield 15, 3) := by decide +kernel
theorem dX2_layLamps_60 : decode cX2_layLamps 60 = .ok (.aload_n 0, 1) := by decide +kernel
theorem dX2_layLamps_61 : decode cX2_layLamps 61 = .ok (.iload_n 2, 1) := by decide +kernel
theorem dX2_layLamps_62 : decode cX2_layLamps 62 = .ok (.invokevirtual 41, 3) := by decide +kernel
theorem dX2_layLamps_65 : decode cX2_layLamps 65 = .ok (.iaload, 1) := by decide +kernel
theorem dX2_layLamps_66 : decode cX2_layLamps 66 = .ok (.iand, 1) := by decide +kernel
theorem dX2_layLamps_67 : decode cX2_layLamps 67 = .ok (.invokevirtual 37, 3) := by decide +kernel
theorem dX2_layLamps_70 : decode cX2_layLamps 70 = .ok (.iload_n 1, 1) := by decide +kernel
theorem dX2_layLamps_71 : decode cX2_layLamps 71 = .ok (.aload_n 0, 1) := by decide +kernel
theorem dX2_layLamps_72 : decode cX2_layLamps 72 = .ok (.getfield 22, 3) := by decide +kernel
theorem dX2_layLamps_75 : decode cX2_layLamps 75 = .ok (.iload_n 2, 1) := by decide +kernel
theorem dX2_layLamps_76 : decode cX2_layLamps 76 = .ok (.iaload, 1) := by decide +kernel
theorem dX2_layLamps_77 : decode cX2_layLamps 77 = .ok (.iadd, 1) := by decide +kernel
theorem dX2_layLamps_78 : decode cX2_layLamps 78 = .ok (.istore_n 1, 1) := by decide +kernel
theorem dX2_layLamps_79 : decode cX2_layLamps 79 = .ok (.aload_n 0, 1) := by decide +kernel
theorem dX2_layLamps_80 : decode cX2_layLamps 80 = .ok (.getfield 25, 3) := by decide +kernel
theorem dX2_layLamps_83 : decode cX2_layLamps 83 = .ok (.iload_n 2, 1) := by decide +kernel
theorem dX2_layLamps_84 : decode cX2_layLamps 84 = .ok (.iload_n 1, 1) := by decide +kernel
theorem dX2_layLamps_85 : decode cX2_layLamps 85 = .ok (.iastore, 1) := by decide +kernel
theorem dX2_layLamps_86 : decode cX2_layLamps 86 = .ok (.iinc 2 1, 3) := by decide +kernel
theorem dX2_layLamps_89 : decode cX2_layLamps 89 = .ok (.goto (-85), 3) := by decide +kernel
theorem dX2_layLamps_92 : decode cX2_layLamps 92 = .ok (.return_, 1) := by decide +kernel
theorem dX2_layRow_0 : decode cX2_layRow 0 = .ok (.iload_n 1, 1) := by decide +kernel
theorem dX2_layRow_1 : decode cX2_layRow 1 = .ok (.istore 4, 2) := by decide +kernel
theorem dX2_layRow_3 : decode cX2_layRow 3 = .ok (.iload 4, 2) := by decide +kernel
theorem dX2_layRow_5 : decode cX2_layRow 5 = .ok (.iload_n 2, 1) := by decide +kernel
theorem dX2_layRow_6 : decode cX2_layRow 6 = .ok (.if_icmp .ge 24, 3) := by decide +kernel
theorem dX2_layRow_9 : decode cX2_layRow 9 = .ok (.iload 4, 2) := by decide +kernel
theorem dX2_layRow_11 : decode cX2_layRow 11 = .ok (.bipush 90, 2) := by decide +kernel
theorem dX2_layRow_13 : decode cX2_layRow 13 = .ok (.if_icmp .ge 17, 3) := by decide +kernel
theorem dX2_layRow_16 : decode cX2_layRow 16 = .ok (.aload_n 0, 1) := by decide +kernel
theorem dX2_layRow_17 : decode cX2_layRow 17 = .ok (.getfield 28, 3) := by decide +kernel
theorem dX2_layRow_20 : decode cX2_layRow 20 = .ok (.iload 4, 2) := by decide +kernel
theorem dX2_layRow_22 : decode cX2_layRow 22 = .ok (.iload_n 3, 1) := by decide +kernel
theorem dX2_layRow_23 : decode cX2_layRow 23 = .ok (.iastore, 1) := by decide +kernel
theorem dX2_layRow_24 : decode cX2_layRow 24 = .ok (.iinc 4 1, 3) := by decide +kernel
theorem dX2_layRow_27 : decode cX2_layRow 27 = .ok (.goto (-24), 3) := by decide +kernel
theorem dX2_layRow_30 : decode cX2_layRow 30 = .ok (.return_, 1) := by decide +kernel
theorem dX2_placeAt_0 : decode cX2_placeAt 0 = .ok (.iload_n 1, 1) := by decide +kernel
theorem dX2_placeAt_1 : decode cX2_placeAt 1 = .ok (.aload_n 0, 1) := by decide +kernel
theorem dX2_placeAt_2 : decode cX2_placeAt 2 = .ok (.getfield 45, 3) := by decide +kernel
theorem dX2_placeAt_5 : decode cX2_placeAt 5 = .ok (.isub, 1) := by decide +kernel
theorem dX2_placeAt_6 : decode cX2_placeAt 6 = .ok (.aload_n 0, 1) := by decide +kernel
theorem dX2_placeAt_7 : decode cX2_placeAt 7 = .ok (.getfield 9, 3) := by decide +kernel
theorem dX2_placeAt_10 : decode cX2_placeAt 10 = .ok (.invokestatic 48, 3) := by decide +kernel
theorem dX2_placeAt_13 : decode cX2_placeAt 13 = .ok (.ireturn, 1) := by decide +kernel
theorem dX2_stageOf_0 : decode cX2_stageOf 0 = .ok (.iconst 0, 1) := by decide +kernel
theorem dX2_stageOf_1 : decode cX2_stageOf 1 = .ok (.istore_n 2, 1) := by decide +kernel
theorem dX2_stageOf_2 : decode cX2_stageOf 2 = .ok (.iload_n 2, 1) := by decide +kernel
theorem dX2_stageOf_3 : decode cX2_stageOf 3 = .ok (.aload_n 0, 1) := by decide +kernel
theorem dX2_stageOf_4 : decode cX2_stageOf 4 = .ok (.getfield 31, 3) := by decide +kernel
theorem dX2_stageOf_7 : decode cX2_stageOf 7 = .ok (.if_icmp .ge 21, 3) := by decide +kernel
theorem dX2_stageOf_10 : decode cX2_stageOf 10 = .ok (.iload_n 1, 1) := by decide +kernel
theorem dX2_stageOf_11 : decode cX2_stageOf 11 = .ok (.aload_n 0, 1) := by decide +kernel
theorem dX2_stageOf_12 : decode cX2_stageOf 12 = .ok (.getfield 25, 3) := by decide +kernel
theorem dX2_stageOf_15 : decode cX2_stageOf 15 = .ok (.iload_n 2, 1) := by decide +kernel
theorem dX2_stageOf_16 : decode cX2_stageOf 16 = .ok (.iaload, 1) := by decide +kernel
theorem dX2_stageOf_17 : decode cX2_stageOf 17 = .ok (.if_icmp .ge 5, 3) := by decide +kernel
theorem dX2_stageOf_20 : decode cX2_stageOf 20 = .ok (.iload_n 2, 1) := by decide +kernel
theorem dX2_stageOf_21 : decode cX2_stageOf 21 = .ok (.ireturn, 1) := by decide +kernel
theorem dX2_stageOf_22 : decode cX2_stageOf 22 = .ok (.iinc 2 1, 3) := by decide +kernel
theorem dX2_stageOf_25 : decode cX2_stageOf 25 = .ok (.goto (-23), 3) := by decide +kernel
theorem dX2_stageOf_28 : decode cX2_stageOf 28 = .ok (.aload_n 0, 1) := by decide +kernel
theorem dX2_stageOf_29 : decode cX2_stageOf 29 = .ok (.getfield 31, 3) := by decide +kernel
theorem dX2_stageOf_32 : decode cX2_stageOf 32 = .ok (.iconst 1, 1) := by decide +kernel
theorem dX2_stageOf_33 : decode cX2_stageOf 33 = .ok (.isub, 1) := by decide +kernel
theorem dX2_stageOf_34 : decode cX2_stageOf 34 = .ok (.ireturn, 1) := by decide +kernel
theorem dX2_shows_0 : decode cX2_shows 0 = .ok (.aload_n 0, 1) := by decide +kernel
theorem dX2_shows_1 : decode cX2_shows 1 = .ok (.getfield 28, 3) := by decide +kernel
theorem dX2_shows_4 : decode cX2_shows 4 = .ok (.aload_n 0, 1) := by decide +kernel
theorem dX2_shows_5 : decode cX2_shows 5 = .ok (.iload_n 2, 1) := by decide +kernel
theorem dX2_shows_6 : decode cX2_shows 6 = .ok (.invokevirtual 54, 3) := by decide +kernel
theorem dX2_shows_9 : decode cX2_shows 9 = .ok (.iaload, 1) := by decide +kernel
theorem dX2_shows_10 : decode cX2_shows 10 = .ok (.iload_n 1, 1) := by decide +kernel
theorem dX2_shows_11 : decode cX2_shows 11 = .ok (.ishr, 1) := by decide +kernel
theorem dX2_shows_12 : decode cX2_shows 12 = .ok (.iconst 1, 1) := by decide +kernel
theorem dX2_shows_13 : decode cX2_shows 13 = .ok (.iand, 1) := by decide +kernel
theorem dX2_shows_14 : decode cX2_shows 14 = .ok (.ifCond .eq 7, 3) := by decide +kernel
theorem dX2_shows_17 : decode cX2_shows 17 = .ok (.iconst 1, 1) := by decide +kernel
theorem dX2_shows_18 : decode cX2_shows 18 = .ok (.goto 4, 3) := by decide +kernel
theorem dX2_shows_21 : decode cX2_shows 21 = .ok (.iconst 0, 1) := by decide +kernel
theorem dX2_shows_22 : decode cX2_shows 22 = .ok (.ireturn, 1) := by decide +kernel
theorem dX2_stagesWith_0 : decode cX2_stagesWith 0 = .ok (.iconst 0, 1) := by decide +kernel
theorem dX2_stagesWith_1 : decode cX2_stagesWith 1 = .ok (.istore_n 2, 1) := by decide +kernel
theorem dX2_stagesWith_2 : decode cX2_stagesWith 2 = .ok (.iconst 0, 1) := by decide +kernel
theorem dX2_stagesWith_3 : decode cX2_stagesWith 3 = .ok (.istore_n 3, 1) := by decide +kernel
theorem dX2_stagesWith_4 : decode cX2_stagesWith 4 = .ok (.iload_n 3, 1) := by decide +kernel
theorem dX2_stagesWith_5 : decode cX2_stagesWith 5 = .ok (.aload_n 0, 1) := by decide +kernel
theorem dX2_stagesWith_6 : decode cX2_stagesWith 6 = .ok (.getfield 31, 3) := by decide +kernel
theorem dX2_stagesWith_9 : decode cX2_stagesWith 9 = .ok (.if_icmp .ge 28, 3) := by decide +kernel
theorem dX2_stagesWith_12 : decode cX2_stagesWith 12 = .ok (.aload_n 0, 1) := by decide +kernel
theorem dX2_stagesWith_13 : decode cX2_stagesWith 13 = .ok (.getfield 15, 3) := by decide +kernel
theorem dX2_stagesWith_16 : decode cX2_stagesWith 16 = .ok (.iload_n 3, 1) := by decide +kernel
theorem dX2_stagesWith_17 : decode cX2_stagesWith 17 = .ok (.iaload, 1) := by decide +kernel
theorem dX2_stagesWith_18 : decode cX2_stagesWith 18 = .ok (.iload_n 1, 1) := by decide +kernel
theorem dX2_stagesWith_19 : decode cX2_stagesWith 19 = .ok (.ishr, 1) := by decide +kernel
theorem dX2_stagesWith_20 : decode cX2_stagesWith 20 = .ok (.iconst 1, 1) := by decide +kernel
theorem dX2_stagesWith_21 : decode cX2_stagesWith 21 = .ok (.iand, 1) := by decide +kernel
theorem dX2_stagesWith_22 : decode cX2_stagesWith 22 = .ok (.ifCond .eq 9, 3) := by decide +kernel
theorem dX2_stagesWith_25 : decode cX2_stagesWith 25 = .ok (.iload_n 2, 1) := by decide +kernel
theorem dX2_stagesWith_26 : decode cX2_stagesWith 26 = .ok (.iconst 1, 1) := by decide +kernel
theorem dX2_stagesWith_27 : decode cX2_stagesWith 27 = .ok (.iload_n 3, 1) := by decide +kernel
theorem dX2_stagesWith_28 : decode cX2_stagesWith 28 = .ok (.ishl, 1) := by decide +kernel
theorem dX2_stagesWith_29 : decode cX2_stagesWith 29 = .ok (.ior, 1) := by decide +kernel
theorem dX2_stagesWith_30 : decode cX2_stagesWith 30 = .ok (.istore_n 2, 1) := by decide +kernel
theorem dX2_stagesWith_31 : decode cX2_stagesWith 31 = .ok (.iinc 3 1, 3) := by decide +kernel
theorem dX2_stagesWith_34 : decode cX2_stagesWith 34 = .ok (.goto (-30), 3) := by decide +kernel
theorem dX2_stagesWith_37 : decode cX2_stagesWith 37 = .ok (.iload_n 2, 1) := by decide +kernel
theorem dX2_stagesWith_38 : decode cX2_stagesWith 38 = .ok (.ireturn, 1) := by decide +kernel
theorem dX3_init_0 : decode cX3_init 0 = .ok (.aload_n 0, 1) := by decide +kernel
theorem dX3_init_1 : decode cX3_init 1 = .ok (.invokespecial 3, 3) := by decide +kernel
theorem dX3_init_4 : decode cX3_init 4 = .ok (.aload_n 0, 1) := by decide +kernel
theorem dX3_init_5 : decode cX3_init 5 = .ok (.iload_n 1, 1) := by decide +kernel
theorem dX3_init_6 : decode cX3_init 6 = .ok (.putfield 9, 3) := by decide +kernel
theorem dX3_init_9 : decode cX3_init 9 = .ok (.aload_n 0, 1) := by decide +kernel
theorem dX3_init_10 : decode cX3_init 10 = .ok (.iload_n 2, 1) := by decide +kernel
theorem dX3_init_11 : decode cX3_init 11 = .ok (.putfield 15, 3) := by decide +kernel
theorem dX3_init_14 : decode cX3_init 14 = .ok (.aload_n 0, 1) := by decide +kernel
theorem dX3_init_15 : decode cX3_init 15 = .ok (.iload_n 1, 1) := by decide +kernel
theorem dX3_init_16 : decode cX3_init 16 = .ok (.iconst 2, 1) := by decide +kernel
theorem dX3_init_17 : decode cX3_init 17 = .ok (.if_icmp .ne 9, 3) := by decide +kernel
theorem dX3_init_20 : decode cX3_init 20 = .ok (.sipush 3600, 3) := by decide +kernel
theorem dX3_init_23 : decode cX3_init 23 = .ok (.goto 15, 3) := by decide +kernel
theorem dX3_init_26 : decode cX3_init 26 = .ok (.iload_n 1, 1) := by decide +kernel
theorem dX3_init_27 : decode cX3_init 27 = .ok (.iconst 3, 1) := by decide +kernel
theorem dX3_init_28 : decode cX3_init 28 = .ok (.if_icmp .ne 9, 3) := by decide +kernel
theorem dX3_init_31 : decode cX3_init 31 = .ok (.sipush 1200, 3) := by decide +kernel
theorem dX3_init_34 : decode cX3_init 34 = .ok (.goto 4, 3) := by decide +kernel
theorem dX3_init_37 : decode cX3_init 37 = .ok (.iload_n 3, 1) := by decide +kernel
theorem dX3_init_38 : decode cX3_init 38 = .ok (.putfield 18, 3) := by decide +kernel
theorem dX3_init_41 : decode cX3_init 41 = .ok (.aload_n 0, 1) := by decide +kernel
theorem dX3_init_42 : decode cX3_init 42 = .ok (.iload_n 1, 1) := by decide +kernel
theorem dX3_init_43 : decode cX3_init 43 = .ok (.iconst 2, 1) := by decide +kernel
theorem dX3_init_44 : decode cX3_init 44 = .ok (.if_icmp .ne 13, 3) := by decide +kernel
theorem dX3_init_47 : decode cX3_init 47 = .ok (.bipush 8, 2) := by decide +kernel
theorem dX3_init_49 : decode cX3_init 49 = .ok (.iload 4, 2) := by decide +kernel
theorem dX3_init_51 : decode cX3_init 51 = .ok (.invokestatic 21, 3) := by decide +kernel
theorem dX3_init_54 : decode cX3_init 54 = .ok (.goto 19, 3) := by decide +kernel
theorem dX3_init_57 : decode cX3_init 57 = .ok (.iload_n 1, 1) := by decide +kernel
theorem dX3_init_58 : decode cX3_init 58 = .ok (.iconst 1, 1) := by decide +kernel
theorem dX3_init_59 : decode cX3_init 59 = .ok (.if_icmp .ne 12, 3) := by decide +kernel
theorem dX3_init_62 : decode cX3_init 62 = .ok (.iconst 5, 1) := by decide +kernel
theorem dX3_init_63 : decode cX3_init 63 = .ok (.iload 4, 2) := by decide +kernel
theorem dX3_init_65 : decode cX3_init 65 = .ok (.invokestatic 21, 3) := by decide +kernel
theorem dX3_init_68 : decode cX3_init 68 = .ok (.goto 5, 3) := by decide +kernel
theorem dX3_init_71 : decode cX3_init 71 = .ok (.iload 4, 2) := by decide +kernel
theorem dX3_init_73 : decode cX3_init 73 = .ok (.putfield 27, 3) := by decide +kernel
theorem dX3_init_76 : decode cX3_init 76 = .ok (.return_, 1) := by decide +kernel
theorem dX3_pass_0 : decode cX3_pass 0 = .ok (.aload_n 0, 1) := by decide +kernel
theorem dX3_pass_1 : decode cX3_pass 1 = .ok (.dup, 1) := by decide +kernel
theorem dX3_pass_2 : decode cX3_pass 2 = .ok (.getfield 30, 3) := by decide +kernel
theorem dX3_pass_5 : decode cX3_pass 5 = .ok (.aload_n 0, 1) := by decide +kernel
theorem dX3_pass_6 : decode cX3_pass 6 = .ok (.getfield 15, 3) := by decide +kernel
theorem dX3_pass_9 : decode cX3_pass 9 = .ok (.iadd, 1) := by decide +kernel
theorem dX3_pass_10 : decode cX3_pass 10 = .ok (.putfield 30, 3) := by decide +kernel
theorem dX3_pass_13 : decode cX3_pass 13 = .ok (.aload_n 0, 1) := by decide +kernel
theorem dX3_pass_14 : decode cX3_pass 14 = .ok (.getfield 30, 3) := by decide +kernel
theorem dX3_pass_17 : decode cX3_pass 17 = .ok (.sipush 3600, 3) := by decide +kernel
theorem dX3_pass_20 : decode cX3_pass 20 = .ok (.if_icmp .lt 20, 3) := by decide +kernel
theorem dX3_pass_23 : decode cX3_pass 23 = .ok (.aload_n 0, 1) := by decide +kernel
theorem dX3_pass_24 : decode cX3_pass 24 = .ok (.dup, 1) := by decide +kernel
theorem dX3_pass_25 : decode cX3_pass 25 = .ok (.getfield 30, 3) := by decide +kernel
theorem dX3_pass_28 : decode cX3_pass 28 = .ok (.sipush 3600, 3) := by decide +kernel
theorem dX3_pass_31 : decode cX3_pass 31 = .ok (.isub, 1) := by decide +kernel
theorem dX3_pass_32 : decode cX3_pass 32 = .ok (.putfield 30, 3) := by decide +kernel
theorem dX3_pass_35 : decode cX3_pass 35 = .ok (.aload_n 0, 1) := by decide +kernel
theorem dX3_pass_36 : decode cX3_pass 36 = .ok (.iload_n 2, 1) := by decide +kernel
theorem dX3_pass_37 : decode cX3_pass 37 = .ok (.invokevirtual 33, 3) := by decide +kernel
theorem dX3_pass_40 : decode cX3_pass 40 = .ok (.aload_n 0, 1) := by decide +kernel
theorem dX3_pass_41 : decode cX3_pass 41 = .ok (.getfield 37, 3) := by decide +kernel
theorem dX3_pass_44 : decode cX3_pass 44 = .ok (.astore_n 3, 1) := by decide +kernel
theorem dX3_pass_45 : decode cX3_pass 45 = .ok (.aload_n 3, 1) := by decide +kernel
theorem dX3_pass_46 : decode cX3_pass 46 = .ok (.ifnull 24, 3) := by decide +kernel
theorem dX3_pass_49 : decode cX3_pass 49 = .ok (.aload_n 3, 1) := by decide +kernel
theorem dX3_pass_50 : decode cX3_pass 50 = .ok (.iload_n 1, 1) := by decide +kernel
theorem dX3_pass_51 : decode cX3_pass 51 = .ok (.invokevirtual 41, 3) := by decide +kernel
theorem dX3_pass_54 : decode cX3_pass 54 = .ok (.ifCond .eq 8, 3) := by decide +kernel
theorem dX3_pass_57 : decode cX3_pass 57 = .ok (.aload_n 0, 1) := by decide +kernel
theorem dX3_pass_58 : decode cX3_pass 58 = .ok (.iload_n 2, 1) := by decide +kernel
theorem dX3_pass_59 : decode cX3_pass 59 = .ok (.invokevirtual 33, 3) := by decide +kernel
theorem dX3_pass_62 : decode cX3_pass 62 = .ok (.aload_n 3, 1) := by decide +kernel
theorem dX3_pass_63 : decode cX3_pass 63 = .ok (.getfield 47, 3) := by decide +kernel
theorem dX3_pass_66 : decode cX3_pass 66 = .ok (.astore_n 3, 1) := by decide +kernel
theorem dX3_pass_67 : decode cX3_pass 67 = .ok (.goto (-22), 3) := by decide +kernel
theorem dX3_pass_70 : decode cX3_pass 70 = .ok (.aload_n 0, 1) := by decide +kernel
theorem dX3_pass_71 : decode cX3_pass 71 = .ok (.iload_n 1, 1) := by decide +kernel
theorem dX3_pass_72 : decode cX3_pass 72 = .ok (.iload_n 2, 1) := by decide +kernel
theorem dX3_pass_73 : decode cX3_pass 73 = .ok (.invokevirtual 50, 3) := by decide +kernel
theorem dX3_pass_76 : decode cX3_pass 76 = .ok (.aload_n 0, 1) := by decide +kernel
theorem dX3_pass_77 : decode cX3_pass 77 = .ok (.dup, 1) := by decide +kernel
theorem dX3_pass_78 : decode cX3_pass 78 = .ok (.getfield 54, 3) := by decide +kernel
theorem dX3_pass_81 : decode cX3_pass 81 = .ok (.aload_n 0, 1) := by decide +kernel
theorem dX3_pass_82 : decode cX3_pass 82 = .ok (.getfield 58, 3) := by decide +kernel
theorem dX3_pass_85 : decode cX3_pass 85 = .ok (.i2l, 1) := by decide +kernel
theorem dX3_pass_86 : decode cX3_pass 86 = .ok (.ladd, 1) := by decide +kernel
theorem dX3_pass_87 : decode cX3_pass 87 = .ok (.putfield 54, 3) := by decide +kernel
theorem dX3_pass_90 : decode cX3_pass 90 = .ok (.aload_n 0, 1) := by decide +kernel
theorem dX3_pass_91 : decode cX3_pass 91 = .ok (.aload_n 0, 1) := by decide +kernel
theorem dX3_pass_92 : decode cX3_pass 92 = .ok (.getfield 61, 3) := by decide +kernel
theorem dX3_pass_95 : decode cX3_pass 95 = .ok (.aload_n 0, 1) := by decide +kernel
theorem dX3_pass_96 : decode cX3_pass 96 = .ok (.getfield 58, 3) := by decide +kernel
theorem dX3_pass_99 : decode cX3_pass 99 = .ok (.invokestatic 21, 3) := by decide +kernel
theorem dX3_pass_102 : decode cX3_pass 102 = .ok (.putfield 61, 3) := by decide +kernel
theorem dX3_pass_105 : decode cX3_pass 105 = .ok (.return_, 1) := by decide +kernel
theorem dX3_come_0 : decode cX3_come 0 = .ok (.iload_n 1, 1) := by decide +kernel
theorem dX3_come_1 : decode cX3_come 1 = .ok (.ifCond .eq 10, 3) := by decide +kernel
theorem dX3_come_4 : decode cX3_come 4 = .ok (.aload_n 0, 1) := by decide +kernel
theorem dX3_come_5 : decode cX3_come 5 = .ok (.getfield 58, 3) := by decide +kernel
theorem dX3_come_8 : decode cX3_come 8 = .ok (.ifCond .le 13, 3) := by decide +kernel
theorem dX3_come_11 : decode cX3_come 11 = .ok (.aload_n 0, 1) := by decide +kernel
theorem dX3_come_12 : decode cX3_come 12 = .ok (.dup, 1) := by decide +kernel
theorem dX3_come_13 : decode cX3_come 13 = .ok (.getfield 64, 3) := by decide +kernel
theorem dX3_come_16 : decode cX3_come 16 = .ok (.iconst 1, 1) := by decide +kernel
theorem dX3_come_17 : decode cX3_come 17 = .ok (.iadd, 1) := by decide +kernel
theorem dX3_come_18 : decode cX3_come 18 = .ok (.putfield 64, 3) := by decide +kernel
theorem dX3_come_21 : decode cX3_come 21 = .ok (.aload_n 0, 1) := by decide +kernel
theorem dX3_come_22 : decode cX3_come 22 = .ok (.dup, 1) := by decide +kernel
theorem dX3_come_23 : decode cX3_come 23 = .ok (.getfield 67, 3) := by decide +kernel
theorem dX3_come_26 : decode cX3_come 26 = .ok (.iconst 1, 1) := by decide +kernel
theorem dX3_come_27 : decode cX3_come 27 = .ok (.iadd, 1) := by decide +kernel
theorem dX3_come_28 : decode cX3_come 28 = .ok (.putfield 67, 3) := by decide +kernel
theorem dX3_come_31 : decode cX3_come 31 = .ok (.aload_n 0, 1) := by decide +kernel
theorem dX3_come_32 : decode cX3_come 32 = .ok (.dup, 1) := by decide +kernel
theorem dX3_come_33 : decode cX3_come 33 = .ok (.getfield 58, 3) := by decide +kernel
theorem dX3_come_36 : decode cX3_come 36 = .ok (.iconst 1, 1) := by decide +kernel
theorem dX3_come_37 : decode cX3_come 37 = .ok (.iadd, 1) := by decide +kernel
theorem dX3_come_38 : decode cX3_come 38 = .ok (.putfield 58, 3) := by decide +kernel
theorem dX3_come_41 : decode cX3_come 41 = .ok (.return_, 1) := by decide +kernel
theorem dX3_leave_0 : decode cX3_leave 0 = .ok (.aload_n 0, 1) := by decide +kernel
theorem dX3_leave_1 : decode cX3_leave 1 = .ok (.iload_n 2, 1) := by decide +kernel
theorem dX3_leave_2 : decode cX3_leave 2 = .ok (.ifCond .eq 15, 3) := by decide +kernel
theorem dX3_leave_5 : decode cX3_leave 5 = .ok (.aload_n 0, 1) := by decide +kernel
theorem dX3_leave_6 : decode cX3_leave 6 = .ok (.getfield 70, 3) := by decide +kernel
theorem dX3_leave_9 : decode cX3_leave 9 = .ok (.aload_n 0, 1) := by decide +kernel
theorem dX3_leave_10 : decode cX3_leave 10 = .ok (.getfield 18, 3) := by decide +kernel
theorem dX3_leave_13 : decode cX3_leave 13 = .ok (.iadd, 1) := by decide +kernel
theorem dX3_leave_14 : decode cX3_leave 14 = .ok (.goto 4, 3) := by decide +kernel
theorem dX3_leave_17 : decode cX3_leave 17 = .ok (.iconst 0, 1) := by decide +kernel
theorem dX3_leave_18 : decode cX3_leave 18 = .ok (.putfield 70, 3) := by decide +kernel
theorem dX3_leave_21 : decode cX3_leave 21 = .ok (.aload_n 0, 1) := by decide +kernel
theorem dX3_leave_22 : decode cX3_leave 22 = .ok (.getfield 70, 3) := by decide +kernel
theorem dX3_leave_25 : decode cX3_leave 25 = .ok (.sipush 3600, 3) := by decide +kernel
theorem dX3_leave_28 : decode cX3_leave 28 = .ok (.if_icmp .lt 74, 3) := by decide +kernel
theorem dX3_leave_31 : decode cX3_leave 31 = .ok (.aload_n 0, 1) := by decide +kernel
theorem dX3_leave_32 : decode cX3_leave 32 = .ok (.getfield 58, 3) := by decide +kernel
theorem dX3_leave_35 : decode cX3_leave 35 = .ok (.ifCond .le 67, 3) := by decide +kernel
theorem dX3_leave_38 : decode cX3_leave 38 = .ok (.aload_n 0, 1) := by decide +kernel
theorem dX3_leave_39 : decode cX3_leave 39 = .ok (.getfield 73, 3) := by decide +kernel
theorem dX3_leave_42 : decode cX3_leave 42 = .ok (.ifnull 13, 3) := by decide +kernel
theorem dX3_leave_45 : decode cX3_leave 45 = .ok (.aload_n 0, 1) := by decide +kernel
theorem dX3_leave_46 : decode cX3_leave 46 = .ok (.getfield 73, 3) := by decide +kernel
theorem dX3_leave_49 : decode cX3_leave 49 = .ok (.invokevirtual 76, 3) := by decide +kernel
theorem dX3_leave_52 : decode cX3_leave 52 = .ok (.ifCond .ne 50, 3) := by decide +kernel
theorem dX3_leave_55 : decode cX3_leave 55 = .ok (.aload_n 0, 1) := by decide +kernel
theorem dX3_leave_56 : decode cX3_leave 56 = .ok (.dup, 1) := by decide +kernel
theorem dX3_leave_57 : decode cX3_leave 57 = .ok (.getfield 70, 3) := by decide +kernel
theorem dX3_leave_60 : decode cX3_leave 60 = .ok (.sipush 3600, 3) := by decide +kernel
theorem dX3_leave_63 : decode cX3_leave 63 = .ok (.isub, 1) := by decide +kernel
theorem dX3_leave_64 : decode cX3_leave 64 = .ok (.putfield 70, 3) := by decide +kernel
theorem dX3_leave_67 : decode cX3_leave 67 = .ok (.aload_n 0, 1) := by decide +kernel
theorem dX3_leave_68 : decode cX3_leave 68 = .ok (.dup, 1) := by decide +kernel
theorem dX3_leave_69 : decode cX3_leave 69 = .ok (.getfield 58, 3) := by decide +kernel
theorem dX3_leave_72 : decode cX3_leave 72 = .ok (.iconst 1, 1) := by decide +kernel
theorem dX3_leave_73 : decode cX3_leave 73 = .ok (.isub, 1) := by decide +kernel
theorem dX3_leave_74 : decode cX3_leave 74 = .ok (.putfield 58, 3) := by decide +kernel
theorem dX3_leave_77 : decode cX3_leave 77 = .ok (.aload_n 0, 1) := by decide +kernel
theorem dX3_leave_78 : decode cX3_leave 78 = .ok (.dup, 1) := by decide +kernel
theorem dX3_leave_79 : decode cX3_leave 79 = .ok (.getfield 80, 3) := by decide +kernel
theorem dX3_leave_82 : decode cX3_leave 82 = .ok (.iconst 1, 1) := by decide +kernel
theorem dX3_leave_83 : decode cX3_leave 83 = .ok (.iadd, 1) := by decide +kernel
theorem dX3_leave_84 : decode cX3_leave 84 = .ok (.putfield 80, 3) := by decide +kernel
theorem dX3_leave_87 : decode cX3_leave 87 = .ok (.aload_n 0, 1) := by decide +kernel
theorem dX3_leave_88 : decode cX3_leave 88 = .ok (.getfield 73, 3) := by decide +kernel
theorem dX3_leave_91 : decode cX3_leave 91 = .ok (.ifnull 11, 3) := by decide +kernel
theorem dX3_leave_94 : decode cX3_leave 94 = .ok (.aload_n 0, 1) := by decide +kernel
theorem dX3_leave_95 : decode cX3_leave 95 = .ok (.getfield 73, 3) := by decide +kernel
theorem dX3_leave_98 : decode cX3_leave 98 = .ok (.iload_n 1, 1) := by decide +kernel
theorem dX3_leave_99 : decode cX3_leave 99 = .ok (.invokevirtual 83, 3) := by decide +kernel
theorem dX3_leave_102 : decode cX3_leave 102 = .ok (.aload_n 0, 1) := by decide +kernel
theorem dX3_leave_103 : decode cX3_leave 103 = .ok (.aload_n 0, 1) := by decide +kernel
theorem dX3_leave_104 : decode cX3_leave 104 = .ok (.getfield 70, 3) := by decide +kernel
theorem dX3_leave_107 : decode cX3_leave 107 = .ok (.sipush 3600, 3) := by decide +kernel
theorem dX3_leave_110 : decode cX3_leave 110 = .ok (.invokestatic 87, 3) := by decide +kernel
theorem dX3_leave_113 : decode cX3_leave 113 = .ok (.putfield 70, 3) := by decide +kernel
theorem dX3_leave_116 : decode cX3_leave 116 = .ok (.return_, 1) := by decide +kernel
theorem dX3_toldOfQueue_0 : decode cX3_toldOfQueue 0 = .ok (.iload_n 1, 1) := by decide +kernel
theorem dX3_toldOfQueue_1 : decode cX3_toldOfQueue 1 = .ok (.tableswitch 140 0 10 #[59, 65, 71, 77, 82, 88, 94, 116, 122, 128, 134], 59) := by decide +kernel
theorem dX3_toldOfQueue_60 : decode cX3_toldOfQueue 60 = .ok (.aload_n 0, 1) := by decide +kernel
theorem dX3_toldOfQueue_61 : decode cX3_toldOfQueue 61 = .ok (.getfield 58, 3) := by decide +kernel
theorem dX3_toldOfQueue_64 : decode cX3_toldOfQueue 64 = .ok (.i2l, 1) := by decide +kernel
theorem dX3_toldOfQueue_65 : decode cX3_toldOfQueue 65 = .ok (.lreturn, 1) := by decide +kernel
theorem dX3_toldOfQueue_66 : decode cX3_toldOfQueue 66 = .ok (.aload_n 0, 1) := by decide +kernel
theorem dX3_toldOfQueue_67 : decode cX3_toldOfQueue 67 = .ok (.getfield 67, 3) := by decide +kernel
theorem dX3_toldOfQueue_70 : decode cX3_toldOfQueue 70 = .ok (.i2l, 1) := by decide +kernel
theorem dX3_toldOfQueue_71 : decode cX3_toldOfQueue 71 = .ok (.lreturn, 1) := by decide +kernel
theorem dX3_toldOfQueue_72 : decode cX3_toldOfQueue 72 = .ok (.aload_n 0, 1) := by decide +kernel
theorem dX3_toldOfQueue_73 : decode cX3_toldOfQueue 73 = .ok (.getfield 80, 3) := by decide +kernel
theorem dX3_toldOfQueue_76 : decode cX3_toldOfQueue 76 = .ok (.i2l, 1) := by decide +kernel
theorem dX3_toldOfQueue_77 : decode cX3_toldOfQueue 77 = .ok (.lreturn, 1) := by decide +kernel
theorem dX3_toldOfQueue_78 : decode cX3_toldOfQueue 78 = .ok (.aload_n 0, 1) := by decide +kernel
theorem dX3_toldOfQueue_79 : decode cX3_toldOfQueue 79 = .ok (.getfield 54, 3) := by decide +kernel
theorem dX3_toldOfQueue_82 : decode cX3_toldOfQueue 82 = .ok (.lreturn, 1) := by decide +kernel
theorem dX3_toldOfQueue_83 : decode cX3_toldOfQueue 83 = .ok (.aload_n 0, 1) := by decide +kernel
theorem dX3_toldOfQueue_84 : decode cX3_toldOfQueue 84 = .ok (.getfield 64, 3) := by decide +kernel
theorem dX3_toldOfQueue_87 : decode cX3_toldOfQueue 87 = .ok (.i2l, 1) := by decide +kernel
theorem dX3_toldOfQueue_88 : decode cX3_toldOfQueue 88 = .ok (.lreturn, 1) := by decide +kernel
theorem dX3_toldOfQueue_89 : decode cX3_toldOfQueue 89 = .ok (.aload_n 0, 1) := by decide +kernel
theorem dX3_toldOfQueue_90 : decode cX3_toldOfQueue 90 = .ok (.getfield 61, 3) := by decide +kernel
theorem dX3_toldOfQueue_93 : decode cX3_toldOfQueue 93 = .ok (.i2l, 1) := by decide +kernel
theorem dX3_toldOfQueue_94 : decode cX3_toldOfQueue 94 = .ok (.lreturn, 1) := by decide +kernel
theorem dX3_toldOfQueue_95 : decode cX3_toldOfQueue 95 = .ok (.aload_n 0, 1) := by decide +kernel
theorem dX3_toldOfQueue_96 : decode cX3_toldOfQueue 96 = .ok (.getfield 73, 3) := by decide +kernel
theorem dX3_toldOfQueue_99 : decode cX3_toldOfQueue 99 = .ok (.ifnonnull 9, 3) := by decide +kernel
theorem dX3_toldOfQueue_102 : decode cX3_toldOfQueue 102 = .ok (.ldc2_w 90, 3) := by decide +kernel
theorem dX3_toldOfQueue_105 : decode cX3_toldOfQueue 105 = .ok (.goto 11, 3) := by decide +kernel
theorem dX3_toldOfQueue_108 : decode cX3_toldOfQueue 108 = .ok (.aload_n 0, 1) := by decide +kernel
theorem dX3_toldOfQueue_109 : decode cX3_toldOfQueue 109 = .ok (.getfield 73, 3) := by decide +kernel
theorem dX3_toldOfQueue_112 : decode cX3_toldOfQueue 112 = .ok (.getfield 92, 3) := by decide +kernel
theorem dX3_toldOfQueue_115 : decode cX3_toldOfQueue 115 = .ok (.i2l, 1) := by decide +kernel
theorem dX3_toldOfQueue_116 : decode cX3_toldOfQueue 116 = .ok (.lreturn, 1) := by decide +kernel
theorem dX3_toldOfQueue_117 : decode cX3_toldOfQueue 117 = .ok (.aload_n 0, 1) := by decide +kernel
theorem dX3_toldOfQueue_118 : decode cX3_toldOfQueue 118 = .ok (.getfield 9, 3) := by decide +kernel
theorem dX3_toldOfQueue_121 : decode cX3_toldOfQueue 121 = .ok (.i2l, 1) := by decide +kernel
theorem dX3_toldOfQueue_122 : decode cX3_toldOfQueue 122 = .ok (.lreturn, 1) := by decide +kernel
theorem dX3_toldOfQueue_123 : decode cX3_toldOfQueue 123 = .ok (.aload_n 0, 1) := by decide +kernel
theorem dX3_toldOfQueue_124 : decode cX3_toldOfQueue 124 = .ok (.getfield 18, 3) := by decide +kernel
theorem dX3_toldOfQueue_127 : decode cX3_toldOfQueue 127 = .ok (.i2l, 1) := by decide +kernel
end
section
theorem dX3_toldOfQueue_128 : decode cX3_toldOfQueue 128 = .ok (.lreturn, 1) := by decide +kernel
theorem dX3_toldOfQueue_129 : decode cX3_toldOfQueue 129 = .ok (.aload_n 0, 1) := by decide +kernel
theorem dX3_toldOfQueue_130 : decode cX3_toldOfQueue 130 = .ok (.getfield 27, 3) := by decide +kernel
theorem dX3_toldOfQueue_133 : decode cX3_toldOfQueue 133 = .ok (.i2l, 1) := by decide +kernel
theorem dX3_toldOfQueue_134 : decode cX3_toldOfQueue 134 = .ok (.lreturn, 1) := by decide +kernel
theorem dX3_toldOfQueue_135 : decode cX3_toldOfQueue 135 = .ok (.aload_n 0, 1) := by decide +kernel
theorem dX3_toldOfQueue_136 : decode cX3_toldOfQueue 136 = .ok (.getfield 15, 3) := by decide +kernel
theorem dX3_toldOfQueue_139 : decode cX3_toldOfQueue 139 = .ok (.i2l, 1) := by decide +kernel
theorem dX3_toldOfQueue_140 : decode cX3_toldOfQueue 140 = .ok (.lreturn, 1) := by decide +kernel
theorem dX3_toldOfQueue_141 : decode cX3_toldOfQueue 141 = .ok (.ldc2_w 90, 3) := by decide +kernel
theorem dX3_toldOfQueue_144 : decode cX3_toldOfQueue 144 = .ok (.lreturn, 1) := by decide +kernel
theorem dX4_init_0 : decode cX4_init 0 = .ok (.aload_n 0, 1) := by decide +kernel
theorem dX4_init_1 : decode cX4_init 1 = .ok (.invokespecial 3, 3) := by decide +kernel
theorem dX4_init_4 : decode cX4_init 4 = .ok (.aload_n 0, 1) := by decide +kernel
theorem dX4_init_5 : decode cX4_init 5 = .ok (.bipush 61, 2) := by decide +kernel
theorem dX4_init_7 : decode cX4_init 7 = .ok (.newarray .boolean, 2) := by decide +kernel
theorem dX4_init_9 : decode cX4_init 9 = .ok (.putfield 11, 3) := by decide +kernel
theorem dX4_init_12 : decode cX4_init 12 = .ok (.aload_n 0, 1) := by decide +kernel
theorem dX4_init_13 : decode cX4_init 13 = .ok (.aload_n 1, 1) := by decide +kernel
theorem dX4_init_14 : decode cX4_init 14 = .ok (.putfield 15, 3) := by decide +kernel
theorem dX4_init_17 : decode cX4_init 17 = .ok (.aload_n 0, 1) := by decide +kernel
theorem dX4_init_18 : decode cX4_init 18 = .ok (.aload_n 1, 1) := by decide +kernel
theorem dX4_init_19 : decode cX4_init 19 = .ok (.getfield 19, 3) := by decide +kernel
theorem dX4_init_22 : decode cX4_init 22 = .ok (.putfield 25, 3) := by decide +kernel
theorem dX4_init_25 : decode cX4_init 25 = .ok (.aload_n 0, 1) := by decide +kernel
theorem dX4_init_26 : decode cX4_init 26 = .ok (.iload_n 2, 1) := by decide +kernel
theorem dX4_init_27 : decode cX4_init 27 = .ok (.putfield 28, 3) := by decide +kernel
theorem dX4_init_30 : decode cX4_init 30 = .ok (.aload_n 0, 1) := by decide +kernel
theorem dX4_init_31 : decode cX4_init 31 = .ok (.iload_n 3, 1) := by decide +kernel
theorem dX4_init_32 : decode cX4_init 32 = .ok (.putfield 32, 3) := by decide +kernel
theorem dX4_init_35 : decode cX4_init 35 = .ok (.return_, 1) := by decide +kernel
theorem dX4_isFull_0 : decode cX4_isFull 0 = .ok (.aload_n 0, 1) := by decide +kernel
theorem dX4_isFull_1 : decode cX4_isFull 1 = .ok (.getfield 35, 3) := by decide +kernel
theorem dX4_isFull_4 : decode cX4_isFull 4 = .ok (.aload_n 0, 1) := by decide +kernel
theorem dX4_isFull_5 : decode cX4_isFull 5 = .ok (.getfield 15, 3) := by decide +kernel
theorem dX4_isFull_8 : decode cX4_isFull 8 = .ok (.getfield 38, 3) := by decide +kernel
theorem dX4_isFull_11 : decode cX4_isFull 11 = .ok (.iadd, 1) := by decide +kernel
theorem dX4_isFull_12 : decode cX4_isFull 12 = .ok (.aload_n 0, 1) := by decide +kernel
theorem dX4_isFull_13 : decode cX4_isFull 13 = .ok (.getfield 32, 3) := by decide +kernel
theorem dX4_isFull_16 : decode cX4_isFull 16 = .ok (.if_icmp .lt 7, 3) := by decide +kernel
theorem dX4_isFull_19 : decode cX4_isFull 19 = .ok (.iconst 1, 1) := by decide +kernel
theorem dX4_isFull_20 : decode cX4_isFull 20 = .ok (.goto 4, 3) := by decide +kernel
theorem dX4_isFull_23 : decode cX4_isFull 23 = .ok (.iconst 0, 1) := by decide +kernel
theorem dX4_isFull_24 : decode cX4_isFull 24 = .ok (.ireturn, 1) := by decide +kernel
theorem dX4_send_0 : decode cX4_send 0 = .ok (.aload_n 0, 1) := by decide +kernel
theorem dX4_send_1 : decode cX4_send 1 = .ok (.getfield 11, 3) := by decide +kernel
theorem dX4_send_4 : decode cX4_send 4 = .ok (.iload_n 1, 1) := by decide +kernel
theorem dX4_send_5 : decode cX4_send 5 = .ok (.aload_n 0, 1) := by decide +kernel
theorem dX4_send_6 : decode cX4_send 6 = .ok (.getfield 28, 3) := by decide +kernel
theorem dX4_send_9 : decode cX4_send 9 = .ok (.iadd, 1) := by decide +kernel
theorem dX4_send_10 : decode cX4_send 10 = .ok (.bipush 61, 2) := by decide +kernel
theorem dX4_send_12 : decode cX4_send 12 = .ok (.irem, 1) := by decide +kernel
theorem dX4_send_13 : decode cX4_send 13 = .ok (.iconst 1, 1) := by decide +kernel
theorem dX4_send_14 : decode cX4_send 14 = .ok (.bastore, 1) := by decide +kernel
theorem dX4_send_15 : decode cX4_send 15 = .ok (.aload_n 0, 1) := by decide +kernel
theorem dX4_send_16 : decode cX4_send 16 = .ok (.dup, 1) := by decide +kernel
theorem dX4_send_17 : decode cX4_send 17 = .ok (.getfield 35, 3) := by decide +kernel
theorem dX4_send_20 : decode cX4_send 20 = .ok (.iconst 1, 1) := by decide +kernel
theorem dX4_send_21 : decode cX4_send 21 = .ok (.iadd, 1) := by decide +kernel
theorem dX4_send_22 : decode cX4_send 22 = .ok (.putfield 35, 3) := by decide +kernel
theorem dX4_send_25 : decode cX4_send 25 = .ok (.return_, 1) := by decide +kernel
theorem dX4_brings_0 : decode cX4_brings 0 = .ok (.iload_n 1, 1) := by decide +kernel
theorem dX4_brings_1 : decode cX4_brings 1 = .ok (.bipush 61, 2) := by decide +kernel
theorem dX4_brings_3 : decode cX4_brings 3 = .ok (.irem, 1) := by decide +kernel
theorem dX4_brings_4 : decode cX4_brings 4 = .ok (.istore_n 2, 1) := by decide +kernel
theorem dX4_brings_5 : decode cX4_brings 5 = .ok (.aload_n 0, 1) := by decide +kernel
theorem dX4_brings_6 : decode cX4_brings 6 = .ok (.getfield 11, 3) := by decide +kernel
theorem dX4_brings_9 : decode cX4_brings 9 = .ok (.iload_n 2, 1) := by decide +kernel
theorem dX4_brings_10 : decode cX4_brings 10 = .ok (.baload, 1) := by decide +kernel
theorem dX4_brings_11 : decode cX4_brings 11 = .ok (.ifCond .ne 5, 3) := by decide +kernel
theorem dX4_brings_14 : decode cX4_brings 14 = .ok (.iconst 0, 1) := by decide +kernel
theorem dX4_brings_15 : decode cX4_brings 15 = .ok (.ireturn, 1) := by decide +kernel
theorem dX4_brings_16 : decode cX4_brings 16 = .ok (.aload_n 0, 1) := by decide +kernel
theorem dX4_brings_17 : decode cX4_brings 17 = .ok (.getfield 11, 3) := by decide +kernel
theorem dX4_brings_20 : decode cX4_brings 20 = .ok (.iload_n 2, 1) := by decide +kernel
theorem dX4_brings_21 : decode cX4_brings 21 = .ok (.iconst 0, 1) := by decide +kernel
theorem dX4_brings_22 : decode cX4_brings 22 = .ok (.bastore, 1) := by decide +kernel
theorem dX4_brings_23 : decode cX4_brings 23 = .ok (.aload_n 0, 1) := by decide +kernel
theorem dX4_brings_24 : decode cX4_brings 24 = .ok (.dup, 1) := by decide +kernel
theorem dX4_brings_25 : decode cX4_brings 25 = .ok (.getfield 35, 3) := by decide +kernel
theorem dX4_brings_28 : decode cX4_brings 28 = .ok (.iconst 1, 1) := by decide +kernel
theorem dX4_brings_29 : decode cX4_brings 29 = .ok (.isub, 1) := by decide +kernel
theorem dX4_brings_30 : decode cX4_brings 30 = .ok (.putfield 35, 3) := by decide +kernel
theorem dX4_brings_33 : decode cX4_brings 33 = .ok (.iconst 1, 1) := by decide +kernel
theorem dX4_brings_34 : decode cX4_brings 34 = .ok (.ireturn, 1) := by decide +kernel
theorem dX5_init_0 : decode cX5_init 0 = .ok (.aload_n 0, 1) := by decide +kernel
theorem dX5_init_1 : decode cX5_init 1 = .ok (.invokespecial 3, 3) := by decide +kernel
theorem dX5_init_4 : decode cX5_init 4 = .ok (.aload_n 0, 1) := by decide +kernel
theorem dX5_init_5 : decode cX5_init 5 = .ok (.bipush 8, 2) := by decide +kernel
theorem dX5_init_7 : decode cX5_init 7 = .ok (.newarray .int, 2) := by decide +kernel
theorem dX5_init_9 : decode cX5_init 9 = .ok (.putfield 9, 3) := by decide +kernel
theorem dX5_init_12 : decode cX5_init 12 = .ok (.aload_n 0, 1) := by decide +kernel
theorem dX5_init_13 : decode cX5_init 13 = .ok (.iconst (-1), 1) := by decide +kernel
theorem dX5_init_14 : decode cX5_init 14 = .ok (.putfield 15, 3) := by decide +kernel
theorem dX5_init_17 : decode cX5_init 17 = .ok (.aload_n 0, 1) := by decide +kernel
theorem dX5_init_18 : decode cX5_init 18 = .ok (.iconst (-1), 1) := by decide +kernel
theorem dX5_init_19 : decode cX5_init 19 = .ok (.putfield 19, 3) := by decide +kernel
theorem dX5_init_22 : decode cX5_init 22 = .ok (.return_, 1) := by decide +kernel
theorem dX5_forget_0 : decode cX5_forget 0 = .ok (.iconst 0, 1) := by decide +kernel
theorem dX5_forget_1 : decode cX5_forget 1 = .ok (.istore_n 1, 1) := by decide +kernel
theorem dX5_forget_2 : decode cX5_forget 2 = .ok (.iload_n 1, 1) := by decide +kernel
theorem dX5_forget_3 : decode cX5_forget 3 = .ok (.bipush 8, 2) := by decide +kernel
theorem dX5_forget_5 : decode cX5_forget 5 = .ok (.if_icmp .ge 18, 3) := by decide +kernel
theorem dX5_forget_8 : decode cX5_forget 8 = .ok (.aload_n 0, 1) := by decide +kernel
theorem dX5_forget_9 : decode cX5_forget 9 = .ok (.getfield 9, 3) := by decide +kernel
theorem dX5_forget_12 : decode cX5_forget 12 = .ok (.iload_n 1, 1) := by decide +kernel
theorem dX5_forget_13 : decode cX5_forget 13 = .ok (.sipush 1000, 3) := by decide +kernel
theorem dX5_forget_16 : decode cX5_forget 16 = .ok (.iastore, 1) := by decide +kernel
theorem dX5_forget_17 : decode cX5_forget 17 = .ok (.iinc 1 1, 3) := by decide +kernel
theorem dX5_forget_20 : decode cX5_forget 20 = .ok (.goto (-18), 3) := by decide +kernel
theorem dX5_forget_23 : decode cX5_forget 23 = .ok (.return_, 1) := by decide +kernel
theorem dX5_see_0 : decode cX5_see 0 = .ok (.iconst 0, 1) := by decide +kernel
theorem dX5_see_1 : decode cX5_see 1 = .ok (.istore_n 2, 1) := by decide +kernel
theorem dX5_see_2 : decode cX5_see 2 = .ok (.iload_n 2, 1) := by decide +kernel
theorem dX5_see_3 : decode cX5_see 3 = .ok (.bipush 8, 2) := by decide +kernel
theorem dX5_see_5 : decode cX5_see 5 = .ok (.if_icmp .ge 35, 3) := by decide +kernel
theorem dX5_see_8 : decode cX5_see 8 = .ok (.aload_n 0, 1) := by decide +kernel
theorem dX5_see_9 : decode cX5_see 9 = .ok (.getfield 9, 3) := by decide +kernel
theorem dX5_see_12 : decode cX5_see 12 = .ok (.iload_n 2, 1) := by decide +kernel
theorem dX5_see_13 : decode cX5_see 13 = .ok (.iload_n 1, 1) := by decide +kernel
theorem dX5_see_14 : decode cX5_see 14 = .ok (.iload_n 2, 1) := by decide +kernel
theorem dX5_see_15 : decode cX5_see 15 = .ok (.ishr, 1) := by decide +kernel
theorem dX5_see_16 : decode cX5_see 16 = .ok (.iconst 1, 1) := by decide +kernel
theorem dX5_see_17 : decode cX5_see 17 = .ok (.iand, 1) := by decide +kernel
theorem dX5_see_18 : decode cX5_see 18 = .ok (.ifCond .eq 7, 3) := by decide +kernel
theorem dX5_see_21 : decode cX5_see 21 = .ok (.iconst 0, 1) := by decide +kernel
theorem dX5_see_22 : decode cX5_see 22 = .ok (.goto 11, 3) := by decide +kernel
theorem dX5_see_25 : decode cX5_see 25 = .ok (.aload_n 0, 1) := by decide +kernel
theorem dX5_see_26 : decode cX5_see 26 = .ok (.getfield 9, 3) := by decide +kernel
theorem dX5_see_29 : decode cX5_see 29 = .ok (.iload_n 2, 1) := by decide +kernel
theorem dX5_see_30 : decode cX5_see 30 = .ok (.iaload, 1) := by decide +kernel
theorem dX5_see_31 : decode cX5_see 31 = .ok (.iconst 1, 1) := by decide +kernel
theorem dX5_see_32 : decode cX5_see 32 = .ok (.iadd, 1) := by decide +kernel
theorem dX5_see_33 : decode cX5_see 33 = .ok (.iastore, 1) := by decide +kernel
theorem dX5_see_34 : decode cX5_see 34 = .ok (.iinc 2 1, 3) := by decide +kernel
theorem dX5_see_37 : decode cX5_see 37 = .ok (.goto (-35), 3) := by decide +kernel
theorem dX5_see_40 : decode cX5_see 40 = .ok (.return_, 1) := by decide +kernel
theorem dX5_findsClash_0 : decode cX5_findsClash 0 = .ok (.iconst 0, 1) := by decide +kernel
theorem dX5_findsClash_1 : decode cX5_findsClash 1 = .ok (.istore_n 3, 1) := by decide +kernel
theorem dX5_findsClash_2 : decode cX5_findsClash 2 = .ok (.iload_n 3, 1) := by decide +kernel
theorem dX5_findsClash_3 : decode cX5_findsClash 3 = .ok (.aload_n 1, 1) := by decide +kernel
theorem dX5_findsClash_4 : decode cX5_findsClash 4 = .ok (.getfield 22, 3) := by decide +kernel
theorem dX5_findsClash_7 : decode cX5_findsClash 7 = .ok (.if_icmp .ge 37, 3) := by decide +kernel
theorem dX5_findsClash_10 : decode cX5_findsClash 10 = .ok (.iload_n 2, 1) := by decide +kernel
theorem dX5_findsClash_11 : decode cX5_findsClash 11 = .ok (.iload_n 3, 1) := by decide +kernel
theorem dX5_findsClash_12 : decode cX5_findsClash 12 = .ok (.ishr, 1) := by decide +kernel
theorem dX5_findsClash_13 : decode cX5_findsClash 13 = .ok (.iconst 1, 1) := by decide +kernel
theorem dX5_findsClash_14 : decode cX5_findsClash 14 = .ok (.iand, 1) := by decide +kernel
theorem dX5_findsClash_15 : decode cX5_findsClash 15 = .ok (.ifCond .eq 23, 3) := by decide +kernel
theorem dX5_findsClash_18 : decode cX5_findsClash 18 = .ok (.aload_n 1, 1) := by decide +kernel
theorem dX5_findsClash_19 : decode cX5_findsClash 19 = .ok (.getfield 27, 3) := by decide +kernel
theorem dX5_findsClash_22 : decode cX5_findsClash 22 = .ok (.iload_n 3, 1) := by decide +kernel
theorem dX5_findsClash_23 : decode cX5_findsClash 23 = .ok (.iaload, 1) := by decide +kernel
theorem dX5_findsClash_24 : decode cX5_findsClash 24 = .ok (.ifCond .eq 14, 3) := by decide +kernel
theorem dX5_findsClash_27 : decode cX5_findsClash 27 = .ok (.aload_n 0, 1) := by decide +kernel
theorem dX5_findsClash_28 : decode cX5_findsClash 28 = .ok (.aload_n 1, 1) := by decide +kernel
theorem dX5_findsClash_29 : decode cX5_findsClash 29 = .ok (.iload_n 3, 1) := by decide +kernel
theorem dX5_findsClash_30 : decode cX5_findsClash 30 = .ok (.invokevirtual 30, 3) := by decide +kernel
theorem dX5_findsClash_33 : decode cX5_findsClash 33 = .ok (.ifCond .eq 5, 3) := by decide +kernel
theorem dX5_findsClash_36 : decode cX5_findsClash 36 = .ok (.iconst 1, 1) := by decide +kernel
theorem dX5_findsClash_37 : decode cX5_findsClash 37 = .ok (.ireturn, 1) := by decide +kernel
theorem dX5_findsClash_38 : decode cX5_findsClash 38 = .ok (.iinc 3 1, 3) := by decide +kernel
theorem dX5_findsClash_41 : decode cX5_findsClash 41 = .ok (.goto (-39), 3) := by decide +kernel
theorem dX5_findsClash_44 : decode cX5_findsClash 44 = .ok (.iconst 0, 1) := by decide +kernel
theorem dX5_findsClash_45 : decode cX5_findsClash 45 = .ok (.ireturn, 1) := by decide +kernel
theorem dX5_findsEarlier_0 : decode cX5_findsEarlier 0 = .ok (.iconst 0, 1) := by decide +kernel
theorem dX5_findsEarlier_1 : decode cX5_findsEarlier 1 = .ok (.istore_n 3, 1) := by decide +kernel
theorem dX5_findsEarlier_2 : decode cX5_findsEarlier 2 = .ok (.iload_n 3, 1) := by decide +kernel
theorem dX5_findsEarlier_3 : decode cX5_findsEarlier 3 = .ok (.aload_n 1, 1) := by decide +kernel
theorem dX5_findsEarlier_4 : decode cX5_findsEarlier 4 = .ok (.getfield 22, 3) := by decide +kernel
theorem dX5_findsEarlier_7 : decode cX5_findsEarlier 7 = .ok (.if_icmp .ge 54, 3) := by decide +kernel
theorem dX5_findsEarlier_10 : decode cX5_findsEarlier 10 = .ok (.aload_n 1, 1) := by decide +kernel
theorem dX5_findsEarlier_11 : decode cX5_findsEarlier 11 = .ok (.getfield 27, 3) := by decide +kernel
theorem dX5_findsEarlier_14 : decode cX5_findsEarlier 14 = .ok (.iload_n 2, 1) := by decide +kernel
theorem dX5_findsEarlier_15 : decode cX5_findsEarlier 15 = .ok (.iaload, 1) := by decide +kernel
theorem dX5_findsEarlier_16 : decode cX5_findsEarlier 16 = .ok (.iload_n 3, 1) := by decide +kernel
theorem dX5_findsEarlier_17 : decode cX5_findsEarlier 17 = .ok (.ishr, 1) := by decide +kernel
theorem dX5_findsEarlier_18 : decode cX5_findsEarlier 18 = .ok (.iconst 1, 1) := by decide +kernel
theorem dX5_findsEarlier_19 : decode cX5_findsEarlier 19 = .ok (.iand, 1) := by decide +kernel
theorem dX5_findsEarlier_20 : decode cX5_findsEarlier 20 = .ok (.ifCond .eq 35, 3) := by decide +kernel
theorem dX5_findsEarlier_23 : decode cX5_findsEarlier 23 = .ok (.aload_n 0, 1) := by decide +kernel
theorem dX5_findsEarlier_24 : decode cX5_findsEarlier 24 = .ok (.getfield 9, 3) := by decide +kernel
theorem dX5_findsEarlier_27 : decode cX5_findsEarlier 27 = .ok (.iload_n 3, 1) := by decide +kernel
theorem dX5_findsEarlier_28 : decode cX5_findsEarlier 28 = .ok (.iaload, 1) := by decide +kernel
theorem dX5_findsEarlier_29 : decode cX5_findsEarlier 29 = .ok (.aload_n 1, 1) := by decide +kernel
theorem dX5_findsEarlier_30 : decode cX5_findsEarlier 30 = .ok (.getfield 34, 3) := by decide +kernel
theorem dX5_findsEarlier_33 : decode cX5_findsEarlier 33 = .ok (.iload_n 3, 1) := by decide +kernel
theorem dX5_findsEarlier_34 : decode cX5_findsEarlier 34 = .ok (.bipush 8, 2) := by decide +kernel
theorem dX5_findsEarlier_36 : decode cX5_findsEarlier 36 = .ok (.imul, 1) := by decide +kernel
theorem dX5_findsEarlier_37 : decode cX5_findsEarlier 37 = .ok (.iload_n 2, 1) := by decide +kernel
theorem dX5_findsEarlier_38 : decode cX5_findsEarlier 38 = .ok (.iadd, 1) := by decide +kernel
theorem dX5_findsEarlier_39 : decode cX5_findsEarlier 39 = .ok (.iaload, 1) := by decide +kernel
theorem dX5_findsEarlier_40 : decode cX5_findsEarlier 40 = .ok (.if_icmp .gt 15, 3) := by decide +kernel
theorem dX5_findsEarlier_43 : decode cX5_findsEarlier 43 = .ok (.aload_n 0, 1) := by decide +kernel
theorem dX5_findsEarlier_44 : decode cX5_findsEarlier 44 = .ok (.iload_n 3, 1) := by decide +kernel
theorem dX5_findsEarlier_45 : decode cX5_findsEarlier 45 = .ok (.putfield 15, 3) := by decide +kernel
theorem dX5_findsEarlier_48 : decode cX5_findsEarlier 48 = .ok (.aload_n 0, 1) := by decide +kernel
theorem dX5_findsEarlier_49 : decode cX5_findsEarlier 49 = .ok (.iload_n 2, 1) := by decide +kernel
theorem dX5_findsEarlier_50 : decode cX5_findsEarlier 50 = .ok (.putfield 19, 3) := by decide +kernel
theorem dX5_findsEarlier_53 : decode cX5_findsEarlier 53 = .ok (.iconst 1, 1) := by decide +kernel
theorem dX5_findsEarlier_54 : decode cX5_findsEarlier 54 = .ok (.ireturn, 1) := by decide +kernel
theorem dX5_findsEarlier_55 : decode cX5_findsEarlier 55 = .ok (.iinc 3 1, 3) := by decide +kernel
theorem dX5_findsEarlier_58 : decode cX5_findsEarlier 58 = .ok (.goto (-56), 3) := by decide +kernel
theorem dX5_findsEarlier_61 : decode cX5_findsEarlier 61 = .ok (.iconst 0, 1) := by decide +kernel
theorem dX5_findsEarlier_62 : decode cX5_findsEarlier 62 = .ok (.ireturn, 1) := by decide +kernel
theorem dX5_firstClashOf_0 : decode cX5_firstClashOf 0 = .ok (.aload_n 0, 1) := by decide +kernel
theorem dX5_firstClashOf_1 : decode cX5_firstClashOf 1 = .ok (.invokevirtual 37, 3) := by decide +kernel
theorem dX5_firstClashOf_4 : decode cX5_firstClashOf 4 = .ok (.iconst 0, 1) := by decide +kernel
theorem dX5_firstClashOf_5 : decode cX5_firstClashOf 5 = .ok (.istore_n 3, 1) := by decide +kernel
theorem dX5_firstClashOf_6 : decode cX5_firstClashOf 6 = .ok (.iload_n 3, 1) := by decide +kernel
theorem dX5_firstClashOf_7 : decode cX5_firstClashOf 7 = .ok (.aload_n 2, 1) := by decide +kernel
theorem dX5_firstClashOf_8 : decode cX5_firstClashOf 8 = .ok (.getfield 40, 3) := by decide +kernel
theorem dX5_firstClashOf_11 : decode cX5_firstClashOf 11 = .ok (.if_icmp .ge 19, 3) := by decide +kernel
theorem dX5_firstClashOf_14 : decode cX5_firstClashOf 14 = .ok (.aload_n 0, 1) := by decide +kernel
theorem dX5_firstClashOf_15 : decode cX5_firstClashOf 15 = .ok (.aload_n 2, 1) := by decide +kernel
theorem dX5_firstClashOf_16 : decode cX5_firstClashOf 16 = .ok (.getfield 45, 3) := by decide +kernel
theorem dX5_firstClashOf_19 : decode cX5_firstClashOf 19 = .ok (.iload_n 3, 1) := by decide +kernel
theorem dX5_firstClashOf_20 : decode cX5_firstClashOf 20 = .ok (.iaload, 1) := by decide +kernel
theorem dX5_firstClashOf_21 : decode cX5_firstClashOf 21 = .ok (.invokevirtual 48, 3) := by decide +kernel
theorem dX5_firstClashOf_24 : decode cX5_firstClashOf 24 = .ok (.iinc 3 1, 3) := by decide +kernel
theorem dX5_firstClashOf_27 : decode cX5_firstClashOf 27 = .ok (.goto (-21), 3) := by decide +kernel
theorem dX5_firstClashOf_30 : decode cX5_firstClashOf 30 = .ok (.iconst 0, 1) := by decide +kernel
theorem dX5_firstClashOf_31 : decode cX5_firstClashOf 31 = .ok (.istore_n 3, 1) := by decide +kernel
theorem dX5_firstClashOf_32 : decode cX5_firstClashOf 32 = .ok (.iload_n 3, 1) := by decide +kernel
theorem dX5_firstClashOf_33 : decode cX5_firstClashOf 33 = .ok (.aload_n 2, 1) := by decide +kernel
theorem dX5_firstClashOf_34 : decode cX5_firstClashOf 34 = .ok (.getfield 40, 3) := by decide +kernel
theorem dX5_firstClashOf_37 : decode cX5_firstClashOf 37 = .ok (.if_icmp .ge 35, 3) := by decide +kernel
theorem dX5_firstClashOf_40 : decode cX5_firstClashOf 40 = .ok (.aload_n 0, 1) := by decide +kernel
theorem dX5_firstClashOf_41 : decode cX5_firstClashOf 41 = .ok (.aload_n 2, 1) := by decide +kernel
theorem dX5_firstClashOf_42 : decode cX5_firstClashOf 42 = .ok (.getfield 45, 3) := by decide +kernel
theorem dX5_firstClashOf_45 : decode cX5_firstClashOf 45 = .ok (.iload_n 3, 1) := by decide +kernel
theorem dX5_firstClashOf_46 : decode cX5_firstClashOf 46 = .ok (.iaload, 1) := by decide +kernel
theorem dX5_firstClashOf_47 : decode cX5_firstClashOf 47 = .ok (.invokevirtual 48, 3) := by decide +kernel
theorem dX5_firstClashOf_50 : decode cX5_firstClashOf 50 = .ok (.aload_n 0, 1) := by decide +kernel
theorem dX5_firstClashOf_51 : decode cX5_firstClashOf 51 = .ok (.aload_n 1, 1) := by decide +kernel
theorem dX5_firstClashOf_52 : decode cX5_firstClashOf 52 = .ok (.aload_n 2, 1) := by decide +kernel
theorem dX5_firstClashOf_53 : decode cX5_firstClashOf 53 = .ok (.getfield 45, 3) := by decide +kernel
theorem dX5_firstClashOf_56 : decode cX5_firstClashOf 56 = .ok (.iload_n 3, 1) := by decide +kernel
theorem dX5_firstClashOf_57 : decode cX5_firstClashOf 57 = .ok (.iaload, 1) := by decide +kernel
theorem dX5_firstClashOf_58 : decode cX5_firstClashOf 58 = .ok (.invokevirtual 52, 3) := by decide +kernel
theorem dX5_firstClashOf_61 : decode cX5_firstClashOf 61 = .ok (.ifCond .eq 5, 3) := by decide +kernel
theorem dX5_firstClashOf_64 : decode cX5_firstClashOf 64 = .ok (.iload_n 3, 1) := by decide +kernel
theorem dX5_firstClashOf_65 : decode cX5_firstClashOf 65 = .ok (.ireturn, 1) := by decide +kernel
theorem dX5_firstClashOf_66 : decode cX5_firstClashOf 66 = .ok (.iinc 3 1, 3) := by decide +kernel
theorem dX5_firstClashOf_69 : decode cX5_firstClashOf 69 = .ok (.goto (-37), 3) := by decide +kernel
theorem dX5_firstClashOf_72 : decode cX5_firstClashOf 72 = .ok (.iconst (-1), 1) := by decide +kernel
theorem dX5_firstClashOf_73 : decode cX5_firstClashOf 73 = .ok (.ireturn, 1) := by decide +kernel
theorem dX5_firstClashRead_0 : decode cX5_firstClashRead 0 = .ok (.aload_n 0, 1) := by decide +kernel
theorem dX5_firstClashRead_1 : decode cX5_firstClashRead 1 = .ok (.invokevirtual 37, 3) := by decide +kernel
theorem dX5_firstClashRead_4 : decode cX5_firstClashRead 4 = .ok (.iload_n 2, 1) := by decide +kernel
theorem dX5_firstClashRead_5 : decode cX5_firstClashRead 5 = .ok (.istore 6, 2) := by decide +kernel
theorem dX5_firstClashRead_7 : decode cX5_firstClashRead 7 = .ok (.iload 6, 2) := by decide +kernel
theorem dX5_firstClashRead_9 : decode cX5_firstClashRead 9 = .ok (.iload_n 3, 1) := by decide +kernel
theorem dX5_firstClashRead_10 : decode cX5_firstClashRead 10 = .ok (.if_icmp .ge 55, 3) := by decide +kernel
theorem dX5_firstClashRead_13 : decode cX5_firstClashRead 13 = .ok (.aload_n 1, 1) := by decide +kernel
theorem dX5_firstClashRead_14 : decode cX5_firstClashRead 14 = .ok (.getfield 55, 3) := by decide +kernel
theorem dX5_firstClashRead_17 : decode cX5_firstClashRead 17 = .ok (.iload 6, 2) := by decide +kernel
theorem dX5_firstClashRead_19 : decode cX5_firstClashRead 19 = .ok (.sipush 200, 3) := by decide +kernel
theorem dX5_firstClashRead_22 : decode cX5_firstClashRead 22 = .ok (.irem, 1) := by decide +kernel
theorem dX5_firstClashRead_23 : decode cX5_firstClashRead 23 = .ok (.iaload, 1) := by decide +kernel
theorem dX5_firstClashRead_24 : decode cX5_firstClashRead 24 = .ok (.iload 6, 2) := by decide +kernel
theorem dX5_firstClashRead_26 : decode cX5_firstClashRead 26 = .ok (.iload 4, 2) := by decide +kernel
theorem dX5_firstClashRead_28 : decode cX5_firstClashRead 28 = .ok (.if_icmp .ne 8, 3) := by decide +kernel
theorem dX5_firstClashRead_31 : decode cX5_firstClashRead 31 = .ok (.iload 5, 2) := by decide +kernel
theorem dX5_firstClashRead_33 : decode cX5_firstClashRead 33 = .ok (.goto 4, 3) := by decide +kernel
theorem dX5_firstClashRead_36 : decode cX5_firstClashRead 36 = .ok (.iconst 0, 1) := by decide +kernel
theorem dX5_firstClashRead_37 : decode cX5_firstClashRead 37 = .ok (.ixor, 1) := by decide +kernel
theorem dX5_firstClashRead_38 : decode cX5_firstClashRead 38 = .ok (.istore 7, 2) := by decide +kernel
theorem dX5_firstClashRead_40 : decode cX5_firstClashRead 40 = .ok (.aload_n 0, 1) := by decide +kernel
theorem dX5_firstClashRead_41 : decode cX5_firstClashRead 41 = .ok (.iload 7, 2) := by decide +kernel
theorem dX5_firstClashRead_43 : decode cX5_firstClashRead 43 = .ok (.invokevirtual 48, 3) := by decide +kernel
theorem dX5_firstClashRead_46 : decode cX5_firstClashRead 46 = .ok (.aload_n 0, 1) := by decide +kernel
theorem dX5_firstClashRead_47 : decode cX5_firstClashRead 47 = .ok (.aload_n 1, 1) := by decide +kernel
theorem dX5_firstClashRead_48 : decode cX5_firstClashRead 48 = .ok (.iload 7, 2) := by decide +kernel
theorem dX5_firstClashRead_50 : decode cX5_firstClashRead 50 = .ok (.invokevirtual 52, 3) := by decide +kernel
theorem dX5_firstClashRead_53 : decode cX5_firstClashRead 53 = .ok (.ifCond .eq 6, 3) := by decide +kernel
theorem dX5_firstClashRead_56 : decode cX5_firstClashRead 56 = .ok (.iload 6, 2) := by decide +kernel
theorem dX5_firstClashRead_58 : decode cX5_firstClashRead 58 = .ok (.ireturn, 1) := by decide +kernel
theorem dX5_firstClashRead_59 : decode cX5_firstClashRead 59 = .ok (.iinc 6 1, 3) := by decide +kernel
theorem dX5_firstClashRead_62 : decode cX5_firstClashRead 62 = .ok (.goto (-55), 3) := by decide +kernel
theorem dX5_firstClashRead_65 : decode cX5_firstClashRead 65 = .ok (.iconst (-1), 1) := by decide +kernel
theorem dX5_firstClashRead_66 : decode cX5_firstClashRead 66 = .ok (.ireturn, 1) := by decide +kernel
theorem dX6_init_0 : decode cX6_init 0 = .ok (.aload_n 0, 1) := by decide +kernel
theorem dX6_init_1 : decode cX6_init 1 = .ok (.invokespecial 3, 3) := by decide +kernel
theorem dX6_init_4 : decode cX6_init 4 = .ok (.aload_n 0, 1) := by decide +kernel
theorem dX6_init_5 : decode cX6_init 5 = .ok (.iconst 3, 1) := by decide +kernel
theorem dX6_init_6 : decode cX6_init 6 = .ok (.anewarray 9, 3) := by decide +kernel
theorem dX6_init_9 : decode cX6_init 9 = .ok (.putfield 11, 3) := by decide +kernel
theorem dX6_init_12 : decode cX6_init 12 = .ok (.aload_n 0, 1) := by decide +kernel
theorem dX6_init_13 : decode cX6_init 13 = .ok (.bipush 6, 2) := by decide +kernel
theorem dX6_init_15 : decode cX6_init 15 = .ok (.newarray .int, 2) := by decide +kernel
theorem dX6_init_17 : decode cX6_init 17 = .ok (.putfield 17, 3) := by decide +kernel
theorem dX6_init_20 : decode cX6_init 20 = .ok (.aload_n 0, 1) := by decide +kernel
theorem dX6_init_21 : decode cX6_init 21 = .ok (.bipush 6, 2) := by decide +kernel
theorem dX6_init_23 : decode cX6_init 23 = .ok (.newarray .int, 2) := by decide +kernel
theorem dX6_init_25 : decode cX6_init 25 = .ok (.putfield 21, 3) := by decide +kernel
theorem dX6_init_28 : decode cX6_init 28 = .ok (.aload_n 0, 1) := by decide +kernel
theorem dX6_init_29 : decode cX6_init 29 = .ok (.sipush 540, 3) := by decide +kernel
theorem dX6_init_32 : decode cX6_init 32 = .ok (.newarray .long, 2) := by decide +kernel
theorem dX6_init_34 : decode cX6_init 34 = .ok (.putfield 24, 3) := by decide +kernel
theorem dX6_init_37 : decode cX6_init 37 = .ok (.aload_n 0, 1) := by decide +kernel
theorem dX6_init_38 : decode cX6_init 38 = .ok (.sipush 540, 3) := by decide +kernel
theorem dX6_init_41 : decode cX6_init 41 = .ok (.newarray .long, 2) := by decide +kernel
theorem dX6_init_43 : decode cX6_init 43 = .ok (.putfield 28, 3) := by decide +kernel
theorem dX6_init_46 : decode cX6_init 46 = .ok (.return_, 1) := by decide +kernel
theorem dX6_add_0 : decode cX6_add 0 = .ok (.aload_n 0, 1) := by decide +kernel
theorem dX6_add_1 : decode cX6_add 1 = .ok (.getfield 11, 3) := by decide +kernel
theorem dX6_add_4 : decode cX6_add 4 = .ok (.aload_n 0, 1) := by decide +kernel
theorem dX6_add_5 : decode cX6_add 5 = .ok (.getfield 31, 3) := by decide +kernel
theorem dX6_add_8 : decode cX6_add 8 = .ok (.aload_n 1, 1) := by decide +kernel
theorem dX6_add_9 : decode cX6_add 9 = .ok (.aastore, 1) := by decide +kernel
theorem dX6_add_10 : decode cX6_add 10 = .ok (.aload_n 0, 1) := by decide +kernel
theorem dX6_add_11 : decode cX6_add 11 = .ok (.getfield 17, 3) := by decide +kernel
theorem dX6_add_14 : decode cX6_add 14 = .ok (.aload_n 0, 1) := by decide +kernel
theorem dX6_add_15 : decode cX6_add 15 = .ok (.getfield 31, 3) := by decide +kernel
theorem dX6_add_18 : decode cX6_add 18 = .ok (.iload_n 2, 1) := by decide +kernel
theorem dX6_add_19 : decode cX6_add 19 = .ok (.iastore, 1) := by decide +kernel
theorem dX6_add_20 : decode cX6_add 20 = .ok (.aload_n 0, 1) := by decide +kernel
theorem dX6_add_21 : decode cX6_add 21 = .ok (.getfield 17, 3) := by decide +kernel
theorem dX6_add_24 : decode cX6_add 24 = .ok (.iconst 3, 1) := by decide +kernel
theorem dX6_add_25 : decode cX6_add 25 = .ok (.aload_n 0, 1) := by decide +kernel
theorem dX6_add_26 : decode cX6_add 26 = .ok (.getfield 31, 3) := by decide +kernel
theorem dX6_add_29 : decode cX6_add 29 = .ok (.iadd, 1) := by decide +kernel
theorem dX6_add_30 : decode cX6_add 30 = .ok (.iload_n 3, 1) := by decide +kernel
theorem dX6_add_31 : decode cX6_add 31 = .ok (.iastore, 1) := by decide +kernel
theorem dX6_add_32 : decode cX6_add 32 = .ok (.aload_n 0, 1) := by decide +kernel
theorem dX6_add_33 : decode cX6_add 33 = .ok (.getfield 21, 3) := by decide +kernel
theorem dX6_add_36 : decode cX6_add 36 = .ok (.aload_n 0, 1) := by decide +kernel
theorem dX6_add_37 : decode cX6_add 37 = .ok (.getfield 31, 3) := by decide +kernel
theorem dX6_add_40 : decode cX6_add 40 = .ok (.iload 4, 2) := by decide +kernel
theorem dX6_add_42 : decode cX6_add 42 = .ok (.iastore, 1) := by decide +kernel
theorem dX6_add_43 : decode cX6_add 43 = .ok (.aload_n 0, 1) := by decide +kernel
theorem dX6_add_44 : decode cX6_add 44 = .ok (.getfield 21, 3) := by decide +kernel
theorem dX6_add_47 : decode cX6_add 47 = .ok (.iconst 3, 1) := by decide +kernel
theorem dX6_add_48 : decode cX6_add 48 = .ok (.aload_n 0, 1) := by decide +kernel
theorem dX6_add_49 : decode cX6_add 49 = .ok (.getfield 31, 3) := by decide +kernel
theorem dX6_add_52 : decode cX6_add 52 = .ok (.iadd, 1) := by decide +kernel
theorem dX6_add_53 : decode cX6_add 53 = .ok (.iload 5, 2) := by decide +kernel
theorem dX6_add_55 : decode cX6_add 55 = .ok (.iastore, 1) := by decide +kernel
theorem dX6_add_56 : decode cX6_add 56 = .ok (.aload_n 0, 1) := by decide +kernel
theorem dX6_add_57 : decode cX6_add 57 = .ok (.dup, 1) := by decide +kernel
theorem dX6_add_58 : decode cX6_add 58 = .ok (.getfield 31, 3) := by decide +kernel
theorem dX6_add_61 : decode cX6_add 61 = .ok (.iconst 1, 1) := by decide +kernel
theorem dX6_add_62 : decode cX6_add 62 = .ok (.iadd, 1) := by decide +kernel
theorem dX6_add_63 : decode cX6_add 63 = .ok (.putfield 31, 3) := by decide +kernel
theorem dX6_add_66 : decode cX6_add 66 = .ok (.return_, 1) := by decide +kernel
theorem dX6_passing_0 : decode cX6_passing 0 = .ok (.iconst 0, 1) := by decide +kernel
theorem dX6_passing_1 : decode cX6_passing 1 = .ok (.istore_n 2, 1) := by decide +kernel
theorem dX6_passing_2 : decode cX6_passing 2 = .ok (.iconst 0, 1) := by decide +kernel
theorem dX6_passing_3 : decode cX6_passing 3 = .ok (.istore_n 3, 1) := by decide +kernel
theorem dX6_passing_4 : decode cX6_passing 4 = .ok (.iload_n 3, 1) := by decide +kernel
theorem dX6_passing_5 : decode cX6_passing 5 = .ok (.aload_n 0, 1) := by decide +kernel
theorem dX6_passing_6 : decode cX6_passing 6 = .ok (.getfield 11, 3) := by decide +kernel
theorem dX6_passing_9 : decode cX6_passing 9 = .ok (.iconst 0, 1) := by decide +kernel
theorem dX6_passing_10 : decode cX6_passing 10 = .ok (.aaload, 1) := by decide +kernel
theorem dX6_passing_11 : decode cX6_passing 11 = .ok (.getfield 35, 3) := by decide +kernel
theorem dX6_passing_14 : decode cX6_passing 14 = .ok (.if_icmp .ge 21, 3) := by decide +kernel
theorem dX6_passing_17 : decode cX6_passing 17 = .ok (.aload_n 0, 1) := by decide +kernel
theorem dX6_passing_18 : decode cX6_passing 18 = .ok (.iload_n 1, 1) := by decide +kernel
theorem dX6_passing_19 : decode cX6_passing 19 = .ok (.iload_n 3, 1) := by decide +kernel
theorem dX6_passing_20 : decode cX6_passing 20 = .ok (.invokevirtual 38, 3) := by decide +kernel
theorem dX6_passing_23 : decode cX6_passing 23 = .ok (.ifCond .eq 6, 3) := by decide +kernel
theorem dX6_passing_26 : decode cX6_passing 26 = .ok (.iinc 2 1, 3) := by decide +kernel
theorem dX6_passing_29 : decode cX6_passing 29 = .ok (.iinc 3 1, 3) := by decide +kernel
theorem dX6_passing_32 : decode cX6_passing 32 = .ok (.goto (-28), 3) := by decide +kernel
theorem dX6_passing_35 : decode cX6_passing 35 = .ok (.iload_n 2, 1) := by decide +kernel
theorem dX6_passing_36 : decode cX6_passing 36 = .ok (.ireturn, 1) := by decide +kernel
theorem dX6_passes_0 : decode cX6_passes 0 = .ok (.iconst 0, 1) := by decide +kernel
theorem dX6_passes_1 : decode cX6_passes 1 = .ok (.istore_n 3, 1) := by decide +kernel
theorem dX6_passes_2 : decode cX6_passes 2 = .ok (.iload_n 3, 1) := by decide +kernel
theorem dX6_passes_3 : decode cX6_passes 3 = .ok (.aload_n 0, 1) := by decide +kernel
theorem dX6_passes_4 : decode cX6_passes 4 = .ok (.getfield 31, 3) := by decide +kernel
theorem dX6_passes_7 : decode cX6_passes 7 = .ok (.if_icmp .ge 46, 3) := by decide +kernel
theorem dX6_passes_10 : decode cX6_passes 10 = .ok (.iload_n 1, 1) := by decide +kernel
theorem dX6_passes_11 : decode cX6_passes 11 = .ok (.iconst 3, 1) := by decide +kernel
theorem dX6_passes_12 : decode cX6_passes 12 = .ok (.imul, 1) := by decide +kernel
theorem dX6_passes_13 : decode cX6_passes 13 = .ok (.iload_n 3, 1) := by decide +kernel
theorem dX6_passes_14 : decode cX6_passes 14 = .ok (.iadd, 1) := by decide +kernel
theorem dX6_passes_15 : decode cX6_passes 15 = .ok (.istore 4, 2) := by decide +kernel
theorem dX6_passes_17 : decode cX6_passes 17 = .ok (.aload_n 0, 1) := by decide +kernel
theorem dX6_passes_18 : decode cX6_passes 18 = .ok (.getfield 11, 3) := by decide +kernel
theorem dX6_passes_21 : decode cX6_passes 21 = .ok (.iload_n 3, 1) := by decide +kernel
theorem dX6_passes_22 : decode cX6_passes 22 = .ok (.aaload, 1) := by decide +kernel
theorem dX6_passes_23 : decode cX6_passes 23 = .ok (.aload_n 0, 1) := by decide +kernel
theorem dX6_passes_24 : decode cX6_passes 24 = .ok (.getfield 17, 3) := by decide +kernel
theorem dX6_passes_27 : decode cX6_passes 27 = .ok (.iload 4, 2) := by decide +kernel
theorem dX6_passes_29 : decode cX6_passes 29 = .ok (.iaload, 1) := by decide +kernel
theorem dX6_passes_30 : decode cX6_passes 30 = .ok (.iload_n 2, 1) := by decide +kernel
theorem dX6_passes_31 : decode cX6_passes 31 = .ok (.aload_n 0, 1) := by decide +kernel
theorem dX6_passes_32 : decode cX6_passes 32 = .ok (.getfield 21, 3) := by decide +kernel
theorem dX6_passes_35 : decode cX6_passes 35 = .ok (.iload 4, 2) := by decide +kernel
theorem dX6_passes_37 : decode cX6_passes 37 = .ok (.iaload, 1) := by decide +kernel
theorem dX6_passes_38 : decode cX6_passes 38 = .ok (.iadd, 1) := by decide +kernel
theorem dX6_passes_39 : decode cX6_passes 39 = .ok (.invokevirtual 42, 3) := by decide +kernel
theorem dX6_passes_42 : decode cX6_passes 42 = .ok (.ifCond .ne 5, 3) := by decide +kernel
theorem dX6_passes_45 : decode cX6_passes 45 = .ok (.iconst 0, 1) := by decide +kernel
theorem dX6_passes_46 : decode cX6_passes 46 = .ok (.ireturn, 1) := by decide +kernel
theorem dX6_passes_47 : decode cX6_passes 47 = .ok (.iinc 3 1, 3) := by decide +kernel
theorem dX6_passes_50 : decode cX6_passes 50 = .ok (.goto (-48), 3) := by decide +kernel
theorem dX6_passes_53 : decode cX6_passes 53 = .ok (.iconst 1, 1) := by decide +kernel
theorem dX6_passes_54 : decode cX6_passes 54 = .ok (.ireturn, 1) := by decide +kernel
theorem dX6_findBest_0 : decode cX6_findBest 0 = .ok (.aload_n 0, 1) := by decide +kernel
theorem dX6_findBest_1 : decode cX6_findBest 1 = .ok (.getfield 11, 3) := by decide +kernel
theorem dX6_findBest_4 : decode cX6_findBest 4 = .ok (.iconst 0, 1) := by decide +kernel
theorem dX6_findBest_5 : decode cX6_findBest 5 = .ok (.aaload, 1) := by decide +kernel
theorem dX6_findBest_6 : decode cX6_findBest 6 = .ok (.getfield 35, 3) := by decide +kernel
theorem dX6_findBest_9 : decode cX6_findBest 9 = .ok (.istore_n 1, 1) := by decide +kernel
theorem dX6_findBest_10 : decode cX6_findBest 10 = .ok (.aload_n 0, 1) := by decide +kernel
theorem dX6_findBest_11 : decode cX6_findBest 11 = .ok (.getfield 31, 3) := by decide +kernel
theorem dX6_findBest_14 : decode cX6_findBest 14 = .ok (.iconst 3, 1) := by decide +kernel
theorem dX6_findBest_15 : decode cX6_findBest 15 = .ok (.if_icmp .ne 7, 3) := by decide +kernel
theorem dX6_findBest_18 : decode cX6_findBest 18 = .ok (.iload_n 1, 1) := by decide +kernel
theorem dX6_findBest_19 : decode cX6_findBest 19 = .ok (.goto 4, 3) := by decide +kernel
theorem dX6_findBest_22 : decode cX6_findBest 22 = .ok (.iconst 1, 1) := by decide +kernel
theorem dX6_findBest_23 : decode cX6_findBest 23 = .ok (.istore_n 2, 1) := by decide +kernel
theorem dX6_findBest_24 : decode cX6_findBest 24 = .ok (.aload_n 0, 1) := by decide +kernel
theorem dX6_findBest_25 : decode cX6_findBest 25 = .ok (.invokevirtual 45, 3) := by decide +kernel
theorem dX6_findBest_28 : decode cX6_findBest 28 = .ok (.aload_n 0, 1) := by decide +kernel
theorem dX6_findBest_29 : decode cX6_findBest 29 = .ok (.iconst (-1), 1) := by decide +kernel
theorem dX6_findBest_30 : decode cX6_findBest 30 = .ok (.putfield 48, 3) := by decide +kernel
theorem dX6_findBest_33 : decode cX6_findBest 33 = .ok (.aload_n 0, 1) := by decide +kernel
theorem dX6_findBest_34 : decode cX6_findBest 34 = .ok (.iconst (-1), 1) := by decide +kernel
theorem dX6_findBest_35 : decode cX6_findBest 35 = .ok (.putfield 51, 3) := by decide +kernel
theorem dX6_findBest_38 : decode cX6_findBest 38 = .ok (.iconst 0, 1) := by decide +kernel
theorem dX6_findBest_39 : decode cX6_findBest 39 = .ok (.istore_n 3, 1) := by decide +kernel
theorem dX6_findBest_40 : decode cX6_findBest 40 = .ok (.iload_n 3, 1) := by decide +kernel
theorem dX6_findBest_41 : decode cX6_findBest 41 = .ok (.iload_n 1, 1) := by decide +kernel
theorem dX6_findBest_42 : decode cX6_findBest 42 = .ok (.if_icmp .ge 31, 3) := by decide +kernel
theorem dX6_findBest_45 : decode cX6_findBest 45 = .ok (.iconst 0, 1) := by decide +kernel
theorem dX6_findBest_46 : decode cX6_findBest 46 = .ok (.istore 4, 2) := by decide +kernel
theorem dX6_findBest_48 : decode cX6_findBest 48 = .ok (.iload 4, 2) := by decide +kernel
theorem dX6_findBest_50 : decode cX6_findBest 50 = .ok (.iload_n 2, 1) := by decide +kernel
theorem dX6_findBest_51 : decode cX6_findBest 51 = .ok (.if_icmp .ge 16, 3) := by decide +kernel
theorem dX6_findBest_54 : decode cX6_findBest 54 = .ok (.aload_n 0, 1) := by decide +kernel
theorem dX6_findBest_55 : decode cX6_findBest 55 = .ok (.iload_n 3, 1) := by decide +kernel
theorem dX6_findBest_56 : decode cX6_findBest 56 = .ok (.iload 4, 2) := by decide +kernel
theorem dX6_findBest_58 : decode cX6_findBest 58 = .ok (.invokevirtual 54, 3) := by decide +kernel
theorem dX6_findBest_61 : decode cX6_findBest 61 = .ok (.iinc 4 1, 3) := by decide +kernel
theorem dX6_findBest_64 : decode cX6_findBest 64 = .ok (.goto (-16), 3) := by decide +kernel
theorem dX6_findBest_67 : decode cX6_findBest 67 = .ok (.iinc 3 1, 3) := by decide +kernel
theorem dX6_findBest_70 : decode cX6_findBest 70 = .ok (.goto (-30), 3) := by decide +kernel
theorem dX6_findBest_73 : decode cX6_findBest 73 = .ok (.return_, 1) := by decide +kernel
theorem dX6_keepIfBetter_0 : decode cX6_keepIfBetter 0 = .ok (.aload_n 0, 1) := by decide +kernel
theorem dX6_keepIfBetter_1 : decode cX6_keepIfBetter 1 = .ok (.iconst 0, 1) := by decide +kernel
theorem dX6_keepIfBetter_2 : decode cX6_keepIfBetter 2 = .ok (.iload_n 1, 1) := by decide +kernel
theorem dX6_keepIfBetter_3 : decode cX6_keepIfBetter 3 = .ok (.iload_n 2, 1) := by decide +kernel
theorem dX6_keepIfBetter_4 : decode cX6_keepIfBetter 4 = .ok (.invokevirtual 58, 3) := by decide +kernel
theorem dX6_keepIfBetter_7 : decode cX6_keepIfBetter 7 = .ok (.istore_n 3, 1) := by decide +kernel
theorem dX6_keepIfBetter_8 : decode cX6_keepIfBetter 8 = .ok (.aload_n 0, 1) := by decide +kernel
theorem dX6_keepIfBetter_9 : decode cX6_keepIfBetter 9 = .ok (.iconst 1, 1) := by decide +kernel
theorem dX6_keepIfBetter_10 : decode cX6_keepIfBetter 10 = .ok (.iload_n 1, 1) := by decide +kernel
theorem dX6_keepIfBetter_11 : decode cX6_keepIfBetter 11 = .ok (.iload_n 2, 1) := by decide +kernel
theorem dX6_keepIfBetter_12 : decode cX6_keepIfBetter 12 = .ok (.invokevirtual 58, 3) := by decide +kernel
theorem dX6_keepIfBetter_15 : decode cX6_keepIfBetter 15 = .ok (.istore 4, 2) := by decide +kernel
theorem dX6_keepIfBetter_17 : decode cX6_keepIfBetter 17 = .ok (.iload_n 3, 1) := by decide +kernel
theorem dX6_keepIfBetter_18 : decode cX6_keepIfBetter 18 = .ok (.iload 4, 2) := by decide +kernel
theorem dX6_keepIfBetter_20 : decode cX6_keepIfBetter 20 = .ok (.invokestatic 62, 3) := by decide +kernel
theorem dX6_keepIfBetter_23 : decode cX6_keepIfBetter 23 = .ok (.istore 5, 2) := by decide +kernel
theorem dX6_keepIfBetter_25 : decode cX6_keepIfBetter 25 = .ok (.iload 5, 2) := by decide +kernel
theorem dX6_keepIfBetter_27 : decode cX6_keepIfBetter 27 = .ok (.aload_n 0, 1) := by decide +kernel
theorem dX6_keepIfBetter_28 : decode cX6_keepIfBetter 28 = .ok (.getfield 48, 3) := by decide +kernel
theorem dX6_keepIfBetter_31 : decode cX6_keepIfBetter 31 = .ok (.if_icmp .gt 23, 3) := by decide +kernel
theorem dX6_keepIfBetter_34 : decode cX6_keepIfBetter 34 = .ok (.iload 5, 2) := by decide +kernel
theorem dX6_keepIfBetter_36 : decode cX6_keepIfBetter 36 = .ok (.aload_n 0, 1) := by decide +kernel
theorem dX6_keepIfBetter_37 : decode cX6_keepIfBetter 37 = .ok (.getfield 48, 3) := by decide +kernel
theorem dX6_keepIfBetter_40 : decode cX6_keepIfBetter 40 = .ok (.if_icmp .ne 38, 3) := by decide +kernel
theorem dX6_keepIfBetter_43 : decode cX6_keepIfBetter 43 = .ok (.iload_n 3, 1) := by decide +kernel
theorem dX6_keepIfBetter_44 : decode cX6_keepIfBetter 44 = .ok (.iload 4, 2) := by decide +kernel
theorem dX6_keepIfBetter_46 : decode cX6_keepIfBetter 46 = .ok (.iadd, 1) := by decide +kernel
theorem dX6_keepIfBetter_47 : decode cX6_keepIfBetter 47 = .ok (.aload_n 0, 1) := by decide +kernel
theorem dX6_keepIfBetter_48 : decode cX6_keepIfBetter 48 = .ok (.getfield 51, 3) := by decide +kernel
theorem dX6_keepIfBetter_51 : decode cX6_keepIfBetter 51 = .ok (.if_icmp .le 27, 3) := by decide +kernel
theorem dX6_keepIfBetter_54 : decode cX6_keepIfBetter 54 = .ok (.aload_n 0, 1) := by decide +kernel
theorem dX6_keepIfBetter_55 : decode cX6_keepIfBetter 55 = .ok (.iload 5, 2) := by decide +kernel
theorem dX6_keepIfBetter_57 : decode cX6_keepIfBetter 57 = .ok (.putfield 48, 3) := by decide +kernel
theorem dX6_keepIfBetter_60 : decode cX6_keepIfBetter 60 = .ok (.aload_n 0, 1) := by decide +kernel
theorem dX6_keepIfBetter_61 : decode cX6_keepIfBetter 61 = .ok (.iload_n 3, 1) := by decide +kernel
theorem dX6_keepIfBetter_62 : decode cX6_keepIfBetter 62 = .ok (.iload 4, 2) := by decide +kernel
theorem dX6_keepIfBetter_64 : decode cX6_keepIfBetter 64 = .ok (.iadd, 1) := by decide +kernel
theorem dX6_keepIfBetter_65 : decode cX6_keepIfBetter 65 = .ok (.putfield 51, 3) := by decide +kernel
theorem dX6_keepIfBetter_68 : decode cX6_keepIfBetter 68 = .ok (.aload_n 0, 1) := by decide +kernel
theorem dX6_keepIfBetter_69 : decode cX6_keepIfBetter 69 = .ok (.iload_n 1, 1) := by decide +kernel
theorem dX6_keepIfBetter_70 : decode cX6_keepIfBetter 70 = .ok (.putfield 68, 3) := by decide +kernel
theorem dX6_keepIfBetter_73 : decode cX6_keepIfBetter 73 = .ok (.aload_n 0, 1) := by decide +kernel
theorem dX6_keepIfBetter_74 : decode cX6_keepIfBetter 74 = .ok (.iload_n 2, 1) := by decide +kernel
theorem dX6_keepIfBetter_75 : decode cX6_keepIfBetter 75 = .ok (.putfield 71, 3) := by decide +kernel
theorem dX6_keepIfBetter_78 : decode cX6_keepIfBetter 78 = .ok (.return_, 1) := by decide +kernel
theorem dX6_passingBy_0 : decode cX6_passingBy 0 = .ok (.iload_n 1, 1) := by decide +kernel
theorem dX6_passingBy_1 : decode cX6_passingBy 1 = .ok (.iconst 3, 1) := by decide +kernel
theorem dX6_passingBy_2 : decode cX6_passingBy 2 = .ok (.imul, 1) := by decide +kernel
theorem dX6_passingBy_3 : decode cX6_passingBy 3 = .ok (.bipush 90, 2) := by decide +kernel
theorem dX6_passingBy_5 : decode cX6_passingBy 5 = .ok (.imul, 1) := by decide +kernel
theorem dX6_passingBy_6 : decode cX6_passingBy 6 = .ok (.aload_n 0, 1) := by decide +kernel
theorem dX6_passingBy_7 : decode cX6_passingBy 7 = .ok (.getfield 11, 3) := by decide +kernel
theorem dX6_passingBy_10 : decode cX6_passingBy 10 = .ok (.iconst 0, 1) := by decide +kernel
theorem dX6_passingBy_11 : decode cX6_passingBy 11 = .ok (.aaload, 1) := by decide +kernel
theorem dX6_passingBy_12 : decode cX6_passingBy 12 = .ok (.getfield 74, 3) := by decide +kernel
theorem dX6_passingBy_15 : decode cX6_passingBy 15 = .ok (.iadd, 1) := by decide +kernel
theorem dX6_passingBy_16 : decode cX6_passingBy 16 = .ok (.istore 4, 2) := by decide +kernel
theorem dX6_passingBy_18 : decode cX6_passingBy 18 = .ok (.iload_n 1, 1) := by decide +kernel
theorem dX6_passingBy_19 : decode cX6_passingBy 19 = .ok (.iconst 3, 1) := by decide +kernel
theorem dX6_passingBy_20 : decode cX6_passingBy 20 = .ok (.imul, 1) := by decide +kernel
theorem dX6_passingBy_21 : decode cX6_passingBy 21 = .ok (.iconst 1, 1) := by decide +kernel
theorem dX6_passingBy_22 : decode cX6_passingBy 22 = .ok (.iadd, 1) := by decide +kernel
theorem dX6_passingBy_23 : decode cX6_passingBy 23 = .ok (.bipush 90, 2) := by decide +kernel
theorem dX6_passingBy_25 : decode cX6_passingBy 25 = .ok (.imul, 1) := by decide +kernel
theorem dX6_passingBy_26 : decode cX6_passingBy 26 = .ok (.iload_n 2, 1) := by decide +kernel
theorem dX6_passingBy_27 : decode cX6_passingBy 27 = .ok (.iadd, 1) := by decide +kernel
theorem dX6_passingBy_28 : decode cX6_passingBy 28 = .ok (.istore 5, 2) := by decide +kernel
theorem dX6_passingBy_30 : decode cX6_passingBy 30 = .ok (.iload_n 1, 1) := by decide +kernel
theorem dX6_passingBy_31 : decode cX6_passingBy 31 = .ok (.iconst 3, 1) := by decide +kernel
theorem dX6_passingBy_32 : decode cX6_passingBy 32 = .ok (.imul, 1) := by decide +kernel
theorem dX6_passingBy_33 : decode cX6_passingBy 33 = .ok (.iconst 2, 1) := by decide +kernel
theorem dX6_passingBy_34 : decode cX6_passingBy 34 = .ok (.iadd, 1) := by decide +kernel
theorem dX6_passingBy_35 : decode cX6_passingBy 35 = .ok (.bipush 90, 2) := by decide +kernel
theorem dX6_passingBy_37 : decode cX6_passingBy 37 = .ok (.imul, 1) := by decide +kernel
theorem dX6_passingBy_38 : decode cX6_passingBy 38 = .ok (.iload_n 3, 1) := by decide +kernel
theorem dX6_passingBy_39 : decode cX6_passingBy 39 = .ok (.iadd, 1) := by decide +kernel
theorem dX6_passingBy_40 : decode cX6_passingBy 40 = .ok (.istore 6, 2) := by decide +kernel
theorem dX6_passingBy_42 : decode cX6_passingBy 42 = .ok (.aload_n 0, 1) := by decide +kernel
theorem dX6_passingBy_43 : decode cX6_passingBy 43 = .ok (.getfield 24, 3) := by decide +kernel
theorem dX6_passingBy_46 : decode cX6_passingBy 46 = .ok (.iload 4, 2) := by decide +kernel
theorem dX6_passingBy_48 : decode cX6_passingBy 48 = .ok (.laload, 1) := by decide +kernel
theorem dX6_passingBy_49 : decode cX6_passingBy 49 = .ok (.aload_n 0, 1) := by decide +kernel
theorem dX6_passingBy_50 : decode cX6_passingBy 50 = .ok (.getfield 24, 3) := by decide +kernel
theorem dX6_passingBy_53 : decode cX6_passingBy 53 = .ok (.iload 5, 2) := by decide +kernel
theorem dX6_passingBy_55 : decode cX6_passingBy 55 = .ok (.laload, 1) := by decide +kernel
theorem dX6_passingBy_56 : decode cX6_passingBy 56 = .ok (.land, 1) := by decide +kernel
theorem dX6_passingBy_57 : decode cX6_passingBy 57 = .ok (.aload_n 0, 1) := by decide +kernel
theorem dX6_passingBy_58 : decode cX6_passingBy 58 = .ok (.getfield 24, 3) := by decide +kernel
theorem dX6_passingBy_61 : decode cX6_passingBy 61 = .ok (.iload 6, 2) := by decide +kernel
theorem dX6_passingBy_63 : decode cX6_passingBy 63 = .ok (.laload, 1) := by decide +kernel
theorem dX6_passingBy_64 : decode cX6_passingBy 64 = .ok (.land, 1) := by decide +kernel
theorem dX6_passingBy_65 : decode cX6_passingBy 65 = .ok (.invokestatic 77, 3) := by decide +kernel
theorem dX6_passingBy_68 : decode cX6_passingBy 68 = .ok (.aload_n 0, 1) := by decide +kernel
theorem dX6_passingBy_69 : decode cX6_passingBy 69 = .ok (.getfield 28, 3) := by decide +kernel
theorem dX6_passingBy_72 : decode cX6_passingBy 72 = .ok (.iload 4, 2) := by decide +kernel
theorem dX6_passingBy_74 : decode cX6_passingBy 74 = .ok (.laload, 1) := by decide +kernel
theorem dX6_passingBy_75 : decode cX6_passingBy 75 = .ok (.aload_n 0, 1) := by decide +kernel
theorem dX6_passingBy_76 : decode cX6_passingBy 76 = .ok (.getfield 28, 3) := by decide +kernel
theorem dX6_passingBy_79 : decode cX6_passingBy 79 = .ok (.iload 5, 2) := by decide +kernel
theorem dX6_passingBy_81 : decode cX6_passingBy 81 = .ok (.laload, 1) := by decide +kernel
theorem dX6_passingBy_82 : decode cX6_passingBy 82 = .ok (.land, 1) := by decide +kernel
theorem dX6_passingBy_83 : decode cX6_passingBy 83 = .ok (.aload_n 0, 1) := by decide +kernel
theorem dX6_passingBy_84 : decode cX6_passingBy 84 = .ok (.getfield 28, 3) := by decide +kernel
theorem dX6_passingBy_87 : decode cX6_passingBy 87 = .ok (.iload 6, 2) := by decide +kernel
theorem dX6_passingBy_89 : decode cX6_passingBy 89 = .ok (.laload, 1) := by decide +kernel
theorem dX6_passingBy_90 : decode cX6_passingBy 90 = .ok (.land, 1) := by decide +kernel
theorem dX6_passingBy_91 : decode cX6_passingBy 91 = .ok (.invokestatic 77, 3) := by decide +kernel
theorem dX6_passingBy_94 : decode cX6_passingBy 94 = .ok (.iadd, 1) := by decide +kernel
theorem dX6_passingBy_95 : decode cX6_passingBy 95 = .ok (.ireturn, 1) := by decide +kernel
theorem dX6_layGreens_0 : decode cX6_layGreens 0 = .ok (.iconst 0, 1) := by decide +kernel
theorem dX6_layGreens_1 : decode cX6_layGreens 1 = .ok (.istore_n 1, 1) := by decide +kernel
theorem dX6_layGreens_2 : decode cX6_layGreens 2 = .ok (.iload_n 1, 1) := by decide +kernel
theorem dX6_layGreens_3 : decode cX6_layGreens 3 = .ok (.bipush 6, 2) := by decide +kernel
theorem dX6_layGreens_5 : decode cX6_layGreens 5 = .ok (.if_icmp .ge 59, 3) := by decide +kernel
theorem dX6_layGreens_8 : decode cX6_layGreens 8 = .ok (.iload_n 1, 1) := by decide +kernel
theorem dX6_layGreens_9 : decode cX6_layGreens 9 = .ok (.iconst 3, 1) := by decide +kernel
theorem dX6_layGreens_10 : decode cX6_layGreens 10 = .ok (.irem, 1) := by decide +kernel
theorem dX6_layGreens_11 : decode cX6_layGreens 11 = .ok (.istore_n 2, 1) := by decide +kernel
theorem dX6_layGreens_12 : decode cX6_layGreens 12 = .ok (.iload_n 2, 1) := by decide +kernel
theorem dX6_layGreens_13 : decode cX6_layGreens 13 = .ok (.aload_n 0, 1) := by decide +kernel
theorem dX6_layGreens_14 : decode cX6_layGreens 14 = .ok (.getfield 31, 3) := by decide +kernel
theorem dX6_layGreens_17 : decode cX6_layGreens 17 = .ok (.if_icmp .ge 17, 3) := by decide +kernel
theorem dX6_layGreens_20 : decode cX6_layGreens 20 = .ok (.aload_n 0, 1) := by decide +kernel
theorem dX6_layGreens_21 : decode cX6_layGreens 21 = .ok (.iload_n 1, 1) := by decide +kernel
theorem dX6_layGreens_22 : decode cX6_layGreens 22 = .ok (.aload_n 0, 1) := by decide +kernel
theorem dX6_layGreens_23 : decode cX6_layGreens 23 = .ok (.getfield 11, 3) := by decide +kernel
theorem dX6_layGreens_26 : decode cX6_layGreens 26 = .ok (.iload_n 2, 1) := by decide +kernel
theorem dX6_layGreens_27 : decode cX6_layGreens 27 = .ok (.aaload, 1) := by decide +kernel
theorem dX6_layGreens_28 : decode cX6_layGreens 28 = .ok (.invokevirtual 83, 3) := by decide +kernel
theorem dX6_layGreens_31 : decode cX6_layGreens 31 = .ok (.goto 27, 3) := by decide +kernel
theorem dX6_layGreens_34 : decode cX6_layGreens 34 = .ok (.aload_n 0, 1) := by decide +kernel
theorem dX6_layGreens_35 : decode cX6_layGreens 35 = .ok (.getfield 24, 3) := by decide +kernel
theorem dX6_layGreens_38 : decode cX6_layGreens 38 = .ok (.iload_n 1, 1) := by decide +kernel
theorem dX6_layGreens_39 : decode cX6_layGreens 39 = .ok (.bipush 90, 2) := by decide +kernel
theorem dX6_layGreens_41 : decode cX6_layGreens 41 = .ok (.imul, 1) := by decide +kernel
theorem dX6_layGreens_42 : decode cX6_layGreens 42 = .ok (.ldc2_w 87, 3) := by decide +kernel
theorem dX6_layGreens_45 : decode cX6_layGreens 45 = .ok (.lastore, 1) := by decide +kernel
theorem dX6_layGreens_46 : decode cX6_layGreens 46 = .ok (.aload_n 0, 1) := by decide +kernel
theorem dX6_layGreens_47 : decode cX6_layGreens 47 = .ok (.getfield 28, 3) := by decide +kernel
theorem dX6_layGreens_50 : decode cX6_layGreens 50 = .ok (.iload_n 1, 1) := by decide +kernel
theorem dX6_layGreens_51 : decode cX6_layGreens 51 = .ok (.bipush 90, 2) := by decide +kernel
theorem dX6_layGreens_53 : decode cX6_layGreens 53 = .ok (.imul, 1) := by decide +kernel
theorem dX6_layGreens_54 : decode cX6_layGreens 54 = .ok (.ldc2_w 87, 3) := by decide +kernel
theorem dX6_layGreens_57 : decode cX6_layGreens 57 = .ok (.lastore, 1) := by decide +kernel
theorem dX6_layGreens_58 : decode cX6_layGreens 58 = .ok (.iinc 1 1, 3) := by decide +kernel
theorem dX6_layGreens_61 : decode cX6_layGreens 61 = .ok (.goto (-59), 3) := by decide +kernel
theorem dX6_layGreens_64 : decode cX6_layGreens 64 = .ok (.return_, 1) := by decide +kernel
theorem dX6_layOffsets_0 : decode cX6_layOffsets 0 = .ok (.iconst 0, 1) := by decide +kernel
theorem dX6_layOffsets_1 : decode cX6_layOffsets 1 = .ok (.istore_n 3, 1) := by decide +kernel
theorem dX6_layOffsets_2 : decode cX6_layOffsets 2 = .ok (.iload_n 3, 1) := by decide +kernel
theorem dX6_layOffsets_3 : decode cX6_layOffsets 3 = .ok (.aload_n 2, 1) := by decide +kernel
theorem dX6_layOffsets_4 : decode cX6_layOffsets 4 = .ok (.getfield 35, 3) := by decide +kernel
theorem dX6_layOffsets_7 : decode cX6_layOffsets 7 = .ok (.if_icmp .ge 151, 3) := by decide +kernel
theorem dX6_layOffsets_10 : decode cX6_layOffsets 10 = .ok (.iload_n 1, 1) := by decide +kernel
theorem dX6_layOffsets_11 : decode cX6_layOffsets 11 = .ok (.bipush 90, 2) := by decide +kernel
theorem dX6_layOffsets_13 : decode cX6_layOffsets 13 = .ok (.imul, 1) := by decide +kernel
theorem dX6_layOffsets_14 : decode cX6_layOffsets 14 = .ok (.iload_n 3, 1) := by decide +kernel
theorem dX6_layOffsets_15 : decode cX6_layOffsets 15 = .ok (.iadd, 1) := by decide +kernel
theorem dX6_layOffsets_16 : decode cX6_layOffsets 16 = .ok (.istore 4, 2) := by decide +kernel
theorem dX6_layOffsets_18 : decode cX6_layOffsets 18 = .ok (.aload_n 0, 1) := by decide +kernel
theorem dX6_layOffsets_19 : decode cX6_layOffsets 19 = .ok (.getfield 21, 3) := by decide +kernel
theorem dX6_layOffsets_22 : decode cX6_layOffsets 22 = .ok (.iload_n 1, 1) := by decide +kernel
theorem dX6_layOffsets_23 : decode cX6_layOffsets 23 = .ok (.iaload, 1) := by decide +kernel
theorem dX6_layOffsets_24 : decode cX6_layOffsets 24 = .ok (.iload_n 3, 1) := by decide +kernel
theorem dX6_layOffsets_25 : decode cX6_layOffsets 25 = .ok (.isub, 1) := by decide +kernel
theorem dX6_layOffsets_26 : decode cX6_layOffsets 26 = .ok (.aload_n 2, 1) := by decide +kernel
theorem dX6_layOffsets_27 : decode cX6_layOffsets 27 = .ok (.getfield 35, 3) := by decide +kernel
theorem dX6_layOffsets_30 : decode cX6_layOffsets 30 = .ok (.invokestatic 89, 3) := by decide +kernel
theorem dX6_layOffsets_33 : decode cX6_layOffsets 33 = .ok (.istore 5, 2) := by decide +kernel
theorem dX6_layOffsets_35 : decode cX6_layOffsets 35 = .ok (.aload_n 0, 1) := by decide +kernel
theorem dX6_layOffsets_36 : decode cX6_layOffsets 36 = .ok (.getfield 24, 3) := by decide +kernel
theorem dX6_layOffsets_39 : decode cX6_layOffsets 39 = .ok (.iload 4, 2) := by decide +kernel
theorem dX6_layOffsets_41 : decode cX6_layOffsets 41 = .ok (.lconst 0, 1) := by decide +kernel
theorem dX6_layOffsets_42 : decode cX6_layOffsets 42 = .ok (.lastore, 1) := by decide +kernel
theorem dX6_layOffsets_43 : decode cX6_layOffsets 43 = .ok (.aload_n 0, 1) := by decide +kernel
theorem dX6_layOffsets_44 : decode cX6_layOffsets 44 = .ok (.getfield 28, 3) := by decide +kernel
theorem dX6_layOffsets_47 : decode cX6_layOffsets 47 = .ok (.iload 4, 2) := by decide +kernel
theorem dX6_layOffsets_49 : decode cX6_layOffsets 49 = .ok (.lconst 0, 1) := by decide +kernel
theorem dX6_layOffsets_50 : decode cX6_layOffsets 50 = .ok (.lastore, 1) := by decide +kernel
theorem dX6_layOffsets_51 : decode cX6_layOffsets 51 = .ok (.iconst 0, 1) := by decide +kernel
theorem dX6_layOffsets_52 : decode cX6_layOffsets 52 = .ok (.istore 6, 2) := by decide +kernel
theorem dX6_layOffsets_54 : decode cX6_layOffsets 54 = .ok (.iload 6, 2) := by decide +kernel
theorem dX6_layOffsets_56 : decode cX6_layOffsets 56 = .ok (.aload_n 2, 1) := by decide +kernel
theorem dX6_layOffsets_57 : decode cX6_layOffsets 57 = .ok (.getfield 35, 3) := by decide +kernel
theorem dX6_layOffsets_60 : decode cX6_layOffsets 60 = .ok (.if_icmp .ge 92, 3) := by decide +kernel
theorem dX6_layOffsets_63 : decode cX6_layOffsets 63 = .ok (.aload_n 2, 1) := by decide +kernel
theorem dX6_layOffsets_64 : decode cX6_layOffsets 64 = .ok (.getfield 92, 3) := by decide +kernel
theorem dX6_layOffsets_67 : decode cX6_layOffsets 67 = .ok (.iload 5, 2) := by decide +kernel
theorem dX6_layOffsets_69 : decode cX6_layOffsets 69 = .ok (.iaload, 1) := by decide +kernel
theorem dX6_layOffsets_70 : decode cX6_layOffsets 70 = .ok (.aload_n 0, 1) := by decide +kernel
theorem dX6_layOffsets_71 : decode cX6_layOffsets 71 = .ok (.getfield 17, 3) := by decide +kernel
theorem dX6_layOffsets_74 : decode cX6_layOffsets 74 = .ok (.iload_n 1, 1) := by decide +kernel
theorem dX6_layOffsets_75 : decode cX6_layOffsets 75 = .ok (.iaload, 1) := by decide +kernel
theorem dX6_layOffsets_76 : decode cX6_layOffsets 76 = .ok (.ishr, 1) := by decide +kernel
theorem dX6_layOffsets_77 : decode cX6_layOffsets 77 = .ok (.iconst 1, 1) := by decide +kernel
theorem dX6_layOffsets_78 : decode cX6_layOffsets 78 = .ok (.iand, 1) := by decide +kernel
theorem dX6_layOffsets_79 : decode cX6_layOffsets 79 = .ok (.i2l, 1) := by decide +kernel
theorem dX6_layOffsets_80 : decode cX6_layOffsets 80 = .ok (.lstore 7, 2) := by decide +kernel
theorem dX6_layOffsets_82 : decode cX6_layOffsets 82 = .ok (.iload 6, 2) := by decide +kernel
theorem dX6_layOffsets_84 : decode cX6_layOffsets 84 = .ok (.bipush 45, 2) := by decide +kernel
theorem dX6_layOffsets_86 : decode cX6_layOffsets 86 = .ok (.if_icmp .ge 21, 3) := by decide +kernel
theorem dX6_layOffsets_89 : decode cX6_layOffsets 89 = .ok (.aload_n 0, 1) := by decide +kernel
theorem dX6_layOffsets_90 : decode cX6_layOffsets 90 = .ok (.getfield 24, 3) := by decide +kernel
theorem dX6_layOffsets_93 : decode cX6_layOffsets 93 = .ok (.iload 4, 2) := by decide +kernel
theorem dX6_layOffsets_95 : decode cX6_layOffsets 95 = .ok (.dup2, 1) := by decide +kernel
theorem dX6_layOffsets_96 : decode cX6_layOffsets 96 = .ok (.laload, 1) := by decide +kernel
theorem dX6_layOffsets_97 : decode cX6_layOffsets 97 = .ok (.lload 7, 2) := by decide +kernel
theorem dX6_layOffsets_99 : decode cX6_layOffsets 99 = .ok (.iload 6, 2) := by decide +kernel
theorem dX6_layOffsets_101 : decode cX6_layOffsets 101 = .ok (.lshl, 1) := by decide +kernel
theorem dX6_layOffsets_102 : decode cX6_layOffsets 102 = .ok (.lor, 1) := by decide +kernel
theorem dX6_layOffsets_103 : decode cX6_layOffsets 103 = .ok (.lastore, 1) := by decide +kernel
theorem dX6_layOffsets_104 : decode cX6_layOffsets 104 = .ok (.goto 21, 3) := by decide +kernel
theorem dX6_layOffsets_107 : decode cX6_layOffsets 107 = .ok (.aload_n 0, 1) := by decide +kernel
theorem dX6_layOffsets_108 : decode cX6_layOffsets 108 = .ok (.getfield 28, 3) := by decide +kernel
theorem dX6_layOffsets_111 : decode cX6_layOffsets 111 = .ok (.iload 4, 2) := by decide +kernel
theorem dX6_layOffsets_113 : decode cX6_layOffsets 113 = .ok (.dup2, 1) := by decide +kernel
theorem dX6_layOffsets_114 : decode cX6_layOffsets 114 = .ok (.laload, 1) := by decide +kernel
theorem dX6_layOffsets_115 : decode cX6_layOffsets 115 = .ok (.lload 7, 2) := by decide +kernel
theorem dX6_layOffsets_117 : decode cX6_layOffsets 117 = .ok (.iload 6, 2) := by decide +kernel
theorem dX6_layOffsets_119 : decode cX6_layOffsets 119 = .ok (.bipush 45, 2) := by decide +kernel
theorem dX6_layOffsets_121 : decode cX6_layOffsets 121 = .ok (.isub, 1) := by decide +kernel
theorem dX6_layOffsets_122 : decode cX6_layOffsets 122 = .ok (.lshl, 1) := by decide +kernel
theorem dX6_layOffsets_123 : decode cX6_layOffsets 123 = .ok (.lor, 1) := by decide +kernel
theorem dX6_layOffsets_124 : decode cX6_layOffsets 124 = .ok (.lastore, 1) := by decide +kernel
theorem dX6_layOffsets_125 : decode cX6_layOffsets 125 = .ok (.iload 5, 2) := by decide +kernel
theorem dX6_layOffsets_127 : decode cX6_layOffsets 127 = .ok (.iconst 1, 1) := by decide +kernel
theorem dX6_layOffsets_128 : decode cX6_layOffsets 128 = .ok (.iadd, 1) := by decide +kernel
theorem dX6_layOffsets_129 : decode cX6_layOffsets 129 = .ok (.aload_n 2, 1) := by decide +kernel
theorem dX6_layOffsets_130 : decode cX6_layOffsets 130 = .ok (.getfield 35, 3) := by decide +kernel
theorem dX6_layOffsets_133 : decode cX6_layOffsets 133 = .ok (.if_icmp .ge 10, 3) := by decide +kernel
theorem dX6_layOffsets_136 : decode cX6_layOffsets 136 = .ok (.iload 5, 2) := by decide +kernel
theorem dX6_layOffsets_138 : decode cX6_layOffsets 138 = .ok (.iconst 1, 1) := by decide +kernel
theorem dX6_layOffsets_139 : decode cX6_layOffsets 139 = .ok (.iadd, 1) := by decide +kernel
theorem dX6_layOffsets_140 : decode cX6_layOffsets 140 = .ok (.goto 4, 3) := by decide +kernel
theorem dX6_layOffsets_143 : decode cX6_layOffsets 143 = .ok (.iconst 0, 1) := by decide +kernel
theorem dX6_layOffsets_144 : decode cX6_layOffsets 144 = .ok (.istore 5, 2) := by decide +kernel
theorem dX6_layOffsets_146 : decode cX6_layOffsets 146 = .ok (.iinc 6 1, 3) := by decide +kernel
theorem dX6_layOffsets_149 : decode cX6_layOffsets 149 = .ok (.goto (-95), 3) := by decide +kernel
theorem dX6_layOffsets_152 : decode cX6_layOffsets 152 = .ok (.iinc 3 1, 3) := by decide +kernel
theorem dX6_layOffsets_155 : decode cX6_layOffsets 155 = .ok (.goto (-153), 3) := by decide +kernel
theorem dX6_layOffsets_158 : decode cX6_layOffsets 158 = .ok (.return_, 1) := by decide +kernel
theorem dX7_init_0 : decode cX7_init 0 = .ok (.aload_n 0, 1) := by decide +kernel
theorem dX7_init_1 : decode cX7_init 1 = .ok (.invokespecial 1, 3) := by decide +kernel
theorem dX7_init_4 : decode cX7_init 4 = .ok (.aload_n 0, 1) := by decide +kernel
theorem dX7_init_5 : decode cX7_init 5 = .ok (.bipush 8, 2) := by decide +kernel
theorem dX7_init_7 : decode cX7_init 7 = .ok (.anewarray 9, 3) := by decide +kernel
theorem dX7_init_10 : decode cX7_init 10 = .ok (.putfield 11, 3) := by decide +kernel
theorem dX7_init_13 : decode cX7_init 13 = .ok (.aload_n 0, 1) := by decide +kernel
theorem dX7_init_14 : decode cX7_init 14 = .ok (.new 15, 3) := by decide +kernel
theorem dX7_init_17 : decode cX7_init 17 = .ok (.dup, 1) := by decide +kernel
theorem dX7_init_18 : decode cX7_init 18 = .ok (.invokespecial 17, 3) := by decide +kernel
theorem dX7_init_21 : decode cX7_init 21 = .ok (.putfield 18, 3) := by decide +kernel
theorem dX7_init_24 : decode cX7_init 24 = .ok (.aload_n 0, 1) := by decide +kernel
theorem dX7_init_25 : decode cX7_init 25 = .ok (.new 22, 3) := by decide +kernel
theorem dX7_init_28 : decode cX7_init 28 = .ok (.dup, 1) := by decide +kernel
theorem dX7_init_29 : decode cX7_init 29 = .ok (.invokespecial 24, 3) := by decide +kernel
theorem dX7_init_32 : decode cX7_init 32 = .ok (.putfield 25, 3) := by decide +kernel
theorem dX7_init_35 : decode cX7_init 35 = .ok (.aload_n 0, 1) := by decide +kernel
theorem dX7_init_36 : decode cX7_init 36 = .ok (.new 29, 3) := by decide +kernel
theorem dX7_init_39 : decode cX7_init 39 = .ok (.dup, 1) := by decide +kernel
theorem dX7_init_40 : decode cX7_init 40 = .ok (.invokespecial 31, 3) := by decide +kernel
theorem dX7_init_43 : decode cX7_init 43 = .ok (.putfield 32, 3) := by decide +kernel
theorem dX7_init_46 : decode cX7_init 46 = .ok (.aload_n 0, 1) := by decide +kernel
theorem dX7_init_47 : decode cX7_init 47 = .ok (.iconst (-1), 1) := by decide +kernel
theorem dX7_init_48 : decode cX7_init 48 = .ok (.putfield 36, 3) := by decide +kernel
theorem dX7_init_51 : decode cX7_init 51 = .ok (.aload_n 0, 1) := by decide +kernel
theorem dX7_init_52 : decode cX7_init 52 = .ok (.iconst (-1), 1) := by decide +kernel
theorem dX7_init_53 : decode cX7_init 53 = .ok (.putfield 40, 3) := by decide +kernel
theorem dX7_init_56 : decode cX7_init 56 = .ok (.aload_n 0, 1) := by decide +kernel
theorem dX7_init_57 : decode cX7_init 57 = .ok (.iconst (-1), 1) := by decide +kernel
theorem dX7_init_58 : decode cX7_init 58 = .ok (.putfield 43, 3) := by decide +kernel
theorem dX7_init_61 : decode cX7_init 61 = .ok (.return_, 1) := by decide +kernel
theorem dX7_junction_0 : decode cX7_junction 0 = .ok (.aload_n 0, 1) := by decide +kernel
theorem dX7_junction_1 : decode cX7_junction 1 = .ok (.getfield 46, 3) := by decide +kernel
theorem dX7_junction_4 : decode cX7_junction 4 = .ok (.bipush 8, 2) := by decide +kernel
theorem dX7_junction_6 : decode cX7_junction 6 = .ok (.if_icmp .ge 10, 3) := by decide +kernel
theorem dX7_junction_9 : decode cX7_junction 9 = .ok (.aload_n 0, 1) := by decide +kernel
theorem dX7_junction_10 : decode cX7_junction 10 = .ok (.getfield 49, 3) := by decide +kernel
theorem dX7_junction_13 : decode cX7_junction 13 = .ok (.ifCond .eq 5, 3) := by decide +kernel
theorem dX7_junction_16 : decode cX7_junction 16 = .ok (.iconst (-1), 1) := by decide +kernel
theorem dX7_junction_17 : decode cX7_junction 17 = .ok (.ireturn, 1) := by decide +kernel
theorem dX7_junction_18 : decode cX7_junction 18 = .ok (.aload_n 0, 1) := by decide +kernel
theorem dX7_junction_19 : decode cX7_junction 19 = .ok (.getfield 11, 3) := by decide +kernel
theorem dX7_junction_22 : decode cX7_junction 22 = .ok (.aload_n 0, 1) := by decide +kernel
theorem dX7_junction_23 : decode cX7_junction 23 = .ok (.getfield 46, 3) := by decide +kernel
theorem dX7_junction_26 : decode cX7_junction 26 = .ok (.new 9, 3) := by decide +kernel
theorem dX7_junction_29 : decode cX7_junction 29 = .ok (.dup, 1) := by decide +kernel
theorem dX7_junction_30 : decode cX7_junction 30 = .ok (.invokespecial 52, 3) := by decide +kernel
theorem dX7_junction_33 : decode cX7_junction 33 = .ok (.aastore, 1) := by decide +kernel
theorem dX7_junction_34 : decode cX7_junction 34 = .ok (.aload_n 0, 1) := by decide +kernel
theorem dX7_junction_35 : decode cX7_junction 35 = .ok (.dup, 1) := by decide +kernel
theorem dX7_junction_36 : decode cX7_junction 36 = .ok (.getfield 46, 3) := by decide +kernel
theorem dX7_junction_39 : decode cX7_junction 39 = .ok (.iconst 1, 1) := by decide +kernel
theorem dX7_junction_40 : decode cX7_junction 40 = .ok (.iadd, 1) := by decide +kernel
theorem dX7_junction_41 : decode cX7_junction 41 = .ok (.putfield 46, 3) := by decide +kernel
theorem dX7_junction_44 : decode cX7_junction 44 = .ok (.aload_n 0, 1) := by decide +kernel
theorem dX7_junction_45 : decode cX7_junction 45 = .ok (.getfield 46, 3) := by decide +kernel
theorem dX7_junction_48 : decode cX7_junction 48 = .ok (.iconst 1, 1) := by decide +kernel
theorem dX7_junction_49 : decode cX7_junction 49 = .ok (.isub, 1) := by decide +kernel
theorem dX7_junction_50 : decode cX7_junction 50 = .ok (.ireturn, 1) := by decide +kernel
theorem dX7_stream_0 : decode cX7_stream 0 = .ok (.aload_n 0, 1) := by decide +kernel
theorem dX7_stream_1 : decode cX7_stream 1 = .ok (.iload_n 1, 1) := by decide +kernel
theorem dX7_stream_2 : decode cX7_stream 2 = .ok (.invokevirtual 53, 3) := by decide +kernel
theorem dX7_stream_5 : decode cX7_stream 5 = .ok (.astore 6, 2) := by decide +kernel
theorem dX7_stream_7 : decode cX7_stream 7 = .ok (.aload 6, 2) := by decide +kernel
theorem dX7_stream_9 : decode cX7_stream 9 = .ok (.ifnull 28, 3) := by decide +kernel
theorem dX7_stream_12 : decode cX7_stream 12 = .ok (.aload_n 0, 1) := by decide +kernel
theorem dX7_stream_13 : decode cX7_stream 13 = .ok (.getfield 49, 3) := by decide +kernel
theorem dX7_stream_16 : decode cX7_stream 16 = .ok (.ifCond .ne 21, 3) := by decide +kernel
theorem dX7_stream_19 : decode cX7_stream 19 = .ok (.aload 6, 2) := by decide +kernel
theorem dX7_stream_21 : decode cX7_stream 21 = .ok (.getfield 57, 3) := by decide +kernel
theorem dX7_stream_24 : decode cX7_stream 24 = .ok (.bipush 8, 2) := by decide +kernel
theorem dX7_stream_26 : decode cX7_stream 26 = .ok (.if_icmp .ge 11, 3) := by decide +kernel
theorem dX7_stream_29 : decode cX7_stream 29 = .ok (.aload 6, 2) := by decide +kernel
theorem dX7_stream_31 : decode cX7_stream 31 = .ok (.invokevirtual 60, 3) := by decide +kernel
theorem dX7_stream_34 : decode cX7_stream 34 = .ok (.ifCond .eq 5, 3) := by decide +kernel
theorem dX7_stream_37 : decode cX7_stream 37 = .ok (.iconst (-1), 1) := by decide +kernel
theorem dX7_stream_38 : decode cX7_stream 38 = .ok (.ireturn, 1) := by decide +kernel
theorem dX7_stream_39 : decode cX7_stream 39 = .ok (.iload_n 2, 1) := by decide +kernel
theorem dX7_stream_40 : decode cX7_stream 40 = .ok (.iconst 2, 1) := by decide +kernel
theorem dX7_stream_41 : decode cX7_stream 41 = .ok (.if_icmp .eq 12, 3) := by decide +kernel
theorem dX7_stream_44 : decode cX7_stream 44 = .ok (.iload_n 2, 1) := by decide +kernel
theorem dX7_stream_45 : decode cX7_stream 45 = .ok (.iconst 3, 1) := by decide +kernel
theorem dX7_stream_46 : decode cX7_stream 46 = .ok (.if_icmp .eq 7, 3) := by decide +kernel
theorem dX7_stream_49 : decode cX7_stream 49 = .ok (.iconst 1, 1) := by decide +kernel
theorem dX7_stream_50 : decode cX7_stream 50 = .ok (.goto 4, 3) := by decide +kernel
theorem dX7_stream_53 : decode cX7_stream 53 = .ok (.iconst 0, 1) := by decide +kernel
theorem dX7_stream_54 : decode cX7_stream 54 = .ok (.istore 7, 2) := by decide +kernel
theorem dX7_stream_56 : decode cX7_stream 56 = .ok (.iload_n 2, 1) := by decide +kernel
theorem dX7_stream_57 : decode cX7_stream 57 = .ok (.iconst 0, 1) := by decide +kernel
theorem dX7_stream_58 : decode cX7_stream 58 = .ok (.iconst 3, 1) := by decide +kernel
theorem dX7_stream_59 : decode cX7_stream 59 = .ok (.invokestatic 64, 3) := by decide +kernel
theorem dX7_stream_62 : decode cX7_stream 62 = .ok (.ifCond .ne 44, 3) := by decide +kernel
theorem dX7_stream_65 : decode cX7_stream 65 = .ok (.iload_n 3, 1) := by decide +kernel
theorem dX7_stream_66 : decode cX7_stream 66 = .ok (.iconst 0, 1) := by decide +kernel
theorem dX7_stream_67 : decode cX7_stream 67 = .ok (.sipush 3600, 3) := by decide +kernel
theorem dX7_stream_70 : decode cX7_stream 70 = .ok (.invokestatic 64, 3) := by decide +kernel
theorem dX7_stream_73 : decode cX7_stream 73 = .ok (.ifCond .ne 33, 3) := by decide +kernel
theorem dX7_stream_76 : decode cX7_stream 76 = .ok (.iload 5, 2) := by decide +kernel
theorem dX7_stream_78 : decode cX7_stream 78 = .ok (.iconst 4, 1) := by decide +kernel
theorem dX7_stream_79 : decode cX7_stream 79 = .ok (.bipush 30, 2) := by decide +kernel
theorem dX7_stream_81 : decode cX7_stream 81 = .ok (.invokestatic 64, 3) := by decide +kernel
theorem dX7_stream_84 : decode cX7_stream 84 = .ok (.ifCond .ne 22, 3) := by decide +kernel
theorem dX7_stream_87 : decode cX7_stream 87 = .ok (.iload 7, 2) := by decide +kernel
theorem dX7_stream_89 : decode cX7_stream 89 = .ok (.ifCond .eq 19, 3) := by decide +kernel
theorem dX7_stream_92 : decode cX7_stream 92 = .ok (.iload 4, 2) := by decide +kernel
theorem dX7_stream_94 : decode cX7_stream 94 = .ok (.sipush 600, 3) := by decide +kernel
theorem dX7_stream_97 : decode cX7_stream 97 = .ok (.sipush 3600, 3) := by decide +kernel
theorem dX7_stream_100 : decode cX7_stream 100 = .ok (.invokestatic 64, 3) := by decide +kernel
theorem dX7_stream_103 : decode cX7_stream 103 = .ok (.ifCond .eq 5, 3) := by decide +kernel
theorem dX7_stream_106 : decode cX7_stream 106 = .ok (.iconst (-1), 1) := by decide +kernel
theorem dX7_stream_107 : decode cX7_stream 107 = .ok (.ireturn, 1) := by decide +kernel
theorem dX7_stream_108 : decode cX7_stream 108 = .ok (.aload 6, 2) := by decide +kernel
theorem dX7_stream_110 : decode cX7_stream 110 = .ok (.new 68, 3) := by decide +kernel
theorem dX7_stream_113 : decode cX7_stream 113 = .ok (.dup, 1) := by decide +kernel
theorem dX7_stream_114 : decode cX7_stream 114 = .ok (.iload_n 2, 1) := by decide +kernel
theorem dX7_stream_115 : decode cX7_stream 115 = .ok (.iload_n 3, 1) := by decide +kernel
theorem dX7_stream_116 : decode cX7_stream 116 = .ok (.iload 4, 2) := by decide +kernel
theorem dX7_stream_118 : decode cX7_stream 118 = .ok (.iload 5, 2) := by decide +kernel
theorem dX7_stream_120 : decode cX7_stream 120 = .ok (.invokespecial 70, 3) := by decide +kernel
theorem dX7_stream_123 : decode cX7_stream 123 = .ok (.invokevirtual 73, 3) := by decide +kernel
theorem dX7_stream_126 : decode cX7_stream 126 = .ok (.ireturn, 1) := by decide +kernel
theorem dX7_against_0 : decode cX7_against 0 = .ok (.aload_n 0, 1) := by decide +kernel
theorem dX7_against_1 : decode cX7_against 1 = .ok (.iload_n 1, 1) := by decide +kernel
theorem dX7_against_2 : decode cX7_against 2 = .ok (.invokevirtual 53, 3) := by decide +kernel
theorem dX7_against_5 : decode cX7_against 5 = .ok (.astore 6, 2) := by decide +kernel
theorem dX7_against_7 : decode cX7_against 7 = .ok (.aload 6, 2) := by decide +kernel
theorem dX7_against_9 : decode cX7_against 9 = .ok (.ifnull 56, 3) := by decide +kernel
theorem dX7_against_12 : decode cX7_against 12 = .ok (.aload 6, 2) := by decide +kernel
theorem dX7_against_14 : decode cX7_against 14 = .ok (.invokevirtual 60, 3) := by decide +kernel
theorem dX7_against_17 : decode cX7_against 17 = .ok (.ifCond .ne 48, 3) := by decide +kernel
theorem dX7_against_20 : decode cX7_against 20 = .ok (.aload 6, 2) := by decide +kernel
theorem dX7_against_22 : decode cX7_against 22 = .ok (.iload_n 2, 1) := by decide +kernel
theorem dX7_against_23 : decode cX7_against 23 = .ok (.invokevirtual 77, 3) := by decide +kernel
theorem dX7_against_26 : decode cX7_against 26 = .ok (.ifnull 39, 3) := by decide +kernel
theorem dX7_against_29 : decode cX7_against 29 = .ok (.aload 6, 2) := by decide +kernel
theorem dX7_against_31 : decode cX7_against 31 = .ok (.iload_n 3, 1) := by decide +kernel
theorem dX7_against_32 : decode cX7_against 32 = .ok (.invokevirtual 77, 3) := by decide +kernel
theorem dX7_against_35 : decode cX7_against 35 = .ok (.ifnull 30, 3) := by decide +kernel
theorem dX7_against_38 : decode cX7_against 38 = .ok (.iload_n 2, 1) := by decide +kernel
theorem dX7_against_39 : decode cX7_against 39 = .ok (.iload_n 3, 1) := by decide +kernel
theorem dX7_against_40 : decode cX7_against 40 = .ok (.if_icmp .eq 25, 3) := by decide +kernel
theorem dX7_against_43 : decode cX7_against 43 = .ok (.iload 4, 2) := by decide +kernel
theorem dX7_against_45 : decode cX7_against 45 = .ok (.iconst 1, 1) := by decide +kernel
theorem dX7_against_46 : decode cX7_against 46 = .ok (.bipush 20, 2) := by decide +kernel
theorem dX7_against_48 : decode cX7_against 48 = .ok (.invokestatic 64, 3) := by decide +kernel
theorem dX7_against_51 : decode cX7_against 51 = .ok (.ifCond .ne 14, 3) := by decide +kernel
theorem dX7_against_54 : decode cX7_against 54 = .ok (.iload 5, 2) := by decide +kernel
theorem dX7_against_56 : decode cX7_against 56 = .ok (.iconst 1, 1) := by decide +kernel
theorem dX7_against_57 : decode cX7_against 57 = .ok (.bipush 20, 2) := by decide +kernel
theorem dX7_against_59 : decode cX7_against 59 = .ok (.invokestatic 64, 3) := by decide +kernel
theorem dX7_against_62 : decode cX7_against 62 = .ok (.ifCond .eq 5, 3) := by decide +kernel
theorem dX7_against_65 : decode cX7_against 65 = .ok (.iconst 0, 1) := by decide +kernel
theorem dX7_against_66 : decode cX7_against 66 = .ok (.ireturn, 1) := by decide +kernel
theorem dX7_against_67 : decode cX7_against 67 = .ok (.aload 6, 2) := by decide +kernel
theorem dX7_against_69 : decode cX7_against 69 = .ok (.iload_n 2, 1) := by decide +kernel
theorem dX7_against_70 : decode cX7_against 70 = .ok (.iload_n 3, 1) := by decide +kernel
theorem dX7_against_71 : decode cX7_against 71 = .ok (.iload 4, 2) := by decide +kernel
theorem dX7_against_73 : decode cX7_against 73 = .ok (.iload 5, 2) := by decide +kernel
theorem dX7_against_75 : decode cX7_against 75 = .ok (.invokevirtual 81, 3) := by decide +kernel
theorem dX7_against_78 : decode cX7_against 78 = .ok (.iconst 1, 1) := by decide +kernel
theorem dX7_against_79 : decode cX7_against 79 = .ok (.ireturn, 1) := by decide +kernel
theorem dX7_yields_0 : decode cX7_yields 0 = .ok (.aload_n 0, 1) := by decide +kernel
theorem dX7_yields_1 : decode cX7_yields 1 = .ok (.iload_n 1, 1) := by decide +kernel
theorem dX7_yields_2 : decode cX7_yields 2 = .ok (.invokevirtual 53, 3) := by decide +kernel
theorem dX7_yields_5 : decode cX7_yields 5 = .ok (.astore 4, 2) := by decide +kernel
theorem dX7_yields_7 : decode cX7_yields 7 = .ok (.aload 4, 2) := by decide +kernel
theorem dX7_yields_9 : decode cX7_yields 9 = .ok (.ifnull 21, 3) := by decide +kernel
theorem dX7_yields_12 : decode cX7_yields 12 = .ok (.aload 4, 2) := by decide +kernel
theorem dX7_yields_14 : decode cX7_yields 14 = .ok (.invokevirtual 60, 3) := by decide +kernel
theorem dX7_yields_17 : decode cX7_yields 17 = .ok (.ifCond .ne 13, 3) := by decide +kernel
theorem dX7_yields_20 : decode cX7_yields 20 = .ok (.aload 4, 2) := by decide +kernel
theorem dX7_yields_22 : decode cX7_yields 22 = .ok (.iload_n 2, 1) := by decide +kernel
theorem dX7_yields_23 : decode cX7_yields 23 = .ok (.iload_n 3, 1) := by decide +kernel
theorem dX7_yields_24 : decode cX7_yields 24 = .ok (.invokevirtual 84, 3) := by decide +kernel
theorem dX7_yields_27 : decode cX7_yields 27 = .ok (.ifCond .ne 5, 3) := by decide +kernel
theorem dX7_yields_30 : decode cX7_yields 30 = .ok (.iconst 0, 1) := by decide +kernel
theorem dX7_yields_31 : decode cX7_yields 31 = .ok (.ireturn, 1) := by decide +kernel
theorem dX7_yields_32 : decode cX7_yields 32 = .ok (.aload 4, 2) := by decide +kernel
theorem dX7_yields_34 : decode cX7_yields 34 = .ok (.iload_n 2, 1) := by decide +kernel
theorem dX7_yields_35 : decode cX7_yields 35 = .ok (.iload_n 3, 1) := by decide +kernel
theorem dX7_yields_36 : decode cX7_yields 36 = .ok (.invokevirtual 88, 3) := by decide +kernel
theorem dX7_yields_39 : decode cX7_yields 39 = .ok (.iconst 1, 1) := by decide +kernel
theorem dX7_yields_40 : decode cX7_yields 40 = .ok (.ireturn, 1) := by decide +kernel
theorem dX7_street_0 : decode cX7_street 0 = .ok (.aload_n 0, 1) := by decide +kernel
theorem dX7_street_1 : decode cX7_street 1 = .ok (.iload_n 1, 1) := by decide +kernel
theorem dX7_street_2 : decode cX7_street 2 = .ok (.iload_n 2, 1) := by decide +kernel
theorem dX7_street_3 : decode cX7_street 3 = .ok (.invokevirtual 92, 3) := by decide +kernel
theorem dX7_street_6 : decode cX7_street 6 = .ok (.astore 7, 2) := by decide +kernel
theorem dX7_street_8 : decode cX7_street 8 = .ok (.aload_n 0, 1) := by decide +kernel
theorem dX7_street_9 : decode cX7_street 9 = .ok (.iload_n 3, 1) := by decide +kernel
theorem dX7_street_10 : decode cX7_street 10 = .ok (.iload 4, 2) := by decide +kernel
theorem dX7_street_12 : decode cX7_street 12 = .ok (.invokevirtual 92, 3) := by decide +kernel
theorem dX7_street_15 : decode cX7_street 15 = .ok (.astore 8, 2) := by decide +kernel
theorem dX7_street_17 : decode cX7_street 17 = .ok (.aload 7, 2) := by decide +kernel
theorem dX7_street_19 : decode cX7_street 19 = .ok (.ifnull 50, 3) := by decide +kernel
theorem dX7_street_22 : decode cX7_street 22 = .ok (.aload 8, 2) := by decide +kernel
theorem dX7_street_24 : decode cX7_street 24 = .ok (.ifnull 45, 3) := by decide +kernel
theorem dX7_street_27 : decode cX7_street 27 = .ok (.iload_n 1, 1) := by decide +kernel
theorem dX7_street_28 : decode cX7_street 28 = .ok (.iload_n 3, 1) := by decide +kernel
theorem dX7_street_29 : decode cX7_street 29 = .ok (.if_icmp .eq 40, 3) := by decide +kernel
theorem dX7_street_32 : decode cX7_street 32 = .ok (.aload 7, 2) := by decide +kernel
theorem dX7_street_34 : decode cX7_street 34 = .ok (.getfield 96, 3) := by decide +kernel
theorem dX7_street_37 : decode cX7_street 37 = .ok (.ifnonnull 32, 3) := by decide +kernel
theorem dX7_street_40 : decode cX7_street 40 = .ok (.aload_n 0, 1) := by decide +kernel
theorem dX7_street_41 : decode cX7_street 41 = .ok (.getfield 49, 3) := by decide +kernel
theorem dX7_street_44 : decode cX7_street 44 = .ok (.ifCond .ne 25, 3) := by decide +kernel
theorem dX7_street_47 : decode cX7_street 47 = .ok (.iload 5, 2) := by decide +kernel
theorem dX7_street_49 : decode cX7_street 49 = .ok (.iconst 1, 1) := by decide +kernel
theorem dX7_street_50 : decode cX7_street 50 = .ok (.bipush 60, 2) := by decide +kernel
theorem dX7_street_52 : decode cX7_street 52 = .ok (.invokestatic 64, 3) := by decide +kernel
theorem dX7_street_55 : decode cX7_street 55 = .ok (.ifCond .ne 14, 3) := by decide +kernel
theorem dX7_street_58 : decode cX7_street 58 = .ok (.iload 6, 2) := by decide +kernel
theorem dX7_street_60 : decode cX7_street 60 = .ok (.iconst 1, 1) := by decide +kernel
theorem dX7_street_61 : decode cX7_street 61 = .ok (.bipush 60, 2) := by decide +kernel
theorem dX7_street_63 : decode cX7_street 63 = .ok (.invokestatic 64, 3) := by decide +kernel
theorem dX7_street_66 : decode cX7_street 66 = .ok (.ifCond .eq 5, 3) := by decide +kernel
theorem dX7_street_69 : decode cX7_street 69 = .ok (.iconst 0, 1) := by decide +kernel
theorem dX7_street_70 : decode cX7_street 70 = .ok (.ireturn, 1) := by decide +kernel
theorem dX7_street_71 : decode cX7_street 71 = .ok (.aload 7, 2) := by decide +kernel
theorem dX7_street_73 : decode cX7_street 73 = .ok (.new 100, 3) := by decide +kernel
theorem dX7_street_76 : decode cX7_street 76 = .ok (.dup, 1) := by decide +kernel
theorem dX7_street_77 : decode cX7_street 77 = .ok (.aload 8, 2) := by decide +kernel
theorem dX7_street_79 : decode cX7_street 79 = .ok (.iload 5, 2) := by decide +kernel
theorem dX7_street_81 : decode cX7_street 81 = .ok (.iload 6, 2) := by decide +kernel
theorem dX7_street_83 : decode cX7_street 83 = .ok (.invokespecial 102, 3) := by decide +kernel
theorem dX7_street_86 : decode cX7_street 86 = .ok (.putfield 96, 3) := by decide +kernel
theorem dX7_street_89 : decode cX7_street 89 = .ok (.aload 8, 2) := by decide +kernel
theorem dX7_street_91 : decode cX7_street 91 = .ok (.aload 7, 2) := by decide +kernel
theorem dX7_street_93 : decode cX7_street 93 = .ok (.getfield 96, 3) := by decide +kernel
theorem dX7_street_96 : decode cX7_street 96 = .ok (.putfield 105, 3) := by decide +kernel
theorem dX7_street_99 : decode cX7_street 99 = .ok (.iconst 1, 1) := by decide +kernel
theorem dX7_street_100 : decode cX7_street 100 = .ok (.ireturn, 1) := by decide +kernel
theorem dX7_sets_0 : decode cX7_sets 0 = .ok (.aload_n 0, 1) := by decide +kernel
theorem dX7_sets_1 : decode cX7_sets 1 = .ok (.iload_n 1, 1) := by decide +kernel
theorem dX7_sets_2 : decode cX7_sets 2 = .ok (.invokevirtual 53, 3) := by decide +kernel
theorem dX7_sets_5 : decode cX7_sets 5 = .ok (.astore_n 2, 1) := by decide +kernel
theorem dX7_sets_6 : decode cX7_sets 6 = .ok (.aload_n 2, 1) := by decide +kernel
theorem dX7_sets_7 : decode cX7_sets 7 = .ok (.ifnonnull 7, 3) := by decide +kernel
theorem dX7_sets_10 : decode cX7_sets 10 = .ok (.iconst (-1), 1) := by decide +kernel
theorem dX7_sets_11 : decode cX7_sets 11 = .ok (.goto 7, 3) := by decide +kernel
theorem dX7_sets_14 : decode cX7_sets 14 = .ok (.aload_n 2, 1) := by decide +kernel
theorem dX7_sets_15 : decode cX7_sets 15 = .ok (.invokevirtual 108, 3) := by decide +kernel
theorem dX7_sets_18 : decode cX7_sets 18 = .ok (.ireturn, 1) := by decide +kernel
theorem dX7_set_0 : decode cX7_set 0 = .ok (.aload_n 0, 1) := by decide +kernel
theorem dX7_set_1 : decode cX7_set 1 = .ok (.iload_n 1, 1) := by decide +kernel
theorem dX7_set_2 : decode cX7_set 2 = .ok (.invokevirtual 53, 3) := by decide +kernel
theorem dX7_set_5 : decode cX7_set 5 = .ok (.astore_n 3, 1) := by decide +kernel
theorem dX7_set_6 : decode cX7_set 6 = .ok (.aload_n 3, 1) := by decide +kernel
theorem dX7_set_7 : decode cX7_set 7 = .ok (.ifnonnull 7, 3) := by decide +kernel
theorem dX7_set_10 : decode cX7_set 10 = .ok (.iconst (-1), 1) := by decide +kernel
theorem dX7_set_11 : decode cX7_set 11 = .ok (.goto 8, 3) := by decide +kernel
theorem dX7_set_14 : decode cX7_set 14 = .ok (.aload_n 3, 1) := by decide +kernel
theorem dX7_set_15 : decode cX7_set 15 = .ok (.iload_n 2, 1) := by decide +kernel
theorem dX7_set_16 : decode cX7_set 16 = .ok (.invokevirtual 112, 3) := by decide +kernel
theorem dX7_set_19 : decode cX7_set 19 = .ok (.ireturn, 1) := by decide +kernel
theorem dX7_goes_0 : decode cX7_goes 0 = .ok (.aload_n 0, 1) := by decide +kernel
theorem dX7_goes_1 : decode cX7_goes 1 = .ok (.iload_n 1, 1) := by decide +kernel
theorem dX7_goes_2 : decode cX7_goes 2 = .ok (.invokevirtual 53, 3) := by decide +kernel
theorem dX7_goes_5 : decode cX7_goes 5 = .ok (.astore_n 3, 1) := by decide +kernel
theorem dX7_goes_6 : decode cX7_goes 6 = .ok (.aload_n 3, 1) := by decide +kernel
theorem dX7_goes_7 : decode cX7_goes 7 = .ok (.ifnull 15, 3) := by decide +kernel
theorem dX7_goes_10 : decode cX7_goes 10 = .ok (.aload_n 3, 1) := by decide +kernel
theorem dX7_goes_11 : decode cX7_goes 11 = .ok (.iload_n 2, 1) := by decide +kernel
theorem dX7_goes_12 : decode cX7_goes 12 = .ok (.invokevirtual 116, 3) := by decide +kernel
theorem dX7_goes_15 : decode cX7_goes 15 = .ok (.ifCond .eq 7, 3) := by decide +kernel
theorem dX7_goes_18 : decode cX7_goes 18 = .ok (.iconst 1, 1) := by decide +kernel
theorem dX7_goes_19 : decode cX7_goes 19 = .ok (.goto 4, 3) := by decide +kernel
theorem dX7_goes_22 : decode cX7_goes 22 = .ok (.iconst 0, 1) := by decide +kernel
theorem dX7_goes_23 : decode cX7_goes 23 = .ok (.ireturn, 1) := by decide +kernel
theorem dX7_plan_0 : decode cX7_plan 0 = .ok (.aload_n 0, 1) := by decide +kernel
theorem dX7_plan_1 : decode cX7_plan 1 = .ok (.iload_n 1, 1) := by decide +kernel
theorem dX7_plan_2 : decode cX7_plan 2 = .ok (.invokevirtual 53, 3) := by decide +kernel
theorem dX7_plan_5 : decode cX7_plan 5 = .ok (.astore_n 3, 1) := by decide +kernel
theorem dX7_plan_6 : decode cX7_plan 6 = .ok (.aload_n 3, 1) := by decide +kernel
theorem dX7_plan_7 : decode cX7_plan 7 = .ok (.ifnull 14, 3) := by decide +kernel
theorem dX7_plan_10 : decode cX7_plan 10 = .ok (.iload_n 2, 1) := by decide +kernel
theorem dX7_plan_11 : decode cX7_plan 11 = .ok (.bipush 20, 2) := by decide +kernel
theorem dX7_plan_13 : decode cX7_plan 13 = .ok (.bipush 90, 2) := by decide +kernel
theorem dX7_plan_15 : decode cX7_plan 15 = .ok (.invokestatic 64, 3) := by decide +kernel
theorem dX7_plan_18 : decode cX7_plan 18 = .ok (.ifCond .eq 5, 3) := by decide +kernel
theorem dX7_plan_21 : decode cX7_plan 21 = .ok (.iconst 0, 1) := by decide +kernel
theorem dX7_plan_22 : decode cX7_plan 22 = .ok (.ireturn, 1) := by decide +kernel
theorem dX7_plan_23 : decode cX7_plan 23 = .ok (.aload_n 3, 1) := by decide +kernel
theorem dX7_plan_24 : decode cX7_plan 24 = .ok (.getfield 120, 3) := by decide +kernel
theorem dX7_plan_27 : decode cX7_plan 27 = .ok (.ifnonnull 14, 3) := by decide +kernel
theorem dX7_plan_30 : decode cX7_plan 30 = .ok (.aload_n 3, 1) := by decide +kernel
theorem dX7_plan_31 : decode cX7_plan 31 = .ok (.new 124, 3) := by decide +kernel
theorem dX7_plan_34 : decode cX7_plan 34 = .ok (.dup, 1) := by decide +kernel
theorem dX7_plan_35 : decode cX7_plan 35 = .ok (.invokespecial 126, 3) := by decide +kernel
theorem dX7_plan_38 : decode cX7_plan 38 = .ok (.putfield 120, 3) := by decide +kernel
theorem dX7_plan_41 : decode cX7_plan 41 = .ok (.aload_n 3, 1) := by decide +kernel
theorem dX7_plan_42 : decode cX7_plan 42 = .ok (.getfield 120, 3) := by decide +kernel
theorem dX7_plan_45 : decode cX7_plan 45 = .ok (.iload_n 2, 1) := by decide +kernel
theorem dX7_plan_46 : decode cX7_plan 46 = .ok (.putfield 127, 3) := by decide +kernel
theorem dX7_plan_49 : decode cX7_plan 49 = .ok (.aload_n 3, 1) := by decide +kernel
theorem dX7_plan_50 : decode cX7_plan 50 = .ok (.getfield 120, 3) := by decide +kernel
theorem dX7_plan_53 : decode cX7_plan 53 = .ok (.iconst 0, 1) := by decide +kernel
theorem dX7_plan_54 : decode cX7_plan 54 = .ok (.putfield 130, 3) := by decide +kernel
theorem dX7_plan_57 : decode cX7_plan 57 = .ok (.iconst 1, 1) := by decide +kernel
theorem dX7_plan_58 : decode cX7_plan 58 = .ok (.ireturn, 1) := by decide +kernel
theorem dX7_stage_0 : decode cX7_stage 0 = .ok (.aload_n 0, 1) := by decide +kernel
theorem dX7_stage_1 : decode cX7_stage 1 = .ok (.iload_n 1, 1) := by decide +kernel
theorem dX7_stage_2 : decode cX7_stage 2 = .ok (.invokevirtual 53, 3) := by decide +kernel
theorem dX7_stage_5 : decode cX7_stage 5 = .ok (.astore 4, 2) := by decide +kernel
theorem dX7_stage_7 : decode cX7_stage 7 = .ok (.aload_n 0, 1) := by decide +kernel
theorem dX7_stage_8 : decode cX7_stage 8 = .ok (.iload_n 1, 1) := by decide +kernel
theorem dX7_stage_9 : decode cX7_stage 9 = .ok (.invokevirtual 133, 3) := by decide +kernel
theorem dX7_stage_12 : decode cX7_stage 12 = .ok (.astore 5, 2) := by decide +kernel
theorem dX7_stage_14 : decode cX7_stage 14 = .ok (.aload 4, 2) := by decide +kernel
theorem dX7_stage_16 : decode cX7_stage 16 = .ok (.ifnull 40, 3) := by decide +kernel
theorem dX7_stage_19 : decode cX7_stage 19 = .ok (.aload 5, 2) := by decide +kernel
theorem dX7_stage_21 : decode cX7_stage 21 = .ok (.ifnull 35, 3) := by decide +kernel
theorem dX7_stage_24 : decode cX7_stage 24 = .ok (.aload 5, 2) := by decide +kernel
theorem dX7_stage_26 : decode cX7_stage 26 = .ok (.getfield 130, 3) := by decide +kernel
theorem dX7_stage_29 : decode cX7_stage 29 = .ok (.iconst 4, 1) := by decide +kernel
theorem dX7_stage_30 : decode cX7_stage 30 = .ok (.if_icmp .ge 26, 3) := by decide +kernel
theorem dX7_stage_33 : decode cX7_stage 33 = .ok (.iload_n 2, 1) := by decide +kernel
theorem dX7_stage_34 : decode cX7_stage 34 = .ok (.ifCond .eq 22, 3) := by decide +kernel
theorem dX7_stage_37 : decode cX7_stage 37 = .ok (.aload 4, 2) := by decide +kernel
theorem dX7_stage_39 : decode cX7_stage 39 = .ok (.iload_n 2, 1) := by decide +kernel
theorem dX7_stage_40 : decode cX7_stage 40 = .ok (.invokevirtual 116, 3) := by decide +kernel
theorem dX7_stage_43 : decode cX7_stage 43 = .ok (.ifCond .eq 13, 3) := by decide +kernel
theorem dX7_stage_46 : decode cX7_stage 46 = .ok (.iload_n 3, 1) := by decide +kernel
theorem dX7_stage_47 : decode cX7_stage 47 = .ok (.iconst 0, 1) := by decide +kernel
theorem dX7_stage_48 : decode cX7_stage 48 = .ok (.bipush 90, 2) := by decide +kernel
theorem dX7_stage_50 : decode cX7_stage 50 = .ok (.invokestatic 64, 3) := by decide +kernel
theorem dX7_stage_53 : decode cX7_stage 53 = .ok (.ifCond .eq 5, 3) := by decide +kernel
theorem dX7_stage_56 : decode cX7_stage 56 = .ok (.iconst (-1), 1) := by decide +kernel
theorem dX7_stage_57 : decode cX7_stage 57 = .ok (.ireturn, 1) := by decide +kernel
theorem dX7_stage_58 : decode cX7_stage 58 = .ok (.aload 5, 2) := by decide +kernel
theorem dX7_stage_60 : decode cX7_stage 60 = .ok (.iload_n 2, 1) := by decide +kernel
theorem dX7_stage_61 : decode cX7_stage 61 = .ok (.iload_n 3, 1) := by decide +kernel
theorem dX7_stage_62 : decode cX7_stage 62 = .ok (.invokevirtual 137, 3) := by decide +kernel
theorem dX7_stage_65 : decode cX7_stage 65 = .ok (.aload 4, 2) := by decide +kernel
theorem dX7_stage_67 : decode cX7_stage 67 = .ok (.aload 5, 2) := by decide +kernel
theorem dX7_stage_69 : decode cX7_stage 69 = .ok (.invokevirtual 139, 3) := by decide +kernel
theorem dX7_stage_72 : decode cX7_stage 72 = .ok (.aload 5, 2) := by decide +kernel
theorem dX7_stage_74 : decode cX7_stage 74 = .ok (.getfield 130, 3) := by decide +kernel
theorem dX7_stage_77 : decode cX7_stage 77 = .ok (.iconst 1, 1) := by decide +kernel
theorem dX7_stage_78 : decode cX7_stage 78 = .ok (.isub, 1) := by decide +kernel
theorem dX7_stage_79 : decode cX7_stage 79 = .ok (.ireturn, 1) := by decide +kernel
theorem dX7_take_0 : decode cX7_take 0 = .ok (.aload_n 0, 1) := by decide +kernel
theorem dX7_take_1 : decode cX7_take 1 = .ok (.iload_n 1, 1) := by decide +kernel
theorem dX7_take_2 : decode cX7_take 2 = .ok (.invokevirtual 53, 3) := by decide +kernel
theorem dX7_take_5 : decode cX7_take 5 = .ok (.astore_n 3, 1) := by decide +kernel
theorem dX7_take_6 : decode cX7_take 6 = .ok (.aload_n 0, 1) := by decide +kernel
theorem dX7_take_7 : decode cX7_take 7 = .ok (.iload_n 1, 1) := by decide +kernel
theorem dX7_take_8 : decode cX7_take 8 = .ok (.invokevirtual 133, 3) := by decide +kernel
theorem dX7_take_11 : decode cX7_take 11 = .ok (.astore 4, 2) := by decide +kernel
theorem dX7_take_13 : decode cX7_take 13 = .ok (.aload_n 3, 1) := by decide +kernel
theorem dX7_take_14 : decode cX7_take 14 = .ok (.ifnull 23, 3) := by decide +kernel
theorem dX7_take_17 : decode cX7_take 17 = .ok (.aload 4, 2) := by decide +kernel
theorem dX7_take_19 : decode cX7_take 19 = .ok (.ifnull 18, 3) := by decide +kernel
theorem dX7_take_22 : decode cX7_take 22 = .ok (.iload_n 2, 1) := by decide +kernel
theorem dX7_take_23 : decode cX7_take 23 = .ok (.iconst 0, 1) := by decide +kernel
theorem dX7_take_24 : decode cX7_take 24 = .ok (.aload 4, 2) := by decide +kernel
theorem dX7_take_26 : decode cX7_take 26 = .ok (.getfield 127, 3) := by decide +kernel
theorem dX7_take_29 : decode cX7_take 29 = .ok (.iconst 1, 1) := by decide +kernel
theorem dX7_take_30 : decode cX7_take 30 = .ok (.isub, 1) := by decide +kernel
theorem dX7_take_31 : decode cX7_take 31 = .ok (.invokestatic 64, 3) := by decide +kernel
theorem dX7_take_34 : decode cX7_take 34 = .ok (.ifCond .eq 5, 3) := by decide +kernel
theorem dX7_take_37 : decode cX7_take 37 = .ok (.iconst 1, 1) := by decide +kernel
theorem dX7_take_38 : decode cX7_take 38 = .ok (.ireturn, 1) := by decide +kernel
theorem dX7_take_39 : decode cX7_take 39 = .ok (.aload 4, 2) := by decide +kernel
theorem dX7_take_41 : decode cX7_take 41 = .ok (.getfield 130, 3) := by decide +kernel
theorem dX7_take_44 : decode cX7_take 44 = .ok (.iconst 2, 1) := by decide +kernel
theorem dX7_take_45 : decode cX7_take 45 = .ok (.if_icmp .ge 5, 3) := by decide +kernel
theorem dX7_take_48 : decode cX7_take 48 = .ok (.iconst 2, 1) := by decide +kernel
theorem dX7_take_49 : decode cX7_take 49 = .ok (.ireturn, 1) := by decide +kernel
theorem dX7_take_50 : decode cX7_take 50 = .ok (.aload 4, 2) := by decide +kernel
theorem dX7_take_52 : decode cX7_take 52 = .ok (.invokevirtual 143, 3) := by decide +kernel
theorem dX7_take_55 : decode cX7_take 55 = .ok (.ifCond .eq 5, 3) := by decide +kernel
theorem dX7_take_58 : decode cX7_take 58 = .ok (.iconst 3, 1) := by decide +kernel
theorem dX7_take_59 : decode cX7_take 59 = .ok (.ireturn, 1) := by decide +kernel
theorem dX7_take_60 : decode cX7_take 60 = .ok (.aload 4, 2) := by decide +kernel
theorem dX7_take_62 : decode cX7_take 62 = .ok (.invokevirtual 146, 3) := by decide +kernel
theorem dX7_take_65 : decode cX7_take 65 = .ok (.aload 4, 2) := by decide +kernel
theorem dX7_take_67 : decode cX7_take 67 = .ok (.invokevirtual 149, 3) := by decide +kernel
theorem dX7_take_70 : decode cX7_take 70 = .ok (.iadd, 1) := by decide +kernel
theorem dX7_take_71 : decode cX7_take 71 = .ok (.aload 4, 2) := by decide +kernel
theorem dX7_take_73 : decode cX7_take 73 = .ok (.getfield 127, 3) := by decide +kernel
theorem dX7_take_76 : decode cX7_take 76 = .ok (.if_icmp .eq 5, 3) := by decide +kernel
theorem dX7_take_79 : decode cX7_take 79 = .ok (.iconst 4, 1) := by decide +kernel
theorem dX7_take_80 : decode cX7_take 80 = .ok (.ireturn, 1) := by decide +kernel
theorem dX7_take_81 : decode cX7_take 81 = .ok (.aload 4, 2) := by decide +kernel
theorem dX7_take_83 : decode cX7_take 83 = .ok (.invokevirtual 152, 3) := by decide +kernel
theorem dX7_take_86 : decode cX7_take 86 = .ok (.aload_n 0, 1) := by decide +kernel
theorem dX7_take_87 : decode cX7_take 87 = .ok (.aload_n 3, 1) := by decide +kernel
theorem dX7_take_88 : decode cX7_take 88 = .ok (.aload 4, 2) := by decide +kernel
theorem dX7_take_90 : decode cX7_take 90 = .ok (.invokevirtual 155, 3) := by decide +kernel
theorem dX7_take_93 : decode cX7_take 93 = .ok (.ifCond .eq 5, 3) := by decide +kernel
theorem dX7_take_96 : decode cX7_take 96 = .ok (.iconst 5, 1) := by decide +kernel
theorem dX7_take_97 : decode cX7_take 97 = .ok (.ireturn, 1) := by decide +kernel
theorem dX7_take_98 : decode cX7_take 98 = .ok (.aload_n 0, 1) := by decide +kernel
theorem dX7_take_99 : decode cX7_take 99 = .ok (.aload_n 3, 1) := by decide +kernel
theorem dX7_take_100 : decode cX7_take 100 = .ok (.aload 4, 2) := by decide +kernel
theorem dX7_take_102 : decode cX7_take 102 = .ok (.invokevirtual 159, 3) := by decide +kernel
theorem dX7_take_105 : decode cX7_take 105 = .ok (.ifCond .eq 6, 3) := by decide +kernel
theorem dX7_take_108 : decode cX7_take 108 = .ok (.bipush 6, 2) := by decide +kernel
theorem dX7_take_110 : decode cX7_take 110 = .ok (.ireturn, 1) := by decide +kernel
theorem dX7_take_111 : decode cX7_take 111 = .ok (.aload_n 3, 1) := by decide +kernel
theorem dX7_take_112 : decode cX7_take 112 = .ok (.iload_n 2, 1) := by decide +kernel
theorem dX7_take_113 : decode cX7_take 113 = .ok (.aload_n 0, 1) := by decide +kernel
theorem dX7_take_114 : decode cX7_take 114 = .ok (.getfield 49, 3) := by decide +kernel
theorem dX7_take_117 : decode cX7_take 117 = .ok (.invokevirtual 162, 3) := by decide +kernel
theorem dX7_take_120 : decode cX7_take 120 = .ok (.iconst 0, 1) := by decide +kernel
theorem dX7_take_121 : decode cX7_take 121 = .ok (.ireturn, 1) := by decide +kernel
theorem dX7_why_0 : decode cX7_why 0 = .ok (.iload_n 1, 1) := by decide +kernel
theorem dX7_why_1 : decode cX7_why 1 = .ok (.tableswitch 42 0 2 #[27, 32, 37], 27) := by decide +kernel
theorem dX7_why_28 : decode cX7_why 28 = .ok (.aload_n 0, 1) := by decide +kernel
theorem dX7_why_29 : decode cX7_why 29 = .ok (.getfield 36, 3) := by decide +kernel
theorem dX7_why_32 : decode cX7_why 32 = .ok (.ireturn, 1) := by decide +kernel
theorem dX7_why_33 : decode cX7_why 33 = .ok (.aload_n 0, 1) := by decide +kernel
theorem dX7_why_34 : decode cX7_why 34 = .ok (.getfield 40, 3) := by decide +kernel
theorem dX7_why_37 : decode cX7_why 37 = .ok (.ireturn, 1) := by decide +kernel
theorem dX7_why_38 : decode cX7_why 38 = .ok (.aload_n 0, 1) := by decide +kernel
theorem dX7_why_39 : decode cX7_why 39 = .ok (.getfield 43, 3) := by decide +kernel
theorem dX7_why_42 : decode cX7_why 42 = .ok (.ireturn, 1) := by decide +kernel
theorem dX7_why_43 : decode cX7_why 43 = .ok (.iconst (-1), 1) := by decide +kernel
theorem dX7_why_44 : decode cX7_why 44 = .ok (.ireturn, 1) := by decide +kernel
theorem dX7_told_0 : decode cX7_told 0 = .ok (.aload_n 0, 1) := by decide +kernel
theorem dX7_told_1 : decode cX7_told 1 = .ok (.iload_n 1, 1) := by decide +kernel
theorem dX7_told_2 : decode cX7_told 2 = .ok (.invokevirtual 165, 3) := by decide +kernel
theorem dX7_told_5 : decode cX7_told 5 = .ok (.astore_n 3, 1) := by decide +kernel
theorem dX7_told_6 : decode cX7_told 6 = .ok (.aload_n 3, 1) := by decide +kernel
theorem dX7_told_7 : decode cX7_told 7 = .ok (.ifnonnull 5, 3) := by decide +kernel
theorem dX7_told_10 : decode cX7_told 10 = .ok (.iconst (-1), 1) := by decide +kernel
theorem dX7_told_11 : decode cX7_told 11 = .ok (.ireturn, 1) := by decide +kernel
theorem dX7_told_12 : decode cX7_told 12 = .ok (.iload_n 2, 1) := by decide +kernel
theorem dX7_told_13 : decode cX7_told 13 = .ok (.tableswitch 51 0 3 #[31, 36, 41, 46], 31) := by decide +kernel
theorem dX7_told_44 : decode cX7_told 44 = .ok (.aload_n 3, 1) := by decide +kernel
theorem dX7_told_45 : decode cX7_told 45 = .ok (.getfield 127, 3) := by decide +kernel
theorem dX7_told_48 : decode cX7_told 48 = .ok (.ireturn, 1) := by decide +kernel
theorem dX7_told_49 : decode cX7_told 49 = .ok (.aload_n 3, 1) := by decide +kernel
theorem dX7_told_50 : decode cX7_told 50 = .ok (.getfield 168, 3) := by decide +kernel
theorem dX7_told_53 : decode cX7_told 53 = .ok (.ireturn, 1) := by decide +kernel
theorem dX7_told_54 : decode cX7_told 54 = .ok (.aload_n 3, 1) := by decide +kernel
theorem dX7_told_55 : decode cX7_told 55 = .ok (.getfield 130, 3) := by decide +kernel
theorem dX7_told_58 : decode cX7_told 58 = .ok (.ireturn, 1) := by decide +kernel
theorem dX7_told_59 : decode cX7_told 59 = .ok (.aload_n 3, 1) := by decide +kernel
theorem dX7_told_60 : decode cX7_told 60 = .ok (.invokevirtual 149, 3) := by decide +kernel
theorem dX7_told_63 : decode cX7_told 63 = .ok (.ireturn, 1) := by decide +kernel
theorem dX7_told_64 : decode cX7_told 64 = .ok (.aload_n 3, 1) := by decide +kernel
theorem dX7_told_65 : decode cX7_told 65 = .ok (.iload_n 2, 1) := by decide +kernel
theorem dX7_told_66 : decode cX7_told 66 = .ok (.bipush 10, 2) := by decide +kernel
theorem dX7_told_68 : decode cX7_told 68 = .ok (.idiv, 1) := by decide +kernel
theorem dX7_told_69 : decode cX7_told 69 = .ok (.iload_n 2, 1) := by decide +kernel
theorem dX7_told_70 : decode cX7_told 70 = .ok (.bipush 10, 2) := by decide +kernel
theorem dX7_told_72 : decode cX7_told 72 = .ok (.irem, 1) := by decide +kernel
theorem dX7_told_73 : decode cX7_told 73 = .ok (.invokevirtual 171, 3) := by decide +kernel
theorem dX7_told_76 : decode cX7_told 76 = .ok (.ireturn, 1) := by decide +kernel
theorem dX7_offset_0 : decode cX7_offset 0 = .ok (.aload_n 0, 1) := by decide +kernel
theorem dX7_offset_1 : decode cX7_offset 1 = .ok (.iload_n 1, 1) := by decide +kernel
theorem dX7_offset_2 : decode cX7_offset 2 = .ok (.invokevirtual 53, 3) := by decide +kernel
theorem dX7_offset_5 : decode cX7_offset 5 = .ok (.astore_n 3, 1) := by decide +kernel
theorem dX7_offset_6 : decode cX7_offset 6 = .ok (.aload_n 0, 1) := by decide +kernel
theorem dX7_offset_7 : decode cX7_offset 7 = .ok (.iload_n 1, 1) := by decide +kernel
theorem dX7_offset_8 : decode cX7_offset 8 = .ok (.invokevirtual 165, 3) := by decide +kernel
theorem dX7_offset_11 : decode cX7_offset 11 = .ok (.astore 4, 2) := by decide +kernel
theorem dX7_offset_13 : decode cX7_offset 13 = .ok (.aload_n 3, 1) := by decide +kernel
theorem dX7_offset_14 : decode cX7_offset 14 = .ok (.ifnull 32, 3) := by decide +kernel
theorem dX7_offset_17 : decode cX7_offset 17 = .ok (.aload 4, 2) := by decide +kernel
theorem dX7_offset_19 : decode cX7_offset 19 = .ok (.ifnull 27, 3) := by decide +kernel
theorem dX7_offset_22 : decode cX7_offset 22 = .ok (.iload_n 2, 1) := by decide +kernel
theorem dX7_offset_23 : decode cX7_offset 23 = .ok (.iconst 0, 1) := by decide +kernel
theorem dX7_offset_24 : decode cX7_offset 24 = .ok (.aload 4, 2) := by decide +kernel
theorem dX7_offset_26 : decode cX7_offset 26 = .ok (.getfield 127, 3) := by decide +kernel
theorem dX7_offset_29 : decode cX7_offset 29 = .ok (.iconst 1, 1) := by decide +kernel
theorem dX7_offset_30 : decode cX7_offset 30 = .ok (.isub, 1) := by decide +kernel
theorem dX7_offset_31 : decode cX7_offset 31 = .ok (.invokestatic 64, 3) := by decide +kernel
theorem dX7_offset_34 : decode cX7_offset 34 = .ok (.ifCond .ne 12, 3) := by decide +kernel
theorem dX7_offset_37 : decode cX7_offset 37 = .ok (.iload_n 2, 1) := by decide +kernel
theorem dX7_offset_38 : decode cX7_offset 38 = .ok (.aload 4, 2) := by decide +kernel
theorem dX7_offset_40 : decode cX7_offset 40 = .ok (.getfield 168, 3) := by decide +kernel
theorem dX7_offset_43 : decode cX7_offset 43 = .ok (.if_icmp .ne 5, 3) := by decide +kernel
theorem dX7_offset_46 : decode cX7_offset 46 = .ok (.iconst 0, 1) := by decide +kernel
theorem dX7_offset_47 : decode cX7_offset 47 = .ok (.ireturn, 1) := by decide +kernel
theorem dX7_offset_48 : decode cX7_offset 48 = .ok (.aload 4, 2) := by decide +kernel
theorem dX7_offset_50 : decode cX7_offset 50 = .ok (.iload_n 2, 1) := by decide +kernel
theorem dX7_offset_51 : decode cX7_offset 51 = .ok (.putfield 168, 3) := by decide +kernel
theorem dX7_offset_54 : decode cX7_offset 54 = .ok (.aload_n 3, 1) := by decide +kernel
theorem dX7_offset_55 : decode cX7_offset 55 = .ok (.aload_n 0, 1) := by decide +kernel
theorem dX7_offset_56 : decode cX7_offset 56 = .ok (.getfield 49, 3) := by decide +kernel
theorem dX7_offset_59 : decode cX7_offset 59 = .ok (.invokevirtual 175, 3) := by decide +kernel
theorem dX7_offset_62 : decode cX7_offset 62 = .ok (.iconst 1, 1) := by decide +kernel
theorem dX7_offset_63 : decode cX7_offset 63 = .ok (.ireturn, 1) := by decide +kernel
theorem dX7_tear_0 : decode cX7_tear 0 = .ok (.aload_n 0, 1) := by decide +kernel
theorem dX7_tear_1 : decode cX7_tear 1 = .ok (.iload_n 1, 1) := by decide +kernel
theorem dX7_tear_2 : decode cX7_tear 2 = .ok (.invokevirtual 165, 3) := by decide +kernel
theorem dX7_tear_5 : decode cX7_tear 5 = .ok (.astore_n 3, 1) := by decide +kernel
theorem dX7_tear_6 : decode cX7_tear 6 = .ok (.aload_n 3, 1) := by decide +kernel
theorem dX7_tear_7 : decode cX7_tear 7 = .ok (.ifnull 15, 3) := by decide +kernel
theorem dX7_tear_10 : decode cX7_tear 10 = .ok (.iload_n 2, 1) := by decide +kernel
theorem dX7_tear_11 : decode cX7_tear 11 = .ok (.iconst 0, 1) := by decide +kernel
theorem dX7_tear_12 : decode cX7_tear 12 = .ok (.aload_n 3, 1) := by decide +kernel
theorem dX7_tear_13 : decode cX7_tear 13 = .ok (.getfield 130, 3) := by decide +kernel
theorem dX7_tear_16 : decode cX7_tear 16 = .ok (.invokestatic 64, 3) := by decide +kernel
theorem dX7_tear_19 : decode cX7_tear 19 = .ok (.ifCond .eq 5, 3) := by decide +kernel
theorem dX7_tear_22 : decode cX7_tear 22 = .ok (.iconst 0, 1) := by decide +kernel
theorem dX7_tear_23 : decode cX7_tear 23 = .ok (.ireturn, 1) := by decide +kernel
theorem dX7_tear_24 : decode cX7_tear 24 = .ok (.aload_n 3, 1) := by decide +kernel
theorem dX7_tear_25 : decode cX7_tear 25 = .ok (.aload_n 3, 1) := by decide +kernel
theorem dX7_tear_26 : decode cX7_tear 26 = .ok (.getfield 179, 3) := by decide +kernel
theorem dX7_tear_29 : decode cX7_tear 29 = .ok (.iload_n 2, 1) := by decide +kernel
theorem dX7_tear_30 : decode cX7_tear 30 = .ok (.invokestatic 182, 3) := by decide +kernel
theorem dX7_tear_33 : decode cX7_tear 33 = .ok (.putfield 179, 3) := by decide +kernel
theorem dX7_tear_36 : decode cX7_tear 36 = .ok (.iconst 1, 1) := by decide +kernel
theorem dX7_tear_37 : decode cX7_tear 37 = .ok (.ireturn, 1) := by decide +kernel
theorem dX7_share_0 : decode cX7_share 0 = .ok (.aload_n 0, 1) := by decide +kernel
theorem dX7_share_1 : decode cX7_share 1 = .ok (.iload_n 1, 1) := by decide +kernel
theorem dX7_share_2 : decode cX7_share 2 = .ok (.invokevirtual 53, 3) := by decide +kernel
theorem dX7_share_5 : decode cX7_share 5 = .ok (.astore_n 2, 1) := by decide +kernel
theorem dX7_share_6 : decode cX7_share 6 = .ok (.aload_n 0, 1) := by decide +kernel
theorem dX7_share_7 : decode cX7_share 7 = .ok (.iload_n 1, 1) := by decide +kernel
theorem dX7_share_8 : decode cX7_share 8 = .ok (.invokevirtual 133, 3) := by decide +kernel
theorem dX7_share_11 : decode cX7_share 11 = .ok (.astore_n 3, 1) := by decide +kernel
theorem dX7_share_12 : decode cX7_share 12 = .ok (.aload_n 2, 1) := by decide +kernel
theorem dX7_share_13 : decode cX7_share 13 = .ok (.ifnull 15, 3) := by decide +kernel
theorem dX7_share_16 : decode cX7_share 16 = .ok (.aload_n 3, 1) := by decide +kernel
theorem dX7_share_17 : decode cX7_share 17 = .ok (.ifnull 11, 3) := by decide +kernel
theorem dX7_share_20 : decode cX7_share 20 = .ok (.aload_n 3, 1) := by decide +kernel
theorem dX7_share_21 : decode cX7_share 21 = .ok (.getfield 130, 3) := by decide +kernel
theorem dX7_share_24 : decode cX7_share 24 = .ok (.iconst 2, 1) := by decide +kernel
theorem dX7_share_25 : decode cX7_share 25 = .ok (.if_icmp .ge 5, 3) := by decide +kernel
theorem dX7_share_28 : decode cX7_share 28 = .ok (.iconst (-1), 1) := by decide +kernel
theorem dX7_share_29 : decode cX7_share 29 = .ok (.ireturn, 1) := by decide +kernel
theorem dX7_share_30 : decode cX7_share 30 = .ok (.aload_n 0, 1) := by decide +kernel
theorem dX7_share_31 : decode cX7_share 31 = .ok (.getfield 25, 3) := by decide +kernel
theorem dX7_share_34 : decode cX7_share 34 = .ok (.aload_n 2, 1) := by decide +kernel
theorem dX7_share_35 : decode cX7_share 35 = .ok (.aload_n 3, 1) := by decide +kernel
theorem dX7_share_36 : decode cX7_share 36 = .ok (.invokevirtual 187, 3) := by decide +kernel
theorem dX7_share_39 : decode cX7_share 39 = .ok (.ireturn, 1) := by decide +kernel
theorem dX7_fit_0 : decode cX7_fit 0 = .ok (.aload_n 0, 1) := by decide +kernel
theorem dX7_fit_1 : decode cX7_fit 1 = .ok (.iload_n 1, 1) := by decide +kernel
theorem dX7_fit_2 : decode cX7_fit 2 = .ok (.invokevirtual 53, 3) := by decide +kernel
theorem dX7_fit_5 : decode cX7_fit 5 = .ok (.astore_n 3, 1) := by decide +kernel
theorem dX7_fit_6 : decode cX7_fit 6 = .ok (.aload_n 0, 1) := by decide +kernel
theorem dX7_fit_7 : decode cX7_fit 7 = .ok (.iload_n 1, 1) := by decide +kernel
theorem dX7_fit_8 : decode cX7_fit 8 = .ok (.invokevirtual 133, 3) := by decide +kernel
theorem dX7_fit_11 : decode cX7_fit 11 = .ok (.astore 4, 2) := by decide +kernel
theorem dX7_fit_13 : decode cX7_fit 13 = .ok (.aload_n 3, 1) := by decide +kernel
theorem dX7_fit_14 : decode cX7_fit 14 = .ok (.ifnull 43, 3) := by decide +kernel
theorem dX7_fit_17 : decode cX7_fit 17 = .ok (.aload 4, 2) := by decide +kernel
theorem dX7_fit_19 : decode cX7_fit 19 = .ok (.ifnull 38, 3) := by decide +kernel
theorem dX7_fit_22 : decode cX7_fit 22 = .ok (.aload 4, 2) := by decide +kernel
theorem dX7_fit_24 : decode cX7_fit 24 = .ok (.getfield 130, 3) := by decide +kernel
theorem dX7_fit_27 : decode cX7_fit 27 = .ok (.iconst 2, 1) := by decide +kernel
theorem dX7_fit_28 : decode cX7_fit 28 = .ok (.if_icmp .lt 29, 3) := by decide +kernel
theorem dX7_fit_31 : decode cX7_fit 31 = .ok (.iload_n 2, 1) := by decide +kernel
theorem dX7_fit_32 : decode cX7_fit 32 = .ok (.bipush 20, 2) := by decide +kernel
theorem dX7_fit_34 : decode cX7_fit 34 = .ok (.bipush 90, 2) := by decide +kernel
theorem dX7_fit_36 : decode cX7_fit 36 = .ok (.invokestatic 64, 3) := by decide +kernel
theorem dX7_fit_39 : decode cX7_fit 39 = .ok (.ifCond .ne 18, 3) := by decide +kernel
theorem dX7_fit_42 : decode cX7_fit 42 = .ok (.iload_n 2, 1) := by decide +kernel
theorem dX7_fit_43 : decode cX7_fit 43 = .ok (.aload 4, 2) := by decide +kernel
theorem dX7_fit_45 : decode cX7_fit 45 = .ok (.invokevirtual 149, 3) := by decide +kernel
theorem dX7_fit_48 : decode cX7_fit 48 = .ok (.isub, 1) := by decide +kernel
theorem dX7_fit_49 : decode cX7_fit 49 = .ok (.aload 4, 2) := by decide +kernel
theorem dX7_fit_51 : decode cX7_fit 51 = .ok (.getfield 130, 3) := by decide +kernel
theorem dX7_fit_54 : decode cX7_fit 54 = .ok (.if_icmp .ge 5, 3) := by decide +kernel
theorem dX7_fit_57 : decode cX7_fit 57 = .ok (.iconst 0, 1) := by decide +kernel
theorem dX7_fit_58 : decode cX7_fit 58 = .ok (.ireturn, 1) := by decide +kernel
theorem dX7_fit_59 : decode cX7_fit 59 = .ok (.aload_n 0, 1) := by decide +kernel
theorem dX7_fit_60 : decode cX7_fit 60 = .ok (.getfield 25, 3) := by decide +kernel
theorem dX7_fit_63 : decode cX7_fit 63 = .ok (.aload_n 3, 1) := by decide +kernel
theorem dX7_fit_64 : decode cX7_fit 64 = .ok (.aload 4, 2) := by decide +kernel
theorem dX7_fit_66 : decode cX7_fit 66 = .ok (.iload_n 2, 1) := by decide +kernel
theorem dX7_fit_67 : decode cX7_fit 67 = .ok (.aload 4, 2) := by decide +kernel
theorem dX7_fit_69 : decode cX7_fit 69 = .ok (.invokevirtual 149, 3) := by decide +kernel
theorem dX7_fit_72 : decode cX7_fit 72 = .ok (.isub, 1) := by decide +kernel
theorem dX7_fit_73 : decode cX7_fit 73 = .ok (.invokevirtual 191, 3) := by decide +kernel
theorem dX7_fit_76 : decode cX7_fit 76 = .ok (.iconst 0, 1) := by decide +kernel
theorem dX7_fit_77 : decode cX7_fit 77 = .ok (.istore 5, 2) := by decide +kernel
theorem dX7_fit_79 : decode cX7_fit 79 = .ok (.iload 5, 2) := by decide +kernel
theorem dX7_fit_81 : decode cX7_fit 81 = .ok (.aload 4, 2) := by decide +kernel
theorem dX7_fit_83 : decode cX7_fit 83 = .ok (.getfield 130, 3) := by decide +kernel
theorem dX7_fit_86 : decode cX7_fit 86 = .ok (.if_icmp .ge 27, 3) := by decide +kernel
theorem dX7_fit_89 : decode cX7_fit 89 = .ok (.aload 4, 2) := by decide +kernel
theorem dX7_fit_91 : decode cX7_fit 91 = .ok (.getfield 195, 3) := by decide +kernel
theorem dX7_fit_94 : decode cX7_fit 94 = .ok (.iload 5, 2) := by decide +kernel
theorem dX7_fit_96 : decode cX7_fit 96 = .ok (.aload_n 0, 1) := by decide +kernel
theorem dX7_fit_97 : decode cX7_fit 97 = .ok (.getfield 25, 3) := by decide +kernel
theorem dX7_fit_100 : decode cX7_fit 100 = .ok (.getfield 199, 3) := by decide +kernel
theorem dX7_fit_103 : decode cX7_fit 103 = .ok (.iload 5, 2) := by decide +kernel
theorem dX7_fit_105 : decode cX7_fit 105 = .ok (.iaload, 1) := by decide +kernel
theorem dX7_fit_106 : decode cX7_fit 106 = .ok (.iastore, 1) := by decide +kernel
theorem dX7_fit_107 : decode cX7_fit 107 = .ok (.iinc 5 1, 3) := by decide +kernel
theorem dX7_fit_110 : decode cX7_fit 110 = .ok (.goto (-31), 3) := by decide +kernel
theorem dX7_fit_113 : decode cX7_fit 113 = .ok (.aload 4, 2) := by decide +kernel
theorem dX7_fit_115 : decode cX7_fit 115 = .ok (.iload_n 2, 1) := by decide +kernel
theorem dX7_fit_116 : decode cX7_fit 116 = .ok (.putfield 127, 3) := by decide +kernel
theorem dX7_fit_119 : decode cX7_fit 119 = .ok (.iconst 1, 1) := by decide +kernel
theorem dX7_fit_120 : decode cX7_fit 120 = .ok (.ireturn, 1) := by decide +kernel
theorem dX7_green_0 : decode cX7_green 0 = .ok (.aload_n 0, 1) := by decide +kernel
theorem dX7_green_1 : decode cX7_green 1 = .ok (.iload_n 1, 1) := by decide +kernel
theorem dX7_green_2 : decode cX7_green 2 = .ok (.invokevirtual 133, 3) := by decide +kernel
theorem dX7_green_5 : decode cX7_green 5 = .ok (.astore_n 3, 1) := by decide +kernel
theorem dX7_green_6 : decode cX7_green 6 = .ok (.aload_n 3, 1) := by decide +kernel
theorem dX7_green_7 : decode cX7_green 7 = .ok (.ifnull 17, 3) := by decide +kernel
theorem dX7_green_10 : decode cX7_green 10 = .ok (.iload_n 2, 1) := by decide +kernel
theorem dX7_green_11 : decode cX7_green 11 = .ok (.iconst 0, 1) := by decide +kernel
theorem dX7_green_12 : decode cX7_green 12 = .ok (.aload_n 3, 1) := by decide +kernel
theorem dX7_green_13 : decode cX7_green 13 = .ok (.getfield 130, 3) := by decide +kernel
theorem dX7_green_16 : decode cX7_green 16 = .ok (.iconst 1, 1) := by decide +kernel
theorem dX7_green_17 : decode cX7_green 17 = .ok (.isub, 1) := by decide +kernel
theorem dX7_green_18 : decode cX7_green 18 = .ok (.invokestatic 64, 3) := by decide +kernel
theorem dX7_green_21 : decode cX7_green 21 = .ok (.ifCond .eq 7, 3) := by decide +kernel
theorem dX7_green_24 : decode cX7_green 24 = .ok (.iconst (-1), 1) := by decide +kernel
theorem dX7_green_25 : decode cX7_green 25 = .ok (.goto 9, 3) := by decide +kernel
theorem dX7_green_28 : decode cX7_green 28 = .ok (.aload_n 3, 1) := by decide +kernel
theorem dX7_green_29 : decode cX7_green 29 = .ok (.getfield 195, 3) := by decide +kernel
theorem dX7_green_32 : decode cX7_green 32 = .ok (.iload_n 2, 1) := by decide +kernel
theorem dX7_green_33 : decode cX7_green 33 = .ok (.iaload, 1) := by decide +kernel
theorem dX7_green_34 : decode cX7_green 34 = .ok (.ireturn, 1) := by decide +kernel
theorem dX7_lamp_0 : decode cX7_lamp 0 = .ok (.aload_n 0, 1) := by decide +kernel
theorem dX7_lamp_1 : decode cX7_lamp 1 = .ok (.iload_n 1, 1) := by decide +kernel
theorem dX7_lamp_2 : decode cX7_lamp 2 = .ok (.invokevirtual 53, 3) := by decide +kernel
theorem dX7_lamp_5 : decode cX7_lamp 5 = .ok (.astore 4, 2) := by decide +kernel
theorem dX7_lamp_7 : decode cX7_lamp 7 = .ok (.aload 4, 2) := by decide +kernel
theorem dX7_lamp_9 : decode cX7_lamp 9 = .ok (.ifnull 22, 3) := by decide +kernel
theorem dX7_lamp_12 : decode cX7_lamp 12 = .ok (.aload 4, 2) := by decide +kernel
theorem dX7_lamp_14 : decode cX7_lamp 14 = .ok (.iload_n 2, 1) := by decide +kernel
theorem dX7_lamp_15 : decode cX7_lamp 15 = .ok (.invokevirtual 77, 3) := by decide +kernel
theorem dX7_lamp_18 : decode cX7_lamp 18 = .ok (.ifnull 13, 3) := by decide +kernel
theorem dX7_lamp_21 : decode cX7_lamp 21 = .ok (.iload_n 3, 1) := by decide +kernel
theorem dX7_lamp_22 : decode cX7_lamp 22 = .ok (.iconst 0, 1) := by decide +kernel
theorem dX7_lamp_23 : decode cX7_lamp 23 = .ok (.ldc 202, 2) := by decide +kernel
theorem dX7_lamp_25 : decode cX7_lamp 25 = .ok (.invokestatic 64, 3) := by decide +kernel
theorem dX7_lamp_28 : decode cX7_lamp 28 = .ok (.ifCond .eq 5, 3) := by decide +kernel
theorem dX7_lamp_31 : decode cX7_lamp 31 = .ok (.iconst (-1), 1) := by decide +kernel
theorem dX7_lamp_32 : decode cX7_lamp 32 = .ok (.ireturn, 1) := by decide +kernel
theorem dX7_lamp_33 : decode cX7_lamp 33 = .ok (.aload 4, 2) := by decide +kernel
theorem dX7_lamp_35 : decode cX7_lamp 35 = .ok (.getfield 203, 3) := by decide +kernel
theorem dX7_lamp_38 : decode cX7_lamp 38 = .ok (.ifnull 20, 3) := by decide +kernel
theorem dX7_lamp_41 : decode cX7_lamp 41 = .ok (.aload 4, 2) := by decide +kernel
theorem dX7_lamp_43 : decode cX7_lamp 43 = .ok (.getfield 203, 3) := by decide +kernel
theorem dX7_lamp_46 : decode cX7_lamp 46 = .ok (.iload_n 2, 1) := by decide +kernel
theorem dX7_lamp_47 : decode cX7_lamp 47 = .ok (.iload_n 3, 1) := by decide +kernel
theorem dX7_lamp_48 : decode cX7_lamp 48 = .ok (.invokevirtual 206, 3) := by decide +kernel
theorem dX7_lamp_51 : decode cX7_lamp 51 = .ok (.ifCond .eq 7, 3) := by decide +kernel
theorem dX7_lamp_54 : decode cX7_lamp 54 = .ok (.iconst 1, 1) := by decide +kernel
theorem dX7_lamp_55 : decode cX7_lamp 55 = .ok (.goto 4, 3) := by decide +kernel
theorem dX7_lamp_58 : decode cX7_lamp 58 = .ok (.iconst 0, 1) := by decide +kernel
theorem dX7_lamp_59 : decode cX7_lamp 59 = .ok (.ireturn, 1) := by decide +kernel
theorem dX7_run_0 : decode cX7_run 0 = .ok (.iload_n 1, 1) := by decide +kernel
theorem dX7_run_1 : decode cX7_run 1 = .ok (.iconst 0, 1) := by decide +kernel
theorem dX7_run_2 : decode cX7_run 2 = .ok (.sipush 300, 3) := by decide +kernel
theorem dX7_run_5 : decode cX7_run 5 = .ok (.invokestatic 64, 3) := by decide +kernel
theorem dX7_run_8 : decode cX7_run 8 = .ok (.ifCond .ne 14, 3) := by decide +kernel
theorem dX7_run_11 : decode cX7_run 11 = .ok (.aload_n 0, 1) := by decide +kernel
theorem dX7_run_12 : decode cX7_run 12 = .ok (.getfield 49, 3) := by decide +kernel
theorem dX7_run_15 : decode cX7_run 15 = .ok (.iload_n 1, 1) := by decide +kernel
theorem dX7_run_16 : decode cX7_run 16 = .ok (.iadd, 1) := by decide +kernel
theorem dX7_run_17 : decode cX7_run 17 = .ok (.ldc 209, 2) := by decide +kernel
theorem dX7_run_19 : decode cX7_run 19 = .ok (.if_icmp .le 5, 3) := by decide +kernel
theorem dX7_run_22 : decode cX7_run 22 = .ok (.iconst (-1), 1) := by decide +kernel
theorem dX7_run_23 : decode cX7_run 23 = .ok (.ireturn, 1) := by decide +kernel
theorem dX7_run_24 : decode cX7_run 24 = .ok (.iconst 0, 1) := by decide +kernel
theorem dX7_run_25 : decode cX7_run 25 = .ok (.istore_n 2, 1) := by decide +kernel
theorem dX7_run_26 : decode cX7_run 26 = .ok (.iload_n 2, 1) := by decide +kernel
theorem dX7_run_27 : decode cX7_run 27 = .ok (.iload_n 1, 1) := by decide +kernel
theorem dX7_run_28 : decode cX7_run 28 = .ok (.if_icmp .ge 48, 3) := by decide +kernel
theorem dX7_run_31 : decode cX7_run 31 = .ok (.iconst 0, 1) := by decide +kernel
theorem dX7_run_32 : decode cX7_run 32 = .ok (.istore_n 3, 1) := by decide +kernel
theorem dX7_run_33 : decode cX7_run 33 = .ok (.iload_n 3, 1) := by decide +kernel
theorem dX7_run_34 : decode cX7_run 34 = .ok (.aload_n 0, 1) := by decide +kernel
theorem dX7_run_35 : decode cX7_run 35 = .ok (.getfield 46, 3) := by decide +kernel
theorem dX7_run_38 : decode cX7_run 38 = .ok (.if_icmp .ge 22, 3) := by decide +kernel
theorem dX7_run_41 : decode cX7_run 41 = .ok (.aload_n 0, 1) := by decide +kernel
theorem dX7_run_42 : decode cX7_run 42 = .ok (.getfield 11, 3) := by decide +kernel
theorem dX7_run_45 : decode cX7_run 45 = .ok (.iload_n 3, 1) := by decide +kernel
theorem dX7_run_46 : decode cX7_run 46 = .ok (.aaload, 1) := by decide +kernel
theorem dX7_run_47 : decode cX7_run 47 = .ok (.aload_n 0, 1) := by decide +kernel
theorem dX7_run_48 : decode cX7_run 48 = .ok (.getfield 49, 3) := by decide +kernel
theorem dX7_run_51 : decode cX7_run 51 = .ok (.invokevirtual 210, 3) := by decide +kernel
theorem dX7_run_54 : decode cX7_run 54 = .ok (.iinc 3 1, 3) := by decide +kernel
theorem dX7_run_57 : decode cX7_run 57 = .ok (.goto (-24), 3) := by decide +kernel
theorem dX7_run_60 : decode cX7_run 60 = .ok (.aload_n 0, 1) := by decide +kernel
theorem dX7_run_61 : decode cX7_run 61 = .ok (.dup, 1) := by decide +kernel
theorem dX7_run_62 : decode cX7_run 62 = .ok (.getfield 49, 3) := by decide +kernel
theorem dX7_run_65 : decode cX7_run 65 = .ok (.iconst 1, 1) := by decide +kernel
theorem dX7_run_66 : decode cX7_run 66 = .ok (.iadd, 1) := by decide +kernel
theorem dX7_run_67 : decode cX7_run 67 = .ok (.putfield 49, 3) := by decide +kernel
theorem dX7_run_70 : decode cX7_run 70 = .ok (.iinc 2 1, 3) := by decide +kernel
theorem dX7_run_73 : decode cX7_run 73 = .ok (.goto (-47), 3) := by decide +kernel
theorem dX7_run_76 : decode cX7_run 76 = .ok (.aload_n 0, 1) := by decide +kernel
theorem dX7_run_77 : decode cX7_run 77 = .ok (.getfield 49, 3) := by decide +kernel
theorem dX7_run_80 : decode cX7_run 80 = .ok (.ireturn, 1) := by decide +kernel
theorem dX7_queue_0 : decode cX7_queue 0 = .ok (.aload_n 0, 1) := by decide +kernel
theorem dX7_queue_1 : decode cX7_queue 1 = .ok (.iload_n 1, 1) := by decide +kernel
theorem dX7_queue_2 : decode cX7_queue 2 = .ok (.invokevirtual 53, 3) := by decide +kernel
theorem dX7_queue_5 : decode cX7_queue 5 = .ok (.astore 4, 2) := by decide +kernel
theorem dX7_queue_7 : decode cX7_queue 7 = .ok (.aload_n 0, 1) := by decide +kernel
theorem dX7_queue_8 : decode cX7_queue 8 = .ok (.iload_n 1, 1) := by decide +kernel
theorem dX7_queue_9 : decode cX7_queue 9 = .ok (.iload_n 2, 1) := by decide +kernel
theorem dX7_queue_10 : decode cX7_queue 10 = .ok (.invokevirtual 92, 3) := by decide +kernel
theorem dX7_queue_13 : decode cX7_queue 13 = .ok (.astore 5, 2) := by decide +kernel
theorem dX7_queue_15 : decode cX7_queue 15 = .ok (.aload 4, 2) := by decide +kernel
theorem dX7_queue_17 : decode cX7_queue 17 = .ok (.ifnull 8, 3) := by decide +kernel
theorem dX7_queue_20 : decode cX7_queue 20 = .ok (.aload 5, 2) := by decide +kernel
theorem dX7_queue_22 : decode cX7_queue 22 = .ok (.ifnonnull 7, 3) := by decide +kernel
theorem dX7_queue_25 : decode cX7_queue 25 = .ok (.ldc2_w 213, 3) := by decide +kernel
theorem dX7_queue_28 : decode cX7_queue 28 = .ok (.lreturn, 1) := by decide +kernel
theorem dX7_queue_29 : decode cX7_queue 29 = .ok (.iload_n 3, 1) := by decide +kernel
theorem dX7_queue_30 : decode cX7_queue 30 = .ok (.bipush 11, 2) := by decide +kernel
theorem dX7_queue_32 : decode cX7_queue 32 = .ok (.if_icmp .ne 16, 3) := by decide +kernel
theorem dX7_queue_35 : decode cX7_queue 35 = .ok (.aload 4, 2) := by decide +kernel
theorem dX7_queue_37 : decode cX7_queue 37 = .ok (.getfield 215, 3) := by decide +kernel
theorem dX7_queue_40 : decode cX7_queue 40 = .ok (.iload_n 2, 1) := by decide +kernel
theorem dX7_queue_41 : decode cX7_queue 41 = .ok (.ishr, 1) := by decide +kernel
theorem dX7_queue_42 : decode cX7_queue 42 = .ok (.iconst 1, 1) := by decide +kernel
theorem dX7_queue_43 : decode cX7_queue 43 = .ok (.iand, 1) := by decide +kernel
theorem dX7_queue_44 : decode cX7_queue 44 = .ok (.i2l, 1) := by decide +kernel
theorem dX7_queue_45 : decode cX7_queue 45 = .ok (.goto 9, 3) := by decide +kernel
theorem dX7_queue_48 : decode cX7_queue 48 = .ok (.aload 5, 2) := by decide +kernel
theorem dX7_queue_50 : decode cX7_queue 50 = .ok (.iload_n 3, 1) := by decide +kernel
theorem dX7_queue_51 : decode cX7_queue 51 = .ok (.invokevirtual 218, 3) := by decide +kernel
theorem dX7_queue_54 : decode cX7_queue 54 = .ok (.lreturn, 1) := by decide +kernel
theorem dX7_count_0 : decode cX7_count 0 = .ok (.iload_n 1, 1) := by decide +kernel
theorem dX7_count_1 : decode cX7_count 1 = .ok (.tableswitch 42 0 2 #[27, 32, 37], 27) := by decide +kernel
theorem dX7_count_28 : decode cX7_count 28 = .ok (.aload_n 0, 1) := by decide +kernel
theorem dX7_count_29 : decode cX7_count 29 = .ok (.getfield 46, 3) := by decide +kernel
theorem dX7_count_32 : decode cX7_count 32 = .ok (.ireturn, 1) := by decide +kernel
theorem dX7_count_33 : decode cX7_count 33 = .ok (.aload_n 0, 1) := by decide +kernel
theorem dX7_count_34 : decode cX7_count 34 = .ok (.getfield 49, 3) := by decide +kernel
theorem dX7_count_37 : decode cX7_count 37 = .ok (.ireturn, 1) := by decide +kernel
theorem dX7_count_38 : decode cX7_count 38 = .ok (.aload_n 0, 1) := by decide +kernel
theorem dX7_count_39 : decode cX7_count 39 = .ok (.invokevirtual 222, 3) := by decide +kernel
theorem dX7_count_42 : decode cX7_count 42 = .ok (.ireturn, 1) := by decide +kernel
theorem dX7_count_43 : decode cX7_count 43 = .ok (.iconst (-1), 1) := by decide +kernel
theorem dX7_count_44 : decode cX7_count 44 = .ok (.ireturn, 1) := by decide +kernel
theorem dX7_flashes_0 : decode cX7_flashes 0 = .ok (.aload_n 0, 1) := by decide +kernel
theorem dX7_flashes_1 : decode cX7_flashes 1 = .ok (.iload_n 1, 1) := by decide +kernel
theorem dX7_flashes_2 : decode cX7_flashes 2 = .ok (.invokevirtual 53, 3) := by decide +kernel
theorem dX7_flashes_5 : decode cX7_flashes 5 = .ok (.astore_n 2, 1) := by decide +kernel
theorem dX7_flashes_6 : decode cX7_flashes 6 = .ok (.aload_n 2, 1) := by decide +kernel
theorem dX7_flashes_7 : decode cX7_flashes 7 = .ok (.ifnull 14, 3) := by decide +kernel
theorem dX7_flashes_10 : decode cX7_flashes 10 = .ok (.aload_n 2, 1) := by decide +kernel
theorem dX7_flashes_11 : decode cX7_flashes 11 = .ok (.getfield 225, 3) := by decide +kernel
theorem dX7_flashes_14 : decode cX7_flashes 14 = .ok (.ifCond .eq 7, 3) := by decide +kernel
theorem dX7_flashes_17 : decode cX7_flashes 17 = .ok (.iconst 1, 1) := by decide +kernel
theorem dX7_flashes_18 : decode cX7_flashes 18 = .ok (.goto 4, 3) := by decide +kernel
theorem dX7_flashes_21 : decode cX7_flashes 21 = .ok (.iconst 0, 1) := by decide +kernel
theorem dX7_flashes_22 : decode cX7_flashes 22 = .ok (.ireturn, 1) := by decide +kernel
theorem dX7_width_0 : decode cX7_width 0 = .ok (.iload 8, 2) := by decide +kernel
theorem dX7_width_2 : decode cX7_width 2 = .ok (.iconst 0, 1) := by decide +kernel
theorem dX7_width_3 : decode cX7_width 3 = .ok (.iconst 1, 1) := by decide +kernel
theorem dX7_width_4 : decode cX7_width 4 = .ok (.invokestatic 64, 3) := by decide +kernel
theorem dX7_width_7 : decode cX7_width 7 = .ok (.ifCond .ne 21, 3) := by decide +kernel
theorem dX7_width_10 : decode cX7_width 10 = .ok (.aload_n 0, 1) := by decide +kernel
theorem dX7_width_11 : decode cX7_width 11 = .ok (.iload_n 1, 1) := by decide +kernel
theorem dX7_width_12 : decode cX7_width 12 = .ok (.iload_n 2, 1) := by decide +kernel
theorem dX7_width_13 : decode cX7_width 13 = .ok (.iload_n 3, 1) := by decide +kernel
theorem dX7_width_14 : decode cX7_width 14 = .ok (.iload 4, 2) := by decide +kernel
theorem dX7_width_16 : decode cX7_width 16 = .ok (.iload 5, 2) := by decide +kernel
theorem dX7_width_18 : decode cX7_width 18 = .ok (.iload 6, 2) := by decide +kernel
theorem dX7_width_20 : decode cX7_width 20 = .ok (.iload 7, 2) := by decide +kernel
theorem dX7_width_22 : decode cX7_width 22 = .ok (.invokevirtual 228, 3) := by decide +kernel
theorem dX7_width_25 : decode cX7_width 25 = .ok (.ifCond .ne 5, 3) := by decide +kernel
theorem dX7_width_28 : decode cX7_width 28 = .ok (.iconst (-1), 1) := by decide +kernel
theorem dX7_width_29 : decode cX7_width 29 = .ok (.ireturn, 1) := by decide +kernel
theorem dX7_width_30 : decode cX7_width 30 = .ok (.aload_n 0, 1) := by decide +kernel
theorem dX7_width_31 : decode cX7_width 31 = .ok (.getfield 32, 3) := by decide +kernel
theorem dX7_width_34 : decode cX7_width 34 = .ok (.iload 8, 2) := by decide +kernel
theorem dX7_width_36 : decode cX7_width 36 = .ok (.invokevirtual 232, 3) := by decide +kernel
theorem dX7_width_39 : decode cX7_width 39 = .ok (.ireturn, 1) := by decide +kernel
theorem dX7_wave_0 : decode cX7_wave 0 = .ok (.iload 8, 2) := by decide +kernel
theorem dX7_wave_2 : decode cX7_wave 2 = .ok (.iconst 0, 1) := by decide +kernel
theorem dX7_wave_3 : decode cX7_wave 3 = .ok (.iconst 2, 1) := by decide +kernel
theorem dX7_wave_4 : decode cX7_wave 4 = .ok (.invokestatic 64, 3) := by decide +kernel
theorem dX7_wave_7 : decode cX7_wave 7 = .ok (.ifCond .ne 21, 3) := by decide +kernel
theorem dX7_wave_10 : decode cX7_wave 10 = .ok (.aload_n 0, 1) := by decide +kernel
theorem dX7_wave_11 : decode cX7_wave 11 = .ok (.iload_n 1, 1) := by decide +kernel
theorem dX7_wave_12 : decode cX7_wave 12 = .ok (.iload_n 2, 1) := by decide +kernel
theorem dX7_wave_13 : decode cX7_wave 13 = .ok (.iload_n 3, 1) := by decide +kernel
theorem dX7_wave_14 : decode cX7_wave 14 = .ok (.iload 4, 2) := by decide +kernel
theorem dX7_wave_16 : decode cX7_wave 16 = .ok (.iload 5, 2) := by decide +kernel
theorem dX7_wave_18 : decode cX7_wave 18 = .ok (.iload 6, 2) := by decide +kernel
theorem dX7_wave_20 : decode cX7_wave 20 = .ok (.iload 7, 2) := by decide +kernel
theorem dX7_wave_22 : decode cX7_wave 22 = .ok (.invokevirtual 228, 3) := by decide +kernel
theorem dX7_wave_25 : decode cX7_wave 25 = .ok (.ifCond .ne 5, 3) := by decide +kernel
theorem dX7_wave_28 : decode cX7_wave 28 = .ok (.iconst (-1), 1) := by decide +kernel
theorem dX7_wave_29 : decode cX7_wave 29 = .ok (.ireturn, 1) := by decide +kernel
theorem dX7_wave_30 : decode cX7_wave 30 = .ok (.aload_n 0, 1) := by decide +kernel
theorem dX7_wave_31 : decode cX7_wave 31 = .ok (.getfield 32, 3) := by decide +kernel
theorem dX7_wave_34 : decode cX7_wave 34 = .ok (.invokevirtual 235, 3) := by decide +kernel
theorem dX7_wave_37 : decode cX7_wave 37 = .ok (.iload 8, 2) := by decide +kernel
theorem dX7_wave_39 : decode cX7_wave 39 = .ok (.ifCond .ne 11, 3) := by decide +kernel
theorem dX7_wave_42 : decode cX7_wave 42 = .ok (.aload_n 0, 1) := by decide +kernel
theorem dX7_wave_43 : decode cX7_wave 43 = .ok (.getfield 32, 3) := by decide +kernel
theorem dX7_wave_46 : decode cX7_wave 46 = .ok (.getfield 238, 3) := by decide +kernel
theorem dX7_wave_49 : decode cX7_wave 49 = .ok (.ireturn, 1) := by decide +kernel
theorem dX7_wave_50 : decode cX7_wave 50 = .ok (.iload 8, 2) := by decide +kernel
theorem dX7_wave_52 : decode cX7_wave 52 = .ok (.iconst 1, 1) := by decide +kernel
theorem dX7_wave_53 : decode cX7_wave 53 = .ok (.if_icmp .ne 11, 3) := by decide +kernel
theorem dX7_wave_56 : decode cX7_wave 56 = .ok (.aload_n 0, 1) := by decide +kernel
theorem dX7_wave_57 : decode cX7_wave 57 = .ok (.getfield 32, 3) := by decide +kernel
theorem dX7_wave_60 : decode cX7_wave 60 = .ok (.getfield 241, 3) := by decide +kernel
theorem dX7_wave_63 : decode cX7_wave 63 = .ok (.ireturn, 1) := by decide +kernel
theorem dX7_wave_64 : decode cX7_wave 64 = .ok (.aload_n 0, 1) := by decide +kernel
theorem dX7_wave_65 : decode cX7_wave 65 = .ok (.getfield 32, 3) := by decide +kernel
theorem dX7_wave_68 : decode cX7_wave 68 = .ok (.getfield 244, 3) := by decide +kernel
theorem dX7_wave_71 : decode cX7_wave 71 = .ok (.iconst 3, 1) := by decide +kernel
theorem dX7_wave_72 : decode cX7_wave 72 = .ok (.if_icmp .ne 13, 3) := by decide +kernel
theorem dX7_wave_75 : decode cX7_wave 75 = .ok (.aload_n 0, 1) := by decide +kernel
theorem dX7_wave_76 : decode cX7_wave 76 = .ok (.getfield 32, 3) := by decide +kernel
theorem dX7_wave_79 : decode cX7_wave 79 = .ok (.getfield 247, 3) := by decide +kernel
theorem dX7_wave_82 : decode cX7_wave 82 = .ok (.goto 4, 3) := by decide +kernel
theorem dX7_wave_85 : decode cX7_wave 85 = .ok (.iconst (-1), 1) := by decide +kernel
theorem dX7_wave_86 : decode cX7_wave 86 = .ok (.ireturn, 1) := by decide +kernel
theorem dX7_check_0 : decode cX7_check 0 = .ok (.aload_n 0, 1) := by decide +kernel
theorem dX7_check_1 : decode cX7_check 1 = .ok (.iload_n 1, 1) := by decide +kernel
theorem dX7_check_2 : decode cX7_check 2 = .ok (.invokevirtual 53, 3) := by decide +kernel
theorem dX7_check_5 : decode cX7_check 5 = .ok (.astore 4, 2) := by decide +kernel
theorem dX7_check_7 : decode cX7_check 7 = .ok (.aload 4, 2) := by decide +kernel
theorem dX7_check_9 : decode cX7_check 9 = .ok (.ifnonnull 6, 3) := by decide +kernel
theorem dX7_check_12 : decode cX7_check 12 = .ok (.bipush (-2), 2) := by decide +kernel
theorem dX7_check_14 : decode cX7_check 14 = .ok (.ireturn, 1) := by decide +kernel
theorem dX7_check_15 : decode cX7_check 15 = .ok (.iconst 0, 1) := by decide +kernel
theorem dX7_check_16 : decode cX7_check 16 = .ok (.aload_n 0, 1) := by decide +kernel
theorem dX7_check_17 : decode cX7_check 17 = .ok (.getfield 49, 3) := by decide +kernel
theorem dX7_check_20 : decode cX7_check 20 = .ok (.sipush 200, 3) := by decide +kernel
theorem dX7_check_23 : decode cX7_check 23 = .ok (.isub, 1) := by decide +kernel
theorem dX7_check_24 : decode cX7_check 24 = .ok (.invokestatic 250, 3) := by decide +kernel
theorem dX7_check_27 : decode cX7_check 27 = .ok (.istore 5, 2) := by decide +kernel
theorem dX7_check_29 : decode cX7_check 29 = .ok (.iload_n 3, 1) := by decide +kernel
theorem dX7_check_30 : decode cX7_check 30 = .ok (.iconst (-1), 1) := by decide +kernel
theorem dX7_check_31 : decode cX7_check 31 = .ok (.if_icmp .ne 21, 3) := by decide +kernel
theorem dX7_check_34 : decode cX7_check 34 = .ok (.aload_n 0, 1) := by decide +kernel
theorem dX7_check_35 : decode cX7_check 35 = .ok (.getfield 18, 3) := by decide +kernel
theorem dX7_check_38 : decode cX7_check 38 = .ok (.aload 4, 2) := by decide +kernel
theorem dX7_check_40 : decode cX7_check 40 = .ok (.iload 5, 2) := by decide +kernel
theorem dX7_check_42 : decode cX7_check 42 = .ok (.aload_n 0, 1) := by decide +kernel
theorem dX7_check_43 : decode cX7_check 43 = .ok (.getfield 49, 3) := by decide +kernel
theorem dX7_check_46 : decode cX7_check 46 = .ok (.iconst (-1), 1) := by decide +kernel
theorem dX7_check_47 : decode cX7_check 47 = .ok (.iconst 0, 1) := by decide +kernel
theorem dX7_check_48 : decode cX7_check 48 = .ok (.invokevirtual 253, 3) := by decide +kernel
theorem dX7_check_51 : decode cX7_check 51 = .ok (.ireturn, 1) := by decide +kernel
theorem dX7_check_52 : decode cX7_check 52 = .ok (.aload 4, 2) := by decide +kernel
theorem dX7_check_54 : decode cX7_check 54 = .ok (.iload_n 2, 1) := by decide +kernel
theorem dX7_check_55 : decode cX7_check 55 = .ok (.invokevirtual 77, 3) := by decide +kernel
theorem dX7_check_58 : decode cX7_check 58 = .ok (.ifnull 18, 3) := by decide +kernel
theorem dX7_check_61 : decode cX7_check 61 = .ok (.iload_n 3, 1) := by decide +kernel
theorem dX7_check_62 : decode cX7_check 62 = .ok (.iload 5, 2) := by decide +kernel
theorem dX7_check_64 : decode cX7_check 64 = .ok (.aload_n 0, 1) := by decide +kernel
theorem dX7_check_65 : decode cX7_check 65 = .ok (.getfield 49, 3) := by decide +kernel
theorem dX7_check_68 : decode cX7_check 68 = .ok (.iconst 1, 1) := by decide +kernel
theorem dX7_check_69 : decode cX7_check 69 = .ok (.isub, 1) := by decide +kernel
theorem dX7_check_70 : decode cX7_check 70 = .ok (.invokestatic 64, 3) := by decide +kernel
theorem dX7_check_73 : decode cX7_check 73 = .ok (.ifCond .eq 6, 3) := by decide +kernel
theorem dX7_check_76 : decode cX7_check 76 = .ok (.bipush (-2), 2) := by decide +kernel
theorem dX7_check_78 : decode cX7_check 78 = .ok (.ireturn, 1) := by decide +kernel
theorem dX7_check_79 : decode cX7_check 79 = .ok (.aload_n 0, 1) := by decide +kernel
theorem dX7_check_80 : decode cX7_check 80 = .ok (.getfield 18, 3) := by decide +kernel
theorem dX7_check_83 : decode cX7_check 83 = .ok (.aload 4, 2) := by decide +kernel
theorem dX7_check_85 : decode cX7_check 85 = .ok (.iload 5, 2) := by decide +kernel
theorem dX7_check_87 : decode cX7_check 87 = .ok (.aload_n 0, 1) := by decide +kernel
theorem dX7_check_88 : decode cX7_check 88 = .ok (.getfield 49, 3) := by decide +kernel
theorem dX7_check_91 : decode cX7_check 91 = .ok (.iload_n 3, 1) := by decide +kernel
theorem dX7_check_92 : decode cX7_check 92 = .ok (.iconst 1, 1) := by decide +kernel
theorem dX7_check_93 : decode cX7_check 93 = .ok (.iload_n 2, 1) := by decide +kernel
theorem dX7_check_94 : decode cX7_check 94 = .ok (.ishl, 1) := by decide +kernel
theorem dX7_check_95 : decode cX7_check 95 = .ok (.invokevirtual 253, 3) := by decide +kernel
theorem dX7_check_98 : decode cX7_check 98 = .ok (.ireturn, 1) := by decide +kernel
theorem dX7_outside_0 : decode cX7_outside 0 = .ok (.iload_n 0, 1) := by decide +kernel
theorem dX7_outside_1 : decode cX7_outside 1 = .ok (.iload_n 1, 1) := by decide +kernel
theorem dX7_outside_2 : decode cX7_outside 2 = .ok (.if_icmp .lt 8, 3) := by decide +kernel
theorem dX7_outside_5 : decode cX7_outside 5 = .ok (.iload_n 0, 1) := by decide +kernel
theorem dX7_outside_6 : decode cX7_outside 6 = .ok (.iload_n 2, 1) := by decide +kernel
theorem dX7_outside_7 : decode cX7_outside 7 = .ok (.if_icmp .le 7, 3) := by decide +kernel
theorem dX7_outside_10 : decode cX7_outside 10 = .ok (.iconst 1, 1) := by decide +kernel
theorem dX7_outside_11 : decode cX7_outside 11 = .ok (.goto 4, 3) := by decide +kernel
theorem dX7_outside_14 : decode cX7_outside 14 = .ok (.iconst 0, 1) := by decide +kernel
theorem dX7_outside_15 : decode cX7_outside 15 = .ok (.ireturn, 1) := by decide +kernel
theorem dX7_junctionAt_0 : decode cX7_junctionAt 0 = .ok (.iload_n 1, 1) := by decide +kernel
theorem dX7_junctionAt_1 : decode cX7_junctionAt 1 = .ok (.iconst 0, 1) := by decide +kernel
theorem dX7_junctionAt_2 : decode cX7_junctionAt 2 = .ok (.aload_n 0, 1) := by decide +kernel
theorem dX7_junctionAt_3 : decode cX7_junctionAt 3 = .ok (.getfield 46, 3) := by decide +kernel
theorem dX7_junctionAt_6 : decode cX7_junctionAt 6 = .ok (.iconst 1, 1) := by decide +kernel
theorem dX7_junctionAt_7 : decode cX7_junctionAt 7 = .ok (.isub, 1) := by decide +kernel
theorem dX7_junctionAt_8 : decode cX7_junctionAt 8 = .ok (.invokestatic 64, 3) := by decide +kernel
theorem dX7_junctionAt_11 : decode cX7_junctionAt 11 = .ok (.ifCond .eq 7, 3) := by decide +kernel
theorem dX7_junctionAt_14 : decode cX7_junctionAt 14 = .ok (.aconst_null, 1) := by decide +kernel
theorem dX7_junctionAt_15 : decode cX7_junctionAt 15 = .ok (.goto 9, 3) := by decide +kernel
theorem dX7_junctionAt_18 : decode cX7_junctionAt 18 = .ok (.aload_n 0, 1) := by decide +kernel
theorem dX7_junctionAt_19 : decode cX7_junctionAt 19 = .ok (.getfield 11, 3) := by decide +kernel
theorem dX7_junctionAt_22 : decode cX7_junctionAt 22 = .ok (.iload_n 1, 1) := by decide +kernel
theorem dX7_junctionAt_23 : decode cX7_junctionAt 23 = .ok (.aaload, 1) := by decide +kernel
theorem dX7_junctionAt_24 : decode cX7_junctionAt 24 = .ok (.areturn, 1) := by decide +kernel
theorem dX7_streamAt_0 : decode cX7_streamAt 0 = .ok (.aload_n 0, 1) := by decide +kernel
theorem dX7_streamAt_1 : decode cX7_streamAt 1 = .ok (.iload_n 1, 1) := by decide +kernel
theorem dX7_streamAt_2 : decode cX7_streamAt 2 = .ok (.invokevirtual 53, 3) := by decide +kernel
theorem dX7_streamAt_5 : decode cX7_streamAt 5 = .ok (.astore_n 3, 1) := by decide +kernel
theorem dX7_streamAt_6 : decode cX7_streamAt 6 = .ok (.aload_n 3, 1) := by decide +kernel
theorem dX7_streamAt_7 : decode cX7_streamAt 7 = .ok (.ifnonnull 7, 3) := by decide +kernel
theorem dX7_streamAt_10 : decode cX7_streamAt 10 = .ok (.aconst_null, 1) := by decide +kernel
theorem dX7_streamAt_11 : decode cX7_streamAt 11 = .ok (.goto 8, 3) := by decide +kernel
theorem dX7_streamAt_14 : decode cX7_streamAt 14 = .ok (.aload_n 3, 1) := by decide +kernel
theorem dX7_streamAt_15 : decode cX7_streamAt 15 = .ok (.iload_n 2, 1) := by decide +kernel
theorem dX7_streamAt_16 : decode cX7_streamAt 16 = .ok (.invokevirtual 77, 3) := by decide +kernel
theorem dX7_streamAt_19 : decode cX7_streamAt 19 = .ok (.areturn, 1) := by decide +kernel
theorem dX7_begunAt_0 : decode cX7_begunAt 0 = .ok (.aload_n 0, 1) := by decide +kernel
theorem dX7_begunAt_1 : decode cX7_begunAt 1 = .ok (.iload_n 1, 1) := by decide +kernel
theorem dX7_begunAt_2 : decode cX7_begunAt 2 = .ok (.invokevirtual 53, 3) := by decide +kernel
theorem dX7_begunAt_5 : decode cX7_begunAt 5 = .ok (.astore_n 2, 1) := by decide +kernel
theorem dX7_begunAt_6 : decode cX7_begunAt 6 = .ok (.aload_n 2, 1) := by decide +kernel
theorem dX7_begunAt_7 : decode cX7_begunAt 7 = .ok (.ifnonnull 7, 3) := by decide +kernel
theorem dX7_begunAt_10 : decode cX7_begunAt 10 = .ok (.aconst_null, 1) := by decide +kernel
theorem dX7_begunAt_11 : decode cX7_begunAt 11 = .ok (.goto 7, 3) := by decide +kernel
theorem dX7_begunAt_14 : decode cX7_begunAt 14 = .ok (.aload_n 2, 1) := by decide +kernel
theorem dX7_begunAt_15 : decode cX7_begunAt 15 = .ok (.getfield 120, 3) := by decide +kernel
theorem dX7_begunAt_18 : decode cX7_begunAt 18 = .ok (.areturn, 1) := by decide +kernel
theorem dX7_takenAt_0 : decode cX7_takenAt 0 = .ok (.aload_n 0, 1) := by decide +kernel
theorem dX7_takenAt_1 : decode cX7_takenAt 1 = .ok (.iload_n 1, 1) := by decide +kernel
theorem dX7_takenAt_2 : decode cX7_takenAt 2 = .ok (.invokevirtual 53, 3) := by decide +kernel
theorem dX7_takenAt_5 : decode cX7_takenAt 5 = .ok (.astore_n 2, 1) := by decide +kernel
theorem dX7_takenAt_6 : decode cX7_takenAt 6 = .ok (.aload_n 2, 1) := by decide +kernel
end
section
theorem dX7_takenAt_7 : decode cX7_takenAt 7 = .ok (.ifnonnull 7, 3) := by decide +kernel
theorem dX7_takenAt_10 : decode cX7_takenAt 10 = .ok (.aconst_null, 1) := by decide +kernel
theorem dX7_takenAt_11 : decode cX7_takenAt 11 = .ok (.goto 7, 3) := by decide +kernel
theorem dX7_takenAt_14 : decode cX7_takenAt 14 = .ok (.aload_n 2, 1) := by decide +kernel
theorem dX7_takenAt_15 : decode cX7_takenAt 15 = .ok (.getfield 203, 3) := by decide +kernel
theorem dX7_takenAt_18 : decode cX7_takenAt 18 = .ok (.areturn, 1) := by decide +kernel
theorem dX7_flashing_0 : decode cX7_flashing 0 = .ok (.iconst 0, 1) := by decide +kernel
theorem dX7_flashing_1 : decode cX7_flashing 1 = .ok (.istore_n 1, 1) := by decide +kernel
theorem dX7_flashing_2 : decode cX7_flashing 2 = .ok (.iconst 0, 1) := by decide +kernel
theorem dX7_flashing_3 : decode cX7_flashing 3 = .ok (.istore_n 2, 1) := by decide +kernel
theorem dX7_flashing_4 : decode cX7_flashing 4 = .ok (.iload_n 2, 1) := by decide +kernel
theorem dX7_flashing_5 : decode cX7_flashing 5 = .ok (.aload_n 0, 1) := by decide +kernel
theorem dX7_flashing_6 : decode cX7_flashing 6 = .ok (.getfield 46, 3) := by decide +kernel
theorem dX7_flashing_9 : decode cX7_flashing 9 = .ok (.if_icmp .ge 24, 3) := by decide +kernel
theorem dX7_flashing_12 : decode cX7_flashing 12 = .ok (.aload_n 0, 1) := by decide +kernel
theorem dX7_flashing_13 : decode cX7_flashing 13 = .ok (.getfield 11, 3) := by decide +kernel
theorem dX7_flashing_16 : decode cX7_flashing 16 = .ok (.iload_n 2, 1) := by decide +kernel
theorem dX7_flashing_17 : decode cX7_flashing 17 = .ok (.aaload, 1) := by decide +kernel
theorem dX7_flashing_18 : decode cX7_flashing 18 = .ok (.getfield 225, 3) := by decide +kernel
theorem dX7_flashing_21 : decode cX7_flashing 21 = .ok (.ifCond .eq 6, 3) := by decide +kernel
theorem dX7_flashing_24 : decode cX7_flashing 24 = .ok (.iinc 1 1, 3) := by decide +kernel
theorem dX7_flashing_27 : decode cX7_flashing 27 = .ok (.iinc 2 1, 3) := by decide +kernel
theorem dX7_flashing_30 : decode cX7_flashing 30 = .ok (.goto (-26), 3) := by decide +kernel
theorem dX7_flashing_33 : decode cX7_flashing 33 = .ok (.iload_n 1, 1) := by decide +kernel
theorem dX7_flashing_34 : decode cX7_flashing 34 = .ok (.ireturn, 1) := by decide +kernel
theorem dX7_tellsShortGreen_0 : decode cX7_tellsShortGreen 0 = .ok (.iconst 0, 1) := by decide +kernel
theorem dX7_tellsShortGreen_1 : decode cX7_tellsShortGreen 1 = .ok (.istore_n 3, 1) := by decide +kernel
theorem dX7_tellsShortGreen_2 : decode cX7_tellsShortGreen 2 = .ok (.iload_n 3, 1) := by decide +kernel
theorem dX7_tellsShortGreen_3 : decode cX7_tellsShortGreen 3 = .ok (.aload_n 2, 1) := by decide +kernel
theorem dX7_tellsShortGreen_4 : decode cX7_tellsShortGreen 4 = .ok (.getfield 127, 3) := by decide +kernel
theorem dX7_tellsShortGreen_7 : decode cX7_tellsShortGreen 7 = .ok (.if_icmp .ge 41, 3) := by decide +kernel
theorem dX7_tellsShortGreen_10 : decode cX7_tellsShortGreen 10 = .ok (.aload_n 1, 1) := by decide +kernel
theorem dX7_tellsShortGreen_11 : decode cX7_tellsShortGreen 11 = .ok (.aload_n 2, 1) := by decide +kernel
theorem dX7_tellsShortGreen_12 : decode cX7_tellsShortGreen 12 = .ok (.iload_n 3, 1) := by decide +kernel
theorem dX7_tellsShortGreen_13 : decode cX7_tellsShortGreen 13 = .ok (.invokevirtual 257, 3) := by decide +kernel
theorem dX7_tellsShortGreen_16 : decode cX7_tellsShortGreen 16 = .ok (.istore 4, 2) := by decide +kernel
theorem dX7_tellsShortGreen_18 : decode cX7_tellsShortGreen 18 = .ok (.iload 4, 2) := by decide +kernel
theorem dX7_tellsShortGreen_20 : decode cX7_tellsShortGreen 20 = .ok (.iconst (-1), 1) := by decide +kernel
theorem dX7_tellsShortGreen_21 : decode cX7_tellsShortGreen 21 = .ok (.if_icmp .eq 21, 3) := by decide +kernel
theorem dX7_tellsShortGreen_24 : decode cX7_tellsShortGreen 24 = .ok (.aload_n 0, 1) := by decide +kernel
theorem dX7_tellsShortGreen_25 : decode cX7_tellsShortGreen 25 = .ok (.iload_n 3, 1) := by decide +kernel
theorem dX7_tellsShortGreen_26 : decode cX7_tellsShortGreen 26 = .ok (.putfield 36, 3) := by decide +kernel
theorem dX7_tellsShortGreen_29 : decode cX7_tellsShortGreen 29 = .ok (.aload_n 0, 1) := by decide +kernel
theorem dX7_tellsShortGreen_30 : decode cX7_tellsShortGreen 30 = .ok (.iload 4, 2) := by decide +kernel
theorem dX7_tellsShortGreen_32 : decode cX7_tellsShortGreen 32 = .ok (.putfield 40, 3) := by decide +kernel
theorem dX7_tellsShortGreen_35 : decode cX7_tellsShortGreen 35 = .ok (.aload_n 0, 1) := by decide +kernel
theorem dX7_tellsShortGreen_36 : decode cX7_tellsShortGreen 36 = .ok (.iconst (-1), 1) := by decide +kernel
theorem dX7_tellsShortGreen_37 : decode cX7_tellsShortGreen 37 = .ok (.putfield 43, 3) := by decide +kernel
theorem dX7_tellsShortGreen_40 : decode cX7_tellsShortGreen 40 = .ok (.iconst 1, 1) := by decide +kernel
theorem dX7_tellsShortGreen_41 : decode cX7_tellsShortGreen 41 = .ok (.ireturn, 1) := by decide +kernel
theorem dX7_tellsShortGreen_42 : decode cX7_tellsShortGreen 42 = .ok (.iinc 3 1, 3) := by decide +kernel
theorem dX7_tellsShortGreen_45 : decode cX7_tellsShortGreen 45 = .ok (.goto (-43), 3) := by decide +kernel
theorem dX7_tellsShortGreen_48 : decode cX7_tellsShortGreen 48 = .ok (.iconst 0, 1) := by decide +kernel
theorem dX7_tellsShortGreen_49 : decode cX7_tellsShortGreen 49 = .ok (.ireturn, 1) := by decide +kernel
theorem dX7_tellsClash_0 : decode cX7_tellsClash 0 = .ok (.aload_n 0, 1) := by decide +kernel
theorem dX7_tellsClash_1 : decode cX7_tellsClash 1 = .ok (.getfield 18, 3) := by decide +kernel
theorem dX7_tellsClash_4 : decode cX7_tellsClash 4 = .ok (.aload_n 1, 1) := by decide +kernel
theorem dX7_tellsClash_5 : decode cX7_tellsClash 5 = .ok (.aload_n 2, 1) := by decide +kernel
theorem dX7_tellsClash_6 : decode cX7_tellsClash 6 = .ok (.invokevirtual 261, 3) := by decide +kernel
theorem dX7_tellsClash_9 : decode cX7_tellsClash 9 = .ok (.istore_n 3, 1) := by decide +kernel
theorem dX7_tellsClash_10 : decode cX7_tellsClash 10 = .ok (.iload_n 3, 1) := by decide +kernel
theorem dX7_tellsClash_11 : decode cX7_tellsClash 11 = .ok (.iconst (-1), 1) := by decide +kernel
theorem dX7_tellsClash_12 : decode cX7_tellsClash 12 = .ok (.if_icmp .ne 5, 3) := by decide +kernel
theorem dX7_tellsClash_15 : decode cX7_tellsClash 15 = .ok (.iconst 0, 1) := by decide +kernel
theorem dX7_tellsClash_16 : decode cX7_tellsClash 16 = .ok (.ireturn, 1) := by decide +kernel
theorem dX7_tellsClash_17 : decode cX7_tellsClash 17 = .ok (.aload_n 0, 1) := by decide +kernel
theorem dX7_tellsClash_18 : decode cX7_tellsClash 18 = .ok (.iload_n 3, 1) := by decide +kernel
theorem dX7_tellsClash_19 : decode cX7_tellsClash 19 = .ok (.putfield 36, 3) := by decide +kernel
theorem dX7_tellsClash_22 : decode cX7_tellsClash 22 = .ok (.aload_n 0, 1) := by decide +kernel
theorem dX7_tellsClash_23 : decode cX7_tellsClash 23 = .ok (.aload_n 0, 1) := by decide +kernel
theorem dX7_tellsClash_24 : decode cX7_tellsClash 24 = .ok (.getfield 18, 3) := by decide +kernel
theorem dX7_tellsClash_27 : decode cX7_tellsClash 27 = .ok (.getfield 264, 3) := by decide +kernel
theorem dX7_tellsClash_30 : decode cX7_tellsClash 30 = .ok (.putfield 40, 3) := by decide +kernel
theorem dX7_tellsClash_33 : decode cX7_tellsClash 33 = .ok (.aload_n 0, 1) := by decide +kernel
theorem dX7_tellsClash_34 : decode cX7_tellsClash 34 = .ok (.aload_n 0, 1) := by decide +kernel
theorem dX7_tellsClash_35 : decode cX7_tellsClash 35 = .ok (.getfield 18, 3) := by decide +kernel
theorem dX7_tellsClash_38 : decode cX7_tellsClash 38 = .ok (.getfield 267, 3) := by decide +kernel
theorem dX7_tellsClash_41 : decode cX7_tellsClash 41 = .ok (.putfield 43, 3) := by decide +kernel
theorem dX7_tellsClash_44 : decode cX7_tellsClash 44 = .ok (.iconst 1, 1) := by decide +kernel
theorem dX7_tellsClash_45 : decode cX7_tellsClash 45 = .ok (.ireturn, 1) := by decide +kernel
theorem dX7_layWay_0 : decode cX7_layWay 0 = .ok (.iload_n 3, 1) := by decide +kernel
theorem dX7_layWay_1 : decode cX7_layWay 1 = .ok (.iconst (-1), 1) := by decide +kernel
theorem dX7_layWay_2 : decode cX7_layWay 2 = .ok (.if_icmp .eq 7, 3) := by decide +kernel
theorem dX7_layWay_5 : decode cX7_layWay 5 = .ok (.iconst 1, 1) := by decide +kernel
theorem dX7_layWay_6 : decode cX7_layWay 6 = .ok (.goto 4, 3) := by decide +kernel
theorem dX7_layWay_9 : decode cX7_layWay 9 = .ok (.iconst 0, 1) := by decide +kernel
theorem dX7_layWay_10 : decode cX7_layWay 10 = .ok (.istore 8, 2) := by decide +kernel
theorem dX7_layWay_12 : decode cX7_layWay 12 = .ok (.iload 8, 2) := by decide +kernel
theorem dX7_layWay_14 : decode cX7_layWay 14 = .ok (.ifCond .eq 9, 3) := by decide +kernel
theorem dX7_layWay_17 : decode cX7_layWay 17 = .ok (.sipush 999, 3) := by decide +kernel
theorem dX7_layWay_20 : decode cX7_layWay 20 = .ok (.goto 5, 3) := by decide +kernel
theorem dX7_layWay_23 : decode cX7_layWay 23 = .ok (.bipush 99, 2) := by decide +kernel
theorem dX7_layWay_25 : decode cX7_layWay 25 = .ok (.istore 9, 2) := by decide +kernel
theorem dX7_layWay_27 : decode cX7_layWay 27 = .ok (.iload_n 1, 1) := by decide +kernel
theorem dX7_layWay_28 : decode cX7_layWay 28 = .ok (.iload_n 2, 1) := by decide +kernel
theorem dX7_layWay_29 : decode cX7_layWay 29 = .ok (.if_icmp .eq 66, 3) := by decide +kernel
theorem dX7_layWay_32 : decode cX7_layWay 32 = .ok (.iload_n 1, 1) := by decide +kernel
theorem dX7_layWay_33 : decode cX7_layWay 33 = .ok (.iload_n 3, 1) := by decide +kernel
theorem dX7_layWay_34 : decode cX7_layWay 34 = .ok (.if_icmp .eq 61, 3) := by decide +kernel
theorem dX7_layWay_37 : decode cX7_layWay 37 = .ok (.iload_n 2, 1) := by decide +kernel
theorem dX7_layWay_38 : decode cX7_layWay 38 = .ok (.iload_n 3, 1) := by decide +kernel
theorem dX7_layWay_39 : decode cX7_layWay 39 = .ok (.if_icmp .eq 56, 3) := by decide +kernel
theorem dX7_layWay_42 : decode cX7_layWay 42 = .ok (.iload 4, 2) := by decide +kernel
theorem dX7_layWay_44 : decode cX7_layWay 44 = .ok (.iconst 0, 1) := by decide +kernel
theorem dX7_layWay_45 : decode cX7_layWay 45 = .ok (.iload 9, 2) := by decide +kernel
theorem dX7_layWay_47 : decode cX7_layWay 47 = .ok (.invokestatic 64, 3) := by decide +kernel
theorem dX7_layWay_50 : decode cX7_layWay 50 = .ok (.ifCond .ne 45, 3) := by decide +kernel
theorem dX7_layWay_53 : decode cX7_layWay 53 = .ok (.iload 5, 2) := by decide +kernel
theorem dX7_layWay_55 : decode cX7_layWay 55 = .ok (.iconst 0, 1) := by decide +kernel
theorem dX7_layWay_56 : decode cX7_layWay 56 = .ok (.iload 9, 2) := by decide +kernel
theorem dX7_layWay_58 : decode cX7_layWay 58 = .ok (.invokestatic 64, 3) := by decide +kernel
theorem dX7_layWay_61 : decode cX7_layWay 61 = .ok (.ifCond .ne 34, 3) := by decide +kernel
theorem dX7_layWay_64 : decode cX7_layWay 64 = .ok (.iload 6, 2) := by decide +kernel
theorem dX7_layWay_66 : decode cX7_layWay 66 = .ok (.iconst 0, 1) := by decide +kernel
theorem dX7_layWay_67 : decode cX7_layWay 67 = .ok (.bipush 120, 2) := by decide +kernel
theorem dX7_layWay_69 : decode cX7_layWay 69 = .ok (.invokestatic 64, 3) := by decide +kernel
theorem dX7_layWay_72 : decode cX7_layWay 72 = .ok (.ifCond .ne 23, 3) := by decide +kernel
theorem dX7_layWay_75 : decode cX7_layWay 75 = .ok (.iload 7, 2) := by decide +kernel
theorem dX7_layWay_77 : decode cX7_layWay 77 = .ok (.iconst 0, 1) := by decide +kernel
theorem dX7_layWay_78 : decode cX7_layWay 78 = .ok (.iload 8, 2) := by decide +kernel
theorem dX7_layWay_80 : decode cX7_layWay 80 = .ok (.ifCond .eq 8, 3) := by decide +kernel
theorem dX7_layWay_83 : decode cX7_layWay 83 = .ok (.bipush 120, 2) := by decide +kernel
theorem dX7_layWay_85 : decode cX7_layWay 85 = .ok (.goto 4, 3) := by decide +kernel
theorem dX7_layWay_88 : decode cX7_layWay 88 = .ok (.iconst 0, 1) := by decide +kernel
theorem dX7_layWay_89 : decode cX7_layWay 89 = .ok (.invokestatic 64, 3) := by decide +kernel
theorem dX7_layWay_92 : decode cX7_layWay 92 = .ok (.ifCond .eq 5, 3) := by decide +kernel
theorem dX7_layWay_95 : decode cX7_layWay 95 = .ok (.iconst 0, 1) := by decide +kernel
theorem dX7_layWay_96 : decode cX7_layWay 96 = .ok (.ireturn, 1) := by decide +kernel
theorem dX7_layWay_97 : decode cX7_layWay 97 = .ok (.aload_n 0, 1) := by decide +kernel
theorem dX7_layWay_98 : decode cX7_layWay 98 = .ok (.getfield 32, 3) := by decide +kernel
theorem dX7_layWay_101 : decode cX7_layWay 101 = .ok (.iconst 0, 1) := by decide +kernel
theorem dX7_layWay_102 : decode cX7_layWay 102 = .ok (.putfield 244, 3) := by decide +kernel
theorem dX7_layWay_105 : decode cX7_layWay 105 = .ok (.aload_n 0, 1) := by decide +kernel
theorem dX7_layWay_106 : decode cX7_layWay 106 = .ok (.iload_n 1, 1) := by decide +kernel
theorem dX7_layWay_107 : decode cX7_layWay 107 = .ok (.iload 4, 2) := by decide +kernel
theorem dX7_layWay_109 : decode cX7_layWay 109 = .ok (.bipush 10, 2) := by decide +kernel
theorem dX7_layWay_111 : decode cX7_layWay 111 = .ok (.irem, 1) := by decide +kernel
theorem dX7_layWay_112 : decode cX7_layWay 112 = .ok (.iload 5, 2) := by decide +kernel
theorem dX7_layWay_114 : decode cX7_layWay 114 = .ok (.bipush 10, 2) := by decide +kernel
theorem dX7_layWay_116 : decode cX7_layWay 116 = .ok (.irem, 1) := by decide +kernel
theorem dX7_layWay_117 : decode cX7_layWay 117 = .ok (.iconst 0, 1) := by decide +kernel
theorem dX7_layWay_118 : decode cX7_layWay 118 = .ok (.iload 6, 2) := by decide +kernel
theorem dX7_layWay_120 : decode cX7_layWay 120 = .ok (.iload 7, 2) := by decide +kernel
theorem dX7_layWay_122 : decode cX7_layWay 122 = .ok (.iadd, 1) := by decide +kernel
theorem dX7_layWay_123 : decode cX7_layWay 123 = .ok (.invokevirtual 270, 3) := by decide +kernel
theorem dX7_layWay_126 : decode cX7_layWay 126 = .ok (.ifCond .eq 64, 3) := by decide +kernel
theorem dX7_layWay_129 : decode cX7_layWay 129 = .ok (.aload_n 0, 1) := by decide +kernel
theorem dX7_layWay_130 : decode cX7_layWay 130 = .ok (.iload_n 2, 1) := by decide +kernel
theorem dX7_layWay_131 : decode cX7_layWay 131 = .ok (.iload 4, 2) := by decide +kernel
theorem dX7_layWay_133 : decode cX7_layWay 133 = .ok (.bipush 10, 2) := by decide +kernel
theorem dX7_layWay_135 : decode cX7_layWay 135 = .ok (.idiv, 1) := by decide +kernel
theorem dX7_layWay_136 : decode cX7_layWay 136 = .ok (.bipush 10, 2) := by decide +kernel
theorem dX7_layWay_138 : decode cX7_layWay 138 = .ok (.irem, 1) := by decide +kernel
theorem dX7_layWay_139 : decode cX7_layWay 139 = .ok (.iload 5, 2) := by decide +kernel
theorem dX7_layWay_141 : decode cX7_layWay 141 = .ok (.bipush 10, 2) := by decide +kernel
theorem dX7_layWay_143 : decode cX7_layWay 143 = .ok (.idiv, 1) := by decide +kernel
theorem dX7_layWay_144 : decode cX7_layWay 144 = .ok (.bipush 10, 2) := by decide +kernel
theorem dX7_layWay_146 : decode cX7_layWay 146 = .ok (.irem, 1) := by decide +kernel
theorem dX7_layWay_147 : decode cX7_layWay 147 = .ok (.iload 6, 2) := by decide +kernel
theorem dX7_layWay_149 : decode cX7_layWay 149 = .ok (.iload 7, 2) := by decide +kernel
theorem dX7_layWay_151 : decode cX7_layWay 151 = .ok (.invokevirtual 270, 3) := by decide +kernel
theorem dX7_layWay_154 : decode cX7_layWay 154 = .ok (.ifCond .eq 36, 3) := by decide +kernel
theorem dX7_layWay_157 : decode cX7_layWay 157 = .ok (.iload 8, 2) := by decide +kernel
theorem dX7_layWay_159 : decode cX7_layWay 159 = .ok (.ifCond .eq 27, 3) := by decide +kernel
theorem dX7_layWay_162 : decode cX7_layWay 162 = .ok (.aload_n 0, 1) := by decide +kernel
theorem dX7_layWay_163 : decode cX7_layWay 163 = .ok (.iload_n 3, 1) := by decide +kernel
theorem dX7_layWay_164 : decode cX7_layWay 164 = .ok (.iload 4, 2) := by decide +kernel
theorem dX7_layWay_166 : decode cX7_layWay 166 = .ok (.bipush 100, 2) := by decide +kernel
theorem dX7_layWay_168 : decode cX7_layWay 168 = .ok (.idiv, 1) := by decide +kernel
theorem dX7_layWay_169 : decode cX7_layWay 169 = .ok (.iload 5, 2) := by decide +kernel
theorem dX7_layWay_171 : decode cX7_layWay 171 = .ok (.bipush 100, 2) := by decide +kernel
theorem dX7_layWay_173 : decode cX7_layWay 173 = .ok (.idiv, 1) := by decide +kernel
theorem dX7_layWay_174 : decode cX7_layWay 174 = .ok (.iload 6, 2) := by decide +kernel
theorem dX7_layWay_176 : decode cX7_layWay 176 = .ok (.iload 7, 2) := by decide +kernel
theorem dX7_layWay_178 : decode cX7_layWay 178 = .ok (.iadd, 1) := by decide +kernel
theorem dX7_layWay_179 : decode cX7_layWay 179 = .ok (.iconst 0, 1) := by decide +kernel
theorem dX7_layWay_180 : decode cX7_layWay 180 = .ok (.invokevirtual 270, 3) := by decide +kernel
theorem dX7_layWay_183 : decode cX7_layWay 183 = .ok (.ifCond .eq 7, 3) := by decide +kernel
theorem dX7_layWay_186 : decode cX7_layWay 186 = .ok (.iconst 1, 1) := by decide +kernel
theorem dX7_layWay_187 : decode cX7_layWay 187 = .ok (.goto 4, 3) := by decide +kernel
theorem dX7_layWay_190 : decode cX7_layWay 190 = .ok (.iconst 0, 1) := by decide +kernel
theorem dX7_layWay_191 : decode cX7_layWay 191 = .ok (.ireturn, 1) := by decide +kernel
theorem dX7_laysStop_0 : decode cX7_laysStop 0 = .ok (.aload_n 0, 1) := by decide +kernel
theorem dX7_laysStop_1 : decode cX7_laysStop 1 = .ok (.iload_n 1, 1) := by decide +kernel
theorem dX7_laysStop_2 : decode cX7_laysStop 2 = .ok (.invokevirtual 53, 3) := by decide +kernel
theorem dX7_laysStop_5 : decode cX7_laysStop 5 = .ok (.astore 6, 2) := by decide +kernel
theorem dX7_laysStop_7 : decode cX7_laysStop 7 = .ok (.aload 6, 2) := by decide +kernel
theorem dX7_laysStop_9 : decode cX7_laysStop 9 = .ok (.ifnull 62, 3) := by decide +kernel
theorem dX7_laysStop_12 : decode cX7_laysStop 12 = .ok (.aload 6, 2) := by decide +kernel
theorem dX7_laysStop_14 : decode cX7_laysStop 14 = .ok (.getfield 203, 3) := by decide +kernel
theorem dX7_laysStop_17 : decode cX7_laysStop 17 = .ok (.ifnull 54, 3) := by decide +kernel
theorem dX7_laysStop_20 : decode cX7_laysStop 20 = .ok (.aload 6, 2) := by decide +kernel
theorem dX7_laysStop_22 : decode cX7_laysStop 22 = .ok (.iload_n 2, 1) := by decide +kernel
theorem dX7_laysStop_23 : decode cX7_laysStop 23 = .ok (.invokevirtual 77, 3) := by decide +kernel
theorem dX7_laysStop_26 : decode cX7_laysStop 26 = .ok (.ifnull 45, 3) := by decide +kernel
theorem dX7_laysStop_29 : decode cX7_laysStop 29 = .ok (.aload 6, 2) := by decide +kernel
theorem dX7_laysStop_31 : decode cX7_laysStop 31 = .ok (.iload_n 3, 1) := by decide +kernel
theorem dX7_laysStop_32 : decode cX7_laysStop 32 = .ok (.invokevirtual 77, 3) := by decide +kernel
theorem dX7_laysStop_35 : decode cX7_laysStop 35 = .ok (.ifnull 36, 3) := by decide +kernel
theorem dX7_laysStop_38 : decode cX7_laysStop 38 = .ok (.aload_n 0, 1) := by decide +kernel
theorem dX7_laysStop_39 : decode cX7_laysStop 39 = .ok (.getfield 32, 3) := by decide +kernel
theorem dX7_laysStop_42 : decode cX7_laysStop 42 = .ok (.getfield 244, 3) := by decide +kernel
theorem dX7_laysStop_45 : decode cX7_laysStop 45 = .ok (.ifCond .le 28, 3) := by decide +kernel
theorem dX7_laysStop_48 : decode cX7_laysStop 48 = .ok (.aload 6, 2) := by decide +kernel
theorem dX7_laysStop_50 : decode cX7_laysStop 50 = .ok (.getfield 203, 3) := by decide +kernel
theorem dX7_laysStop_53 : decode cX7_laysStop 53 = .ok (.getfield 127, 3) := by decide +kernel
theorem dX7_laysStop_56 : decode cX7_laysStop 56 = .ok (.aload_n 0, 1) := by decide +kernel
theorem dX7_laysStop_57 : decode cX7_laysStop 57 = .ok (.getfield 32, 3) := by decide +kernel
theorem dX7_laysStop_60 : decode cX7_laysStop 60 = .ok (.getfield 274, 3) := by decide +kernel
theorem dX7_laysStop_63 : decode cX7_laysStop 63 = .ok (.iconst 0, 1) := by decide +kernel
theorem dX7_laysStop_64 : decode cX7_laysStop 64 = .ok (.aaload, 1) := by decide +kernel
theorem dX7_laysStop_65 : decode cX7_laysStop 65 = .ok (.getfield 127, 3) := by decide +kernel
theorem dX7_laysStop_68 : decode cX7_laysStop 68 = .ok (.if_icmp .eq 5, 3) := by decide +kernel
theorem dX7_laysStop_71 : decode cX7_laysStop 71 = .ok (.iconst 0, 1) := by decide +kernel
theorem dX7_laysStop_72 : decode cX7_laysStop 72 = .ok (.ireturn, 1) := by decide +kernel
theorem dX7_laysStop_73 : decode cX7_laysStop 73 = .ok (.aload_n 0, 1) := by decide +kernel
theorem dX7_laysStop_74 : decode cX7_laysStop 74 = .ok (.getfield 32, 3) := by decide +kernel
theorem dX7_laysStop_77 : decode cX7_laysStop 77 = .ok (.aload 6, 2) := by decide +kernel
theorem dX7_laysStop_79 : decode cX7_laysStop 79 = .ok (.getfield 203, 3) := by decide +kernel
theorem dX7_laysStop_82 : decode cX7_laysStop 82 = .ok (.iload_n 2, 1) := by decide +kernel
theorem dX7_laysStop_83 : decode cX7_laysStop 83 = .ok (.iload_n 3, 1) := by decide +kernel
theorem dX7_laysStop_84 : decode cX7_laysStop 84 = .ok (.iload 4, 2) := by decide +kernel
theorem dX7_laysStop_86 : decode cX7_laysStop 86 = .ok (.iload 5, 2) := by decide +kernel
theorem dX7_laysStop_88 : decode cX7_laysStop 88 = .ok (.invokevirtual 278, 3) := by decide +kernel
theorem dX7_laysStop_91 : decode cX7_laysStop 91 = .ok (.iconst 1, 1) := by decide +kernel
theorem dX7_laysStop_92 : decode cX7_laysStop 92 = .ok (.ireturn, 1) := by decide +kernel
theorem dX8_init_0 : decode cX8_init 0 = .ok (.aload_n 0, 1) := by decide +kernel
theorem dX8_init_1 : decode cX8_init 1 = .ok (.invokespecial 1, 3) := by decide +kernel
theorem dX8_init_4 : decode cX8_init 4 = .ok (.aload_n 0, 1) := by decide +kernel
theorem dX8_init_5 : decode cX8_init 5 = .ok (.bipush 8, 2) := by decide +kernel
theorem dX8_init_7 : decode cX8_init 7 = .ok (.newarray .int, 2) := by decide +kernel
theorem dX8_init_9 : decode cX8_init 9 = .ok (.putfield 7, 3) := by decide +kernel
theorem dX8_init_12 : decode cX8_init 12 = .ok (.aload_n 0, 1) := by decide +kernel
theorem dX8_init_13 : decode cX8_init 13 = .ok (.bipush 64, 2) := by decide +kernel
theorem dX8_init_15 : decode cX8_init 15 = .ok (.newarray .int, 2) := by decide +kernel
theorem dX8_init_17 : decode cX8_init 17 = .ok (.putfield 13, 3) := by decide +kernel
theorem dX8_init_20 : decode cX8_init 20 = .ok (.aload_n 0, 1) := by decide +kernel
theorem dX8_init_21 : decode cX8_init 21 = .ok (.bipush 64, 2) := by decide +kernel
theorem dX8_init_23 : decode cX8_init 23 = .ok (.newarray .int, 2) := by decide +kernel
theorem dX8_init_25 : decode cX8_init 25 = .ok (.putfield 16, 3) := by decide +kernel
theorem dX8_init_28 : decode cX8_init 28 = .ok (.aload_n 0, 1) := by decide +kernel
theorem dX8_init_29 : decode cX8_init 29 = .ok (.bipush 64, 2) := by decide +kernel
theorem dX8_init_31 : decode cX8_init 31 = .ok (.newarray .int, 2) := by decide +kernel
theorem dX8_init_33 : decode cX8_init 33 = .ok (.putfield 19, 3) := by decide +kernel
theorem dX8_init_36 : decode cX8_init 36 = .ok (.aload_n 0, 1) := by decide +kernel
theorem dX8_init_37 : decode cX8_init 37 = .ok (.bipush 64, 2) := by decide +kernel
theorem dX8_init_39 : decode cX8_init 39 = .ok (.newarray .int, 2) := by decide +kernel
theorem dX8_init_41 : decode cX8_init 41 = .ok (.putfield 22, 3) := by decide +kernel
theorem dX8_init_44 : decode cX8_init 44 = .ok (.aload_n 0, 1) := by decide +kernel
theorem dX8_init_45 : decode cX8_init 45 = .ok (.sipush 512, 3) := by decide +kernel
theorem dX8_init_48 : decode cX8_init 48 = .ok (.newarray .int, 2) := by decide +kernel
theorem dX8_init_50 : decode cX8_init 50 = .ok (.putfield 25, 3) := by decide +kernel
theorem dX8_init_53 : decode cX8_init 53 = .ok (.aload_n 0, 1) := by decide +kernel
theorem dX8_init_54 : decode cX8_init 54 = .ok (.sipush 512, 3) := by decide +kernel
theorem dX8_init_57 : decode cX8_init 57 = .ok (.newarray .boolean, 2) := by decide +kernel
theorem dX8_init_59 : decode cX8_init 59 = .ok (.putfield 28, 3) := by decide +kernel
theorem dX8_init_62 : decode cX8_init 62 = .ok (.aload_n 0, 1) := by decide +kernel
theorem dX8_init_63 : decode cX8_init 63 = .ok (.bipush 16, 2) := by decide +kernel
theorem dX8_init_65 : decode cX8_init 65 = .ok (.newarray .boolean, 2) := by decide +kernel
theorem dX8_init_67 : decode cX8_init 67 = .ok (.putfield 32, 3) := by decide +kernel
theorem dX8_init_70 : decode cX8_init 70 = .ok (.aload_n 0, 1) := by decide +kernel
theorem dX8_init_71 : decode cX8_init 71 = .ok (.bipush 16, 2) := by decide +kernel
theorem dX8_init_73 : decode cX8_init 73 = .ok (.newarray .int, 2) := by decide +kernel
theorem dX8_init_75 : decode cX8_init 75 = .ok (.putfield 35, 3) := by decide +kernel
theorem dX8_init_78 : decode cX8_init 78 = .ok (.aload_n 0, 1) := by decide +kernel
theorem dX8_init_79 : decode cX8_init 79 = .ok (.bipush 16, 2) := by decide +kernel
theorem dX8_init_81 : decode cX8_init 81 = .ok (.newarray .int, 2) := by decide +kernel
theorem dX8_init_83 : decode cX8_init 83 = .ok (.putfield 38, 3) := by decide +kernel
theorem dX8_init_86 : decode cX8_init 86 = .ok (.aload_n 0, 1) := by decide +kernel
theorem dX8_init_87 : decode cX8_init 87 = .ok (.bipush 64, 2) := by decide +kernel
theorem dX8_init_89 : decode cX8_init 89 = .ok (.newarray .int, 2) := by decide +kernel
theorem dX8_init_91 : decode cX8_init 91 = .ok (.putfield 41, 3) := by decide +kernel
theorem dX8_init_94 : decode cX8_init 94 = .ok (.aload_n 0, 1) := by decide +kernel
theorem dX8_init_95 : decode cX8_init 95 = .ok (.bipush 64, 2) := by decide +kernel
theorem dX8_init_97 : decode cX8_init 97 = .ok (.newarray .int, 2) := by decide +kernel
theorem dX8_init_99 : decode cX8_init 99 = .ok (.putfield 44, 3) := by decide +kernel
theorem dX8_init_102 : decode cX8_init 102 = .ok (.aload_n 0, 1) := by decide +kernel
theorem dX8_init_103 : decode cX8_init 103 = .ok (.bipush 16, 2) := by decide +kernel
theorem dX8_init_105 : decode cX8_init 105 = .ok (.newarray .int, 2) := by decide +kernel
theorem dX8_init_107 : decode cX8_init 107 = .ok (.putfield 47, 3) := by decide +kernel
theorem dX8_init_110 : decode cX8_init 110 = .ok (.aload_n 0, 1) := by decide +kernel
theorem dX8_init_111 : decode cX8_init 111 = .ok (.bipush 8, 2) := by decide +kernel
theorem dX8_init_113 : decode cX8_init 113 = .ok (.newarray .int, 2) := by decide +kernel
theorem dX8_init_115 : decode cX8_init 115 = .ok (.putfield 50, 3) := by decide +kernel
theorem dX8_init_118 : decode cX8_init 118 = .ok (.aload_n 0, 1) := by decide +kernel
theorem dX8_init_119 : decode cX8_init 119 = .ok (.bipush 8, 2) := by decide +kernel
theorem dX8_init_121 : decode cX8_init 121 = .ok (.newarray .int, 2) := by decide +kernel
theorem dX8_init_123 : decode cX8_init 123 = .ok (.putfield 53, 3) := by decide +kernel
theorem dX8_init_126 : decode cX8_init 126 = .ok (.aload_n 0, 1) := by decide +kernel
theorem dX8_init_127 : decode cX8_init 127 = .ok (.bipush 8, 2) := by decide +kernel
theorem dX8_init_129 : decode cX8_init 129 = .ok (.newarray .boolean, 2) := by decide +kernel
theorem dX8_init_131 : decode cX8_init 131 = .ok (.putfield 56, 3) := by decide +kernel
theorem dX8_init_134 : decode cX8_init 134 = .ok (.aload_n 0, 1) := by decide +kernel
theorem dX8_init_135 : decode cX8_init 135 = .ok (.iconst (-1), 1) := by decide +kernel
theorem dX8_init_136 : decode cX8_init 136 = .ok (.putfield 59, 3) := by decide +kernel
theorem dX8_init_139 : decode cX8_init 139 = .ok (.aload_n 0, 1) := by decide +kernel
theorem dX8_init_140 : decode cX8_init 140 = .ok (.iconst (-1), 1) := by decide +kernel
theorem dX8_init_141 : decode cX8_init 141 = .ok (.putfield 63, 3) := by decide +kernel
theorem dX8_init_144 : decode cX8_init 144 = .ok (.aload_n 0, 1) := by decide +kernel
theorem dX8_init_145 : decode cX8_init 145 = .ok (.iconst (-1), 1) := by decide +kernel
theorem dX8_init_146 : decode cX8_init 146 = .ok (.putfield 66, 3) := by decide +kernel
theorem dX8_init_149 : decode cX8_init 149 = .ok (.aload_n 0, 1) := by decide +kernel
theorem dX8_init_150 : decode cX8_init 150 = .ok (.sipush 1440, 3) := by decide +kernel
theorem dX8_init_153 : decode cX8_init 153 = .ok (.newarray .int, 2) := by decide +kernel
theorem dX8_init_155 : decode cX8_init 155 = .ok (.putfield 69, 3) := by decide +kernel
theorem dX8_init_158 : decode cX8_init 158 = .ok (.aload_n 0, 1) := by decide +kernel
theorem dX8_init_159 : decode cX8_init 159 = .ok (.sipush 1440, 3) := by decide +kernel
theorem dX8_init_162 : decode cX8_init 162 = .ok (.newarray .int, 2) := by decide +kernel
theorem dX8_init_164 : decode cX8_init 164 = .ok (.putfield 72, 3) := by decide +kernel
theorem dX8_init_167 : decode cX8_init 167 = .ok (.aload_n 0, 1) := by decide +kernel
theorem dX8_init_168 : decode cX8_init 168 = .ok (.bipush 16, 2) := by decide +kernel
theorem dX8_init_170 : decode cX8_init 170 = .ok (.newarray .int, 2) := by decide +kernel
theorem dX8_init_172 : decode cX8_init 172 = .ok (.putfield 75, 3) := by decide +kernel
theorem dX8_init_175 : decode cX8_init 175 = .ok (.aload_n 0, 1) := by decide +kernel
theorem dX8_init_176 : decode cX8_init 176 = .ok (.iconst 4, 1) := by decide +kernel
theorem dX8_init_177 : decode cX8_init 177 = .ok (.newarray .int, 2) := by decide +kernel
theorem dX8_init_179 : decode cX8_init 179 = .ok (.putfield 78, 3) := by decide +kernel
theorem dX8_init_182 : decode cX8_init 182 = .ok (.aload_n 0, 1) := by decide +kernel
theorem dX8_init_183 : decode cX8_init 183 = .ok (.iconst 4, 1) := by decide +kernel
theorem dX8_init_184 : decode cX8_init 184 = .ok (.newarray .int, 2) := by decide +kernel
theorem dX8_init_186 : decode cX8_init 186 = .ok (.putfield 81, 3) := by decide +kernel
theorem dX8_init_189 : decode cX8_init 189 = .ok (.aload_n 0, 1) := by decide +kernel
theorem dX8_init_190 : decode cX8_init 190 = .ok (.bipush 64, 2) := by decide +kernel
theorem dX8_init_192 : decode cX8_init 192 = .ok (.newarray .boolean, 2) := by decide +kernel
theorem dX8_init_194 : decode cX8_init 194 = .ok (.putfield 84, 3) := by decide +kernel
theorem dX8_init_197 : decode cX8_init 197 = .ok (.aload_n 0, 1) := by decide +kernel
theorem dX8_init_198 : decode cX8_init 198 = .ok (.bipush 64, 2) := by decide +kernel
theorem dX8_init_200 : decode cX8_init 200 = .ok (.newarray .int, 2) := by decide +kernel
theorem dX8_init_202 : decode cX8_init 202 = .ok (.putfield 87, 3) := by decide +kernel
theorem dX8_init_205 : decode cX8_init 205 = .ok (.aload_n 0, 1) := by decide +kernel
theorem dX8_init_206 : decode cX8_init 206 = .ok (.bipush 64, 2) := by decide +kernel
theorem dX8_init_208 : decode cX8_init 208 = .ok (.newarray .int, 2) := by decide +kernel
theorem dX8_init_210 : decode cX8_init 210 = .ok (.putfield 90, 3) := by decide +kernel
theorem dX8_init_213 : decode cX8_init 213 = .ok (.aload_n 0, 1) := by decide +kernel
theorem dX8_init_214 : decode cX8_init 214 = .ok (.bipush 64, 2) := by decide +kernel
theorem dX8_init_216 : decode cX8_init 216 = .ok (.newarray .int, 2) := by decide +kernel
theorem dX8_init_218 : decode cX8_init 218 = .ok (.putfield 93, 3) := by decide +kernel
theorem dX8_init_221 : decode cX8_init 221 = .ok (.aload_n 0, 1) := by decide +kernel
theorem dX8_init_222 : decode cX8_init 222 = .ok (.bipush 64, 2) := by decide +kernel
theorem dX8_init_224 : decode cX8_init 224 = .ok (.newarray .int, 2) := by decide +kernel
theorem dX8_init_226 : decode cX8_init 226 = .ok (.putfield 96, 3) := by decide +kernel
theorem dX8_init_229 : decode cX8_init 229 = .ok (.aload_n 0, 1) := by decide +kernel
theorem dX8_init_230 : decode cX8_init 230 = .ok (.sipush 3840, 3) := by decide +kernel
theorem dX8_init_233 : decode cX8_init 233 = .ok (.newarray .int, 2) := by decide +kernel
theorem dX8_init_235 : decode cX8_init 235 = .ok (.putfield 99, 3) := by decide +kernel
theorem dX8_init_238 : decode cX8_init 238 = .ok (.aload_n 0, 1) := by decide +kernel
theorem dX8_init_239 : decode cX8_init 239 = .ok (.bipush 64, 2) := by decide +kernel
theorem dX8_init_241 : decode cX8_init 241 = .ok (.newarray .int, 2) := by decide +kernel
theorem dX8_init_243 : decode cX8_init 243 = .ok (.putfield 102, 3) := by decide +kernel
theorem dX8_init_246 : decode cX8_init 246 = .ok (.aload_n 0, 1) := by decide +kernel
theorem dX8_init_247 : decode cX8_init 247 = .ok (.bipush 64, 2) := by decide +kernel
theorem dX8_init_249 : decode cX8_init 249 = .ok (.newarray .int, 2) := by decide +kernel
theorem dX8_init_251 : decode cX8_init 251 = .ok (.putfield 105, 3) := by decide +kernel
theorem dX8_init_254 : decode cX8_init 254 = .ok (.aload_n 0, 1) := by decide +kernel
theorem dX8_init_255 : decode cX8_init 255 = .ok (.bipush 64, 2) := by decide +kernel
theorem dX8_init_257 : decode cX8_init 257 = .ok (.newarray .long, 2) := by decide +kernel
theorem dX8_init_259 : decode cX8_init 259 = .ok (.putfield 108, 3) := by decide +kernel
theorem dX8_init_262 : decode cX8_init 262 = .ok (.aload_n 0, 1) := by decide +kernel
theorem dX8_init_263 : decode cX8_init 263 = .ok (.bipush 64, 2) := by decide +kernel
theorem dX8_init_265 : decode cX8_init 265 = .ok (.newarray .long, 2) := by decide +kernel
theorem dX8_init_267 : decode cX8_init 267 = .ok (.putfield 112, 3) := by decide +kernel
theorem dX8_init_270 : decode cX8_init 270 = .ok (.aload_n 0, 1) := by decide +kernel
theorem dX8_init_271 : decode cX8_init 271 = .ok (.bipush 64, 2) := by decide +kernel
theorem dX8_init_273 : decode cX8_init 273 = .ok (.newarray .long, 2) := by decide +kernel
theorem dX8_init_275 : decode cX8_init 275 = .ok (.putfield 115, 3) := by decide +kernel
theorem dX8_init_278 : decode cX8_init 278 = .ok (.aload_n 0, 1) := by decide +kernel
theorem dX8_init_279 : decode cX8_init 279 = .ok (.bipush 64, 2) := by decide +kernel
theorem dX8_init_281 : decode cX8_init 281 = .ok (.newarray .long, 2) := by decide +kernel
theorem dX8_init_283 : decode cX8_init 283 = .ok (.putfield 118, 3) := by decide +kernel
theorem dX8_init_286 : decode cX8_init 286 = .ok (.aload_n 0, 1) := by decide +kernel
theorem dX8_init_287 : decode cX8_init 287 = .ok (.bipush 64, 2) := by decide +kernel
theorem dX8_init_289 : decode cX8_init 289 = .ok (.newarray .long, 2) := by decide +kernel
theorem dX8_init_291 : decode cX8_init 291 = .ok (.putfield 121, 3) := by decide +kernel
theorem dX8_init_294 : decode cX8_init 294 = .ok (.aload_n 0, 1) := by decide +kernel
theorem dX8_init_295 : decode cX8_init 295 = .ok (.bipush 64, 2) := by decide +kernel
theorem dX8_init_297 : decode cX8_init 297 = .ok (.newarray .long, 2) := by decide +kernel
theorem dX8_init_299 : decode cX8_init 299 = .ok (.putfield 124, 3) := by decide +kernel
theorem dX8_init_302 : decode cX8_init 302 = .ok (.aload_n 0, 1) := by decide +kernel
theorem dX8_init_303 : decode cX8_init 303 = .ok (.bipush 64, 2) := by decide +kernel
theorem dX8_init_305 : decode cX8_init 305 = .ok (.newarray .boolean, 2) := by decide +kernel
theorem dX8_init_307 : decode cX8_init 307 = .ok (.putfield 127, 3) := by decide +kernel
theorem dX8_init_310 : decode cX8_init 310 = .ok (.aload_n 0, 1) := by decide +kernel
theorem dX8_init_311 : decode cX8_init 311 = .ok (.sipush 1600, 3) := by decide +kernel
theorem dX8_init_314 : decode cX8_init 314 = .ok (.newarray .int, 2) := by decide +kernel
theorem dX8_init_316 : decode cX8_init 316 = .ok (.putfield 130, 3) := by decide +kernel
theorem dX8_init_319 : decode cX8_init 319 = .ok (.aload_n 0, 1) := by decide +kernel
theorem dX8_init_320 : decode cX8_init 320 = .ok (.iconst 3, 1) := by decide +kernel
theorem dX8_init_321 : decode cX8_init 321 = .ok (.newarray .int, 2) := by decide +kernel
theorem dX8_init_323 : decode cX8_init 323 = .ok (.putfield 133, 3) := by decide +kernel
theorem dX8_init_326 : decode cX8_init 326 = .ok (.aload_n 0, 1) := by decide +kernel
theorem dX8_init_327 : decode cX8_init 327 = .ok (.iconst 3, 1) := by decide +kernel
theorem dX8_init_328 : decode cX8_init 328 = .ok (.newarray .int, 2) := by decide +kernel
theorem dX8_init_330 : decode cX8_init 330 = .ok (.putfield 136, 3) := by decide +kernel
theorem dX8_init_333 : decode cX8_init 333 = .ok (.return_, 1) := by decide +kernel
theorem dX8_isIn_0 : decode cX8_isIn 0 = .ok (.iload_n 0, 1) := by decide +kernel
theorem dX8_isIn_1 : decode cX8_isIn 1 = .ok (.iload_n 1, 1) := by decide +kernel
theorem dX8_isIn_2 : decode cX8_isIn 2 = .ok (.if_icmp .lt 12, 3) := by decide +kernel
theorem dX8_isIn_5 : decode cX8_isIn 5 = .ok (.iload_n 0, 1) := by decide +kernel
theorem dX8_isIn_6 : decode cX8_isIn 6 = .ok (.iload_n 2, 1) := by decide +kernel
theorem dX8_isIn_7 : decode cX8_isIn 7 = .ok (.if_icmp .gt 7, 3) := by decide +kernel
theorem dX8_isIn_10 : decode cX8_isIn 10 = .ok (.iconst 1, 1) := by decide +kernel
theorem dX8_isIn_11 : decode cX8_isIn 11 = .ok (.goto 4, 3) := by decide +kernel
theorem dX8_isIn_14 : decode cX8_isIn 14 = .ok (.iconst 0, 1) := by decide +kernel
theorem dX8_isIn_15 : decode cX8_isIn 15 = .ok (.ireturn, 1) := by decide +kernel
theorem dX8_isJunction_0 : decode cX8_isJunction 0 = .ok (.iload_n 1, 1) := by decide +kernel
theorem dX8_isJunction_1 : decode cX8_isJunction 1 = .ok (.ifCond .lt 15, 3) := by decide +kernel
theorem dX8_isJunction_4 : decode cX8_isJunction 4 = .ok (.iload_n 1, 1) := by decide +kernel
theorem dX8_isJunction_5 : decode cX8_isJunction 5 = .ok (.aload_n 0, 1) := by decide +kernel
theorem dX8_isJunction_6 : decode cX8_isJunction 6 = .ok (.getfield 139, 3) := by decide +kernel
theorem dX8_isJunction_9 : decode cX8_isJunction 9 = .ok (.if_icmp .ge 7, 3) := by decide +kernel
theorem dX8_isJunction_12 : decode cX8_isJunction 12 = .ok (.iconst 1, 1) := by decide +kernel
theorem dX8_isJunction_13 : decode cX8_isJunction 13 = .ok (.goto 4, 3) := by decide +kernel
theorem dX8_isJunction_16 : decode cX8_isJunction 16 = .ok (.iconst 0, 1) := by decide +kernel
theorem dX8_isJunction_17 : decode cX8_isJunction 17 = .ok (.ireturn, 1) := by decide +kernel
theorem dX8_isStream_0 : decode cX8_isStream 0 = .ok (.aload_n 0, 1) := by decide +kernel
theorem dX8_isStream_1 : decode cX8_isStream 1 = .ok (.iload_n 1, 1) := by decide +kernel
theorem dX8_isStream_2 : decode cX8_isStream 2 = .ok (.invokevirtual 142, 3) := by decide +kernel
theorem dX8_isStream_5 : decode cX8_isStream 5 = .ok (.ifCond .eq 21, 3) := by decide +kernel
theorem dX8_isStream_8 : decode cX8_isStream 8 = .ok (.iload_n 2, 1) := by decide +kernel
theorem dX8_isStream_9 : decode cX8_isStream 9 = .ok (.ifCond .lt 17, 3) := by decide +kernel
theorem dX8_isStream_12 : decode cX8_isStream 12 = .ok (.iload_n 2, 1) := by decide +kernel
theorem dX8_isStream_13 : decode cX8_isStream 13 = .ok (.aload_n 0, 1) := by decide +kernel
theorem dX8_isStream_14 : decode cX8_isStream 14 = .ok (.getfield 7, 3) := by decide +kernel
theorem dX8_isStream_17 : decode cX8_isStream 17 = .ok (.iload_n 1, 1) := by decide +kernel
theorem dX8_isStream_18 : decode cX8_isStream 18 = .ok (.iaload, 1) := by decide +kernel
theorem dX8_isStream_19 : decode cX8_isStream 19 = .ok (.if_icmp .ge 7, 3) := by decide +kernel
theorem dX8_isStream_22 : decode cX8_isStream 22 = .ok (.iconst 1, 1) := by decide +kernel
theorem dX8_isStream_23 : decode cX8_isStream 23 = .ok (.goto 4, 3) := by decide +kernel
theorem dX8_isStream_26 : decode cX8_isStream 26 = .ok (.iconst 0, 1) := by decide +kernel
theorem dX8_isStream_27 : decode cX8_isStream 27 = .ok (.ireturn, 1) := by decide +kernel
theorem dX8_isPlanned_0 : decode cX8_isPlanned 0 = .ok (.aload_n 0, 1) := by decide +kernel
theorem dX8_isPlanned_1 : decode cX8_isPlanned 1 = .ok (.getfield 32, 3) := by decide +kernel
theorem dX8_isPlanned_4 : decode cX8_isPlanned 4 = .ok (.iload_n 1, 1) := by decide +kernel
theorem dX8_isPlanned_5 : decode cX8_isPlanned 5 = .ok (.baload, 1) := by decide +kernel
theorem dX8_isPlanned_6 : decode cX8_isPlanned 6 = .ok (.ifCond .ne 15, 3) := by decide +kernel
theorem dX8_isPlanned_9 : decode cX8_isPlanned 9 = .ok (.aload_n 0, 1) := by decide +kernel
theorem dX8_isPlanned_10 : decode cX8_isPlanned 10 = .ok (.getfield 32, 3) := by decide +kernel
theorem dX8_isPlanned_13 : decode cX8_isPlanned 13 = .ok (.bipush 8, 2) := by decide +kernel
theorem dX8_isPlanned_15 : decode cX8_isPlanned 15 = .ok (.iload_n 1, 1) := by decide +kernel
theorem dX8_isPlanned_16 : decode cX8_isPlanned 16 = .ok (.iadd, 1) := by decide +kernel
theorem dX8_isPlanned_17 : decode cX8_isPlanned 17 = .ok (.baload, 1) := by decide +kernel
theorem dX8_isPlanned_18 : decode cX8_isPlanned 18 = .ok (.ifCond .eq 7, 3) := by decide +kernel
theorem dX8_isPlanned_21 : decode cX8_isPlanned 21 = .ok (.iconst 1, 1) := by decide +kernel
theorem dX8_isPlanned_22 : decode cX8_isPlanned 22 = .ok (.goto 4, 3) := by decide +kernel
theorem dX8_isPlanned_25 : decode cX8_isPlanned 25 = .ok (.iconst 0, 1) := by decide +kernel
theorem dX8_isPlanned_26 : decode cX8_isPlanned 26 = .ok (.ireturn, 1) := by decide +kernel
theorem dX8_junction_0 : decode cX8_junction 0 = .ok (.aload_n 0, 1) := by decide +kernel
theorem dX8_junction_1 : decode cX8_junction 1 = .ok (.getfield 139, 3) := by decide +kernel
theorem dX8_junction_4 : decode cX8_junction 4 = .ok (.bipush 8, 2) := by decide +kernel
theorem dX8_junction_6 : decode cX8_junction 6 = .ok (.if_icmp .eq 10, 3) := by decide +kernel
theorem dX8_junction_9 : decode cX8_junction 9 = .ok (.aload_n 0, 1) := by decide +kernel
theorem dX8_junction_10 : decode cX8_junction 10 = .ok (.getfield 146, 3) := by decide +kernel
theorem dX8_junction_13 : decode cX8_junction 13 = .ok (.ifCond .le 5, 3) := by decide +kernel
theorem dX8_junction_16 : decode cX8_junction 16 = .ok (.iconst (-1), 1) := by decide +kernel
theorem dX8_junction_17 : decode cX8_junction 17 = .ok (.ireturn, 1) := by decide +kernel
theorem dX8_junction_18 : decode cX8_junction 18 = .ok (.aload_n 0, 1) := by decide +kernel
theorem dX8_junction_19 : decode cX8_junction 19 = .ok (.dup, 1) := by decide +kernel
theorem dX8_junction_20 : decode cX8_junction 20 = .ok (.getfield 139, 3) := by decide +kernel
theorem dX8_junction_23 : decode cX8_junction 23 = .ok (.iconst 1, 1) := by decide +kernel
theorem dX8_junction_24 : decode cX8_junction 24 = .ok (.iadd, 1) := by decide +kernel
theorem dX8_junction_25 : decode cX8_junction 25 = .ok (.putfield 139, 3) := by decide +kernel
theorem dX8_junction_28 : decode cX8_junction 28 = .ok (.aload_n 0, 1) := by decide +kernel
theorem dX8_junction_29 : decode cX8_junction 29 = .ok (.getfield 139, 3) := by decide +kernel
theorem dX8_junction_32 : decode cX8_junction 32 = .ok (.iconst 1, 1) := by decide +kernel
theorem dX8_junction_33 : decode cX8_junction 33 = .ok (.isub, 1) := by decide +kernel
theorem dX8_junction_34 : decode cX8_junction 34 = .ok (.ireturn, 1) := by decide +kernel
theorem dX8_stream_0 : decode cX8_stream 0 = .ok (.aload_n 0, 1) := by decide +kernel
theorem dX8_stream_1 : decode cX8_stream 1 = .ok (.iload_n 1, 1) := by decide +kernel
theorem dX8_stream_2 : decode cX8_stream 2 = .ok (.invokevirtual 142, 3) := by decide +kernel
theorem dX8_stream_5 : decode cX8_stream 5 = .ok (.ifCond .eq 53, 3) := by decide +kernel
theorem dX8_stream_8 : decode cX8_stream 8 = .ok (.iload_n 2, 1) := by decide +kernel
theorem dX8_stream_9 : decode cX8_stream 9 = .ok (.iconst 0, 1) := by decide +kernel
theorem dX8_stream_10 : decode cX8_stream 10 = .ok (.iconst 3, 1) := by decide +kernel
theorem dX8_stream_11 : decode cX8_stream 11 = .ok (.invokestatic 149, 3) := by decide +kernel
theorem dX8_stream_14 : decode cX8_stream 14 = .ok (.ifCond .eq 44, 3) := by decide +kernel
theorem dX8_stream_17 : decode cX8_stream 17 = .ok (.iload_n 3, 1) := by decide +kernel
theorem dX8_stream_18 : decode cX8_stream 18 = .ok (.iconst 0, 1) := by decide +kernel
theorem dX8_stream_19 : decode cX8_stream 19 = .ok (.sipush 3600, 3) := by decide +kernel
theorem dX8_stream_22 : decode cX8_stream 22 = .ok (.invokestatic 149, 3) := by decide +kernel
theorem dX8_stream_25 : decode cX8_stream 25 = .ok (.ifCond .eq 33, 3) := by decide +kernel
theorem dX8_stream_28 : decode cX8_stream 28 = .ok (.iload_n 2, 1) := by decide +kernel
theorem dX8_stream_29 : decode cX8_stream 29 = .ok (.iconst 2, 1) := by decide +kernel
theorem dX8_stream_30 : decode cX8_stream 30 = .ok (.if_icmp .ge 17, 3) := by decide +kernel
theorem dX8_stream_33 : decode cX8_stream 33 = .ok (.iload 4, 2) := by decide +kernel
theorem dX8_stream_35 : decode cX8_stream 35 = .ok (.sipush 600, 3) := by decide +kernel
theorem dX8_stream_38 : decode cX8_stream 38 = .ok (.sipush 3600, 3) := by decide +kernel
theorem dX8_stream_41 : decode cX8_stream 41 = .ok (.invokestatic 149, 3) := by decide +kernel
theorem dX8_stream_44 : decode cX8_stream 44 = .ok (.ifCond .eq 14, 3) := by decide +kernel
theorem dX8_stream_47 : decode cX8_stream 47 = .ok (.iload 5, 2) := by decide +kernel
theorem dX8_stream_49 : decode cX8_stream 49 = .ok (.iconst 4, 1) := by decide +kernel
theorem dX8_stream_50 : decode cX8_stream 50 = .ok (.bipush 30, 2) := by decide +kernel
theorem dX8_stream_52 : decode cX8_stream 52 = .ok (.invokestatic 149, 3) := by decide +kernel
theorem dX8_stream_55 : decode cX8_stream 55 = .ok (.ifCond .ne 5, 3) := by decide +kernel
theorem dX8_stream_58 : decode cX8_stream 58 = .ok (.iconst (-1), 1) := by decide +kernel
theorem dX8_stream_59 : decode cX8_stream 59 = .ok (.ireturn, 1) := by decide +kernel
theorem dX8_stream_60 : decode cX8_stream 60 = .ok (.aload_n 0, 1) := by decide +kernel
theorem dX8_stream_61 : decode cX8_stream 61 = .ok (.getfield 7, 3) := by decide +kernel
theorem dX8_stream_64 : decode cX8_stream 64 = .ok (.iload_n 1, 1) := by decide +kernel
theorem dX8_stream_65 : decode cX8_stream 65 = .ok (.iaload, 1) := by decide +kernel
theorem dX8_stream_66 : decode cX8_stream 66 = .ok (.bipush 8, 2) := by decide +kernel
theorem dX8_stream_68 : decode cX8_stream 68 = .ok (.if_icmp .eq 18, 3) := by decide +kernel
theorem dX8_stream_71 : decode cX8_stream 71 = .ok (.aload_n 0, 1) := by decide +kernel
theorem dX8_stream_72 : decode cX8_stream 72 = .ok (.iload_n 1, 1) := by decide +kernel
theorem dX8_stream_73 : decode cX8_stream 73 = .ok (.invokevirtual 153, 3) := by decide +kernel
theorem dX8_stream_76 : decode cX8_stream 76 = .ok (.ifCond .ne 10, 3) := by decide +kernel
theorem dX8_stream_79 : decode cX8_stream 79 = .ok (.aload_n 0, 1) := by decide +kernel
theorem dX8_stream_80 : decode cX8_stream 80 = .ok (.getfield 146, 3) := by decide +kernel
theorem dX8_stream_83 : decode cX8_stream 83 = .ok (.ifCond .le 5, 3) := by decide +kernel
theorem dX8_stream_86 : decode cX8_stream 86 = .ok (.iconst (-1), 1) := by decide +kernel
theorem dX8_stream_87 : decode cX8_stream 87 = .ok (.ireturn, 1) := by decide +kernel
theorem dX8_stream_88 : decode cX8_stream 88 = .ok (.bipush 8, 2) := by decide +kernel
theorem dX8_stream_90 : decode cX8_stream 90 = .ok (.iload_n 1, 1) := by decide +kernel
theorem dX8_stream_91 : decode cX8_stream 91 = .ok (.imul, 1) := by decide +kernel
theorem dX8_stream_92 : decode cX8_stream 92 = .ok (.aload_n 0, 1) := by decide +kernel
theorem dX8_stream_93 : decode cX8_stream 93 = .ok (.getfield 7, 3) := by decide +kernel
theorem dX8_stream_96 : decode cX8_stream 96 = .ok (.iload_n 1, 1) := by decide +kernel
theorem dX8_stream_97 : decode cX8_stream 97 = .ok (.iaload, 1) := by decide +kernel
theorem dX8_stream_98 : decode cX8_stream 98 = .ok (.iadd, 1) := by decide +kernel
theorem dX8_stream_99 : decode cX8_stream 99 = .ok (.istore 6, 2) := by decide +kernel
theorem dX8_stream_101 : decode cX8_stream 101 = .ok (.aload_n 0, 1) := by decide +kernel
theorem dX8_stream_102 : decode cX8_stream 102 = .ok (.getfield 7, 3) := by decide +kernel
theorem dX8_stream_105 : decode cX8_stream 105 = .ok (.iload_n 1, 1) := by decide +kernel
theorem dX8_stream_106 : decode cX8_stream 106 = .ok (.dup2, 1) := by decide +kernel
theorem dX8_stream_107 : decode cX8_stream 107 = .ok (.iaload, 1) := by decide +kernel
theorem dX8_stream_108 : decode cX8_stream 108 = .ok (.iconst 1, 1) := by decide +kernel
theorem dX8_stream_109 : decode cX8_stream 109 = .ok (.iadd, 1) := by decide +kernel
theorem dX8_stream_110 : decode cX8_stream 110 = .ok (.iastore, 1) := by decide +kernel
theorem dX8_stream_111 : decode cX8_stream 111 = .ok (.aload_n 0, 1) := by decide +kernel
theorem dX8_stream_112 : decode cX8_stream 112 = .ok (.getfield 13, 3) := by decide +kernel
theorem dX8_stream_115 : decode cX8_stream 115 = .ok (.iload 6, 2) := by decide +kernel
theorem dX8_stream_117 : decode cX8_stream 117 = .ok (.iload_n 2, 1) := by decide +kernel
theorem dX8_stream_118 : decode cX8_stream 118 = .ok (.iastore, 1) := by decide +kernel
theorem dX8_stream_119 : decode cX8_stream 119 = .ok (.aload_n 0, 1) := by decide +kernel
theorem dX8_stream_120 : decode cX8_stream 120 = .ok (.getfield 16, 3) := by decide +kernel
theorem dX8_stream_123 : decode cX8_stream 123 = .ok (.iload 6, 2) := by decide +kernel
theorem dX8_stream_125 : decode cX8_stream 125 = .ok (.iload_n 3, 1) := by decide +kernel
theorem dX8_stream_126 : decode cX8_stream 126 = .ok (.iastore, 1) := by decide +kernel
theorem dX8_stream_127 : decode cX8_stream 127 = .ok (.aload_n 0, 1) := by decide +kernel
theorem dX8_stream_128 : decode cX8_stream 128 = .ok (.getfield 19, 3) := by decide +kernel
theorem dX8_stream_131 : decode cX8_stream 131 = .ok (.iload 6, 2) := by decide +kernel
theorem dX8_stream_133 : decode cX8_stream 133 = .ok (.iload_n 2, 1) := by decide +kernel
theorem dX8_stream_134 : decode cX8_stream 134 = .ok (.iconst 2, 1) := by decide +kernel
theorem dX8_stream_135 : decode cX8_stream 135 = .ok (.if_icmp .ne 9, 3) := by decide +kernel
theorem dX8_stream_138 : decode cX8_stream 138 = .ok (.sipush 3600, 3) := by decide +kernel
theorem dX8_stream_141 : decode cX8_stream 141 = .ok (.goto 16, 3) := by decide +kernel
theorem dX8_stream_144 : decode cX8_stream 144 = .ok (.iload_n 2, 1) := by decide +kernel
theorem dX8_stream_145 : decode cX8_stream 145 = .ok (.iconst 3, 1) := by decide +kernel
theorem dX8_stream_146 : decode cX8_stream 146 = .ok (.if_icmp .ne 9, 3) := by decide +kernel
theorem dX8_stream_149 : decode cX8_stream 149 = .ok (.sipush 1200, 3) := by decide +kernel
theorem dX8_stream_152 : decode cX8_stream 152 = .ok (.goto 5, 3) := by decide +kernel
theorem dX8_stream_155 : decode cX8_stream 155 = .ok (.iload 4, 2) := by decide +kernel
theorem dX8_stream_157 : decode cX8_stream 157 = .ok (.iastore, 1) := by decide +kernel
theorem dX8_stream_158 : decode cX8_stream 158 = .ok (.aload_n 0, 1) := by decide +kernel
theorem dX8_stream_159 : decode cX8_stream 159 = .ok (.getfield 22, 3) := by decide +kernel
theorem dX8_stream_162 : decode cX8_stream 162 = .ok (.iload 6, 2) := by decide +kernel
theorem dX8_stream_164 : decode cX8_stream 164 = .ok (.iload 5, 2) := by decide +kernel
theorem dX8_stream_166 : decode cX8_stream 166 = .ok (.iload_n 2, 1) := by decide +kernel
theorem dX8_stream_167 : decode cX8_stream 167 = .ok (.iconst 1, 1) := by decide +kernel
theorem dX8_stream_168 : decode cX8_stream 168 = .ok (.if_icmp .ne 7, 3) := by decide +kernel
theorem dX8_stream_171 : decode cX8_stream 171 = .ok (.iconst 5, 1) := by decide +kernel
theorem dX8_stream_172 : decode cX8_stream 172 = .ok (.goto 14, 3) := by decide +kernel
theorem dX8_stream_175 : decode cX8_stream 175 = .ok (.iload_n 2, 1) := by decide +kernel
theorem dX8_stream_176 : decode cX8_stream 176 = .ok (.iconst 2, 1) := by decide +kernel
theorem dX8_stream_177 : decode cX8_stream 177 = .ok (.if_icmp .ne 8, 3) := by decide +kernel
theorem dX8_stream_180 : decode cX8_stream 180 = .ok (.bipush 8, 2) := by decide +kernel
theorem dX8_stream_182 : decode cX8_stream 182 = .ok (.goto 4, 3) := by decide +kernel
theorem dX8_stream_185 : decode cX8_stream 185 = .ok (.iconst 4, 1) := by decide +kernel
theorem dX8_stream_186 : decode cX8_stream 186 = .ok (.invokestatic 156, 3) := by decide +kernel
theorem dX8_stream_189 : decode cX8_stream 189 = .ok (.iastore, 1) := by decide +kernel
theorem dX8_stream_190 : decode cX8_stream 190 = .ok (.aload_n 0, 1) := by decide +kernel
theorem dX8_stream_191 : decode cX8_stream 191 = .ok (.getfield 7, 3) := by decide +kernel
theorem dX8_stream_194 : decode cX8_stream 194 = .ok (.iload_n 1, 1) := by decide +kernel
theorem dX8_stream_195 : decode cX8_stream 195 = .ok (.iaload, 1) := by decide +kernel
theorem dX8_stream_196 : decode cX8_stream 196 = .ok (.iconst 1, 1) := by decide +kernel
theorem dX8_stream_197 : decode cX8_stream 197 = .ok (.isub, 1) := by decide +kernel
theorem dX8_stream_198 : decode cX8_stream 198 = .ok (.ireturn, 1) := by decide +kernel
theorem dX8_seconds_0 : decode cX8_seconds 0 = .ok (.aload_n 0, 1) := by decide +kernel
theorem dX8_seconds_1 : decode cX8_seconds 1 = .ok (.getfield 25, 3) := by decide +kernel
theorem dX8_seconds_4 : decode cX8_seconds 4 = .ok (.bipush 64, 2) := by decide +kernel
theorem dX8_seconds_6 : decode cX8_seconds 6 = .ok (.iload_n 1, 1) := by decide +kernel
theorem dX8_seconds_7 : decode cX8_seconds 7 = .ok (.imul, 1) := by decide +kernel
theorem dX8_seconds_8 : decode cX8_seconds 8 = .ok (.bipush 8, 2) := by decide +kernel
theorem dX8_seconds_10 : decode cX8_seconds 10 = .ok (.iload_n 2, 1) := by decide +kernel
theorem dX8_seconds_11 : decode cX8_seconds 11 = .ok (.imul, 1) := by decide +kernel
theorem dX8_seconds_12 : decode cX8_seconds 12 = .ok (.iadd, 1) := by decide +kernel
theorem dX8_seconds_13 : decode cX8_seconds 13 = .ok (.iload_n 3, 1) := by decide +kernel
theorem dX8_seconds_14 : decode cX8_seconds 14 = .ok (.iadd, 1) := by decide +kernel
theorem dX8_seconds_15 : decode cX8_seconds 15 = .ok (.iaload, 1) := by decide +kernel
theorem dX8_seconds_16 : decode cX8_seconds 16 = .ok (.ireturn, 1) := by decide +kernel
theorem dX8_isYielding_0 : decode cX8_isYielding 0 = .ok (.aload_n 0, 1) := by decide +kernel
theorem dX8_isYielding_1 : decode cX8_isYielding 1 = .ok (.getfield 28, 3) := by decide +kernel
theorem dX8_isYielding_4 : decode cX8_isYielding 4 = .ok (.bipush 64, 2) := by decide +kernel
theorem dX8_isYielding_6 : decode cX8_isYielding 6 = .ok (.iload_n 1, 1) := by decide +kernel
theorem dX8_isYielding_7 : decode cX8_isYielding 7 = .ok (.imul, 1) := by decide +kernel
theorem dX8_isYielding_8 : decode cX8_isYielding 8 = .ok (.bipush 8, 2) := by decide +kernel
theorem dX8_isYielding_10 : decode cX8_isYielding 10 = .ok (.iload_n 2, 1) := by decide +kernel
theorem dX8_isYielding_11 : decode cX8_isYielding 11 = .ok (.imul, 1) := by decide +kernel
theorem dX8_isYielding_12 : decode cX8_isYielding 12 = .ok (.iadd, 1) := by decide +kernel
theorem dX8_isYielding_13 : decode cX8_isYielding 13 = .ok (.iload_n 3, 1) := by decide +kernel
theorem dX8_isYielding_14 : decode cX8_isYielding 14 = .ok (.iadd, 1) := by decide +kernel
theorem dX8_isYielding_15 : decode cX8_isYielding 15 = .ok (.baload, 1) := by decide +kernel
theorem dX8_isYielding_16 : decode cX8_isYielding 16 = .ok (.ifCond .ne 22, 3) := by decide +kernel
theorem dX8_isYielding_19 : decode cX8_isYielding 19 = .ok (.aload_n 0, 1) := by decide +kernel
theorem dX8_isYielding_20 : decode cX8_isYielding 20 = .ok (.getfield 28, 3) := by decide +kernel
theorem dX8_isYielding_23 : decode cX8_isYielding 23 = .ok (.bipush 64, 2) := by decide +kernel
theorem dX8_isYielding_25 : decode cX8_isYielding 25 = .ok (.iload_n 1, 1) := by decide +kernel
theorem dX8_isYielding_26 : decode cX8_isYielding 26 = .ok (.imul, 1) := by decide +kernel
theorem dX8_isYielding_27 : decode cX8_isYielding 27 = .ok (.bipush 8, 2) := by decide +kernel
theorem dX8_isYielding_29 : decode cX8_isYielding 29 = .ok (.iload_n 3, 1) := by decide +kernel
theorem dX8_isYielding_30 : decode cX8_isYielding 30 = .ok (.imul, 1) := by decide +kernel
theorem dX8_isYielding_31 : decode cX8_isYielding 31 = .ok (.iadd, 1) := by decide +kernel
theorem dX8_isYielding_32 : decode cX8_isYielding 32 = .ok (.iload_n 2, 1) := by decide +kernel
theorem dX8_isYielding_33 : decode cX8_isYielding 33 = .ok (.iadd, 1) := by decide +kernel
theorem dX8_isYielding_34 : decode cX8_isYielding 34 = .ok (.baload, 1) := by decide +kernel
theorem dX8_isYielding_35 : decode cX8_isYielding 35 = .ok (.ifCond .eq 7, 3) := by decide +kernel
theorem dX8_isYielding_38 : decode cX8_isYielding 38 = .ok (.iconst 1, 1) := by decide +kernel
theorem dX8_isYielding_39 : decode cX8_isYielding 39 = .ok (.goto 4, 3) := by decide +kernel
theorem dX8_isYielding_42 : decode cX8_isYielding 42 = .ok (.iconst 0, 1) := by decide +kernel
theorem dX8_isYielding_43 : decode cX8_isYielding 43 = .ok (.ireturn, 1) := by decide +kernel
theorem dX8_apart_0 : decode cX8_apart 0 = .ok (.aload_n 0, 1) := by decide +kernel
theorem dX8_apart_1 : decode cX8_apart 1 = .ok (.iload_n 1, 1) := by decide +kernel
theorem dX8_apart_2 : decode cX8_apart 2 = .ok (.iload_n 2, 1) := by decide +kernel
theorem dX8_apart_3 : decode cX8_apart 3 = .ok (.iload_n 3, 1) := by decide +kernel
theorem dX8_apart_4 : decode cX8_apart 4 = .ok (.invokevirtual 162, 3) := by decide +kernel
theorem dX8_apart_7 : decode cX8_apart 7 = .ok (.ifCond .eq 7, 3) := by decide +kernel
theorem dX8_apart_10 : decode cX8_apart 10 = .ok (.iconst 0, 1) := by decide +kernel
theorem dX8_apart_11 : decode cX8_apart 11 = .ok (.goto 10, 3) := by decide +kernel
theorem dX8_apart_14 : decode cX8_apart 14 = .ok (.aload_n 0, 1) := by decide +kernel
theorem dX8_apart_15 : decode cX8_apart 15 = .ok (.iload_n 1, 1) := by decide +kernel
theorem dX8_apart_16 : decode cX8_apart 16 = .ok (.iload_n 2, 1) := by decide +kernel
theorem dX8_apart_17 : decode cX8_apart 17 = .ok (.iload_n 3, 1) := by decide +kernel
theorem dX8_apart_18 : decode cX8_apart 18 = .ok (.invokevirtual 165, 3) := by decide +kernel
theorem dX8_apart_21 : decode cX8_apart 21 = .ok (.ireturn, 1) := by decide +kernel
theorem dX8_against_0 : decode cX8_against 0 = .ok (.aload_n 0, 1) := by decide +kernel
theorem dX8_against_1 : decode cX8_against 1 = .ok (.iload_n 1, 1) := by decide +kernel
theorem dX8_against_2 : decode cX8_against 2 = .ok (.iload_n 2, 1) := by decide +kernel
theorem dX8_against_3 : decode cX8_against 3 = .ok (.invokevirtual 169, 3) := by decide +kernel
theorem dX8_against_6 : decode cX8_against 6 = .ok (.ifCond .eq 47, 3) := by decide +kernel
theorem dX8_against_9 : decode cX8_against 9 = .ok (.aload_n 0, 1) := by decide +kernel
theorem dX8_against_10 : decode cX8_against 10 = .ok (.iload_n 1, 1) := by decide +kernel
theorem dX8_against_11 : decode cX8_against 11 = .ok (.iload_n 3, 1) := by decide +kernel
theorem dX8_against_12 : decode cX8_against 12 = .ok (.invokevirtual 169, 3) := by decide +kernel
theorem dX8_against_15 : decode cX8_against 15 = .ok (.ifCond .eq 38, 3) := by decide +kernel
theorem dX8_against_18 : decode cX8_against 18 = .ok (.iload_n 2, 1) := by decide +kernel
theorem dX8_against_19 : decode cX8_against 19 = .ok (.iload_n 3, 1) := by decide +kernel
theorem dX8_against_20 : decode cX8_against 20 = .ok (.if_icmp .eq 33, 3) := by decide +kernel
theorem dX8_against_23 : decode cX8_against 23 = .ok (.iload 4, 2) := by decide +kernel
theorem dX8_against_25 : decode cX8_against 25 = .ok (.iconst 1, 1) := by decide +kernel
theorem dX8_against_26 : decode cX8_against 26 = .ok (.bipush 20, 2) := by decide +kernel
theorem dX8_against_28 : decode cX8_against 28 = .ok (.invokestatic 149, 3) := by decide +kernel
theorem dX8_against_31 : decode cX8_against 31 = .ok (.ifCond .eq 22, 3) := by decide +kernel
theorem dX8_against_34 : decode cX8_against 34 = .ok (.iload 5, 2) := by decide +kernel
theorem dX8_against_36 : decode cX8_against 36 = .ok (.iconst 1, 1) := by decide +kernel
theorem dX8_against_37 : decode cX8_against 37 = .ok (.bipush 20, 2) := by decide +kernel
theorem dX8_against_39 : decode cX8_against 39 = .ok (.invokestatic 149, 3) := by decide +kernel
theorem dX8_against_42 : decode cX8_against 42 = .ok (.ifCond .eq 11, 3) := by decide +kernel
theorem dX8_against_45 : decode cX8_against 45 = .ok (.aload_n 0, 1) := by decide +kernel
theorem dX8_against_46 : decode cX8_against 46 = .ok (.iload_n 1, 1) := by decide +kernel
theorem dX8_against_47 : decode cX8_against 47 = .ok (.invokevirtual 153, 3) := by decide +kernel
theorem dX8_against_50 : decode cX8_against 50 = .ok (.ifCond .eq 5, 3) := by decide +kernel
theorem dX8_against_53 : decode cX8_against 53 = .ok (.iconst 0, 1) := by decide +kernel
theorem dX8_against_54 : decode cX8_against 54 = .ok (.ireturn, 1) := by decide +kernel
theorem dX8_against_55 : decode cX8_against 55 = .ok (.aload_n 0, 1) := by decide +kernel
theorem dX8_against_56 : decode cX8_against 56 = .ok (.getfield 25, 3) := by decide +kernel
theorem dX8_against_59 : decode cX8_against 59 = .ok (.bipush 64, 2) := by decide +kernel
theorem dX8_against_61 : decode cX8_against 61 = .ok (.iload_n 1, 1) := by decide +kernel
theorem dX8_against_62 : decode cX8_against 62 = .ok (.imul, 1) := by decide +kernel
theorem dX8_against_63 : decode cX8_against 63 = .ok (.bipush 8, 2) := by decide +kernel
theorem dX8_against_65 : decode cX8_against 65 = .ok (.iload_n 2, 1) := by decide +kernel
theorem dX8_against_66 : decode cX8_against 66 = .ok (.imul, 1) := by decide +kernel
theorem dX8_against_67 : decode cX8_against 67 = .ok (.iadd, 1) := by decide +kernel
theorem dX8_against_68 : decode cX8_against 68 = .ok (.iload_n 3, 1) := by decide +kernel
theorem dX8_against_69 : decode cX8_against 69 = .ok (.iadd, 1) := by decide +kernel
theorem dX8_against_70 : decode cX8_against 70 = .ok (.iload 4, 2) := by decide +kernel
theorem dX8_against_72 : decode cX8_against 72 = .ok (.iastore, 1) := by decide +kernel
theorem dX8_against_73 : decode cX8_against 73 = .ok (.aload_n 0, 1) := by decide +kernel
theorem dX8_against_74 : decode cX8_against 74 = .ok (.getfield 25, 3) := by decide +kernel
theorem dX8_against_77 : decode cX8_against 77 = .ok (.bipush 64, 2) := by decide +kernel
theorem dX8_against_79 : decode cX8_against 79 = .ok (.iload_n 1, 1) := by decide +kernel
theorem dX8_against_80 : decode cX8_against 80 = .ok (.imul, 1) := by decide +kernel
theorem dX8_against_81 : decode cX8_against 81 = .ok (.bipush 8, 2) := by decide +kernel
theorem dX8_against_83 : decode cX8_against 83 = .ok (.iload_n 3, 1) := by decide +kernel
theorem dX8_against_84 : decode cX8_against 84 = .ok (.imul, 1) := by decide +kernel
theorem dX8_against_85 : decode cX8_against 85 = .ok (.iadd, 1) := by decide +kernel
theorem dX8_against_86 : decode cX8_against 86 = .ok (.iload_n 2, 1) := by decide +kernel
theorem dX8_against_87 : decode cX8_against 87 = .ok (.iadd, 1) := by decide +kernel
theorem dX8_against_88 : decode cX8_against 88 = .ok (.iload 5, 2) := by decide +kernel
theorem dX8_against_90 : decode cX8_against 90 = .ok (.iastore, 1) := by decide +kernel
theorem dX8_against_91 : decode cX8_against 91 = .ok (.iconst 1, 1) := by decide +kernel
theorem dX8_against_92 : decode cX8_against 92 = .ok (.ireturn, 1) := by decide +kernel
theorem dX8_yields_0 : decode cX8_yields 0 = .ok (.aload_n 0, 1) := by decide +kernel
theorem dX8_yields_1 : decode cX8_yields 1 = .ok (.iload_n 1, 1) := by decide +kernel
theorem dX8_yields_2 : decode cX8_yields 2 = .ok (.iload_n 2, 1) := by decide +kernel
theorem dX8_yields_3 : decode cX8_yields 3 = .ok (.invokevirtual 169, 3) := by decide +kernel
theorem dX8_yields_6 : decode cX8_yields 6 = .ok (.ifCond .eq 52, 3) := by decide +kernel
theorem dX8_yields_9 : decode cX8_yields 9 = .ok (.aload_n 0, 1) := by decide +kernel
theorem dX8_yields_10 : decode cX8_yields 10 = .ok (.iload_n 1, 1) := by decide +kernel
theorem dX8_yields_11 : decode cX8_yields 11 = .ok (.iload_n 3, 1) := by decide +kernel
theorem dX8_yields_12 : decode cX8_yields 12 = .ok (.invokevirtual 169, 3) := by decide +kernel
theorem dX8_yields_15 : decode cX8_yields 15 = .ok (.ifCond .eq 43, 3) := by decide +kernel
theorem dX8_yields_18 : decode cX8_yields 18 = .ok (.aload_n 0, 1) := by decide +kernel
theorem dX8_yields_19 : decode cX8_yields 19 = .ok (.getfield 13, 3) := by decide +kernel
theorem dX8_yields_22 : decode cX8_yields 22 = .ok (.bipush 8, 2) := by decide +kernel
theorem dX8_yields_24 : decode cX8_yields 24 = .ok (.iload_n 1, 1) := by decide +kernel
theorem dX8_yields_25 : decode cX8_yields 25 = .ok (.imul, 1) := by decide +kernel
theorem dX8_yields_26 : decode cX8_yields 26 = .ok (.iload_n 2, 1) := by decide +kernel
theorem dX8_yields_27 : decode cX8_yields 27 = .ok (.iadd, 1) := by decide +kernel
theorem dX8_yields_28 : decode cX8_yields 28 = .ok (.iaload, 1) := by decide +kernel
theorem dX8_yields_29 : decode cX8_yields 29 = .ok (.iconst 1, 1) := by decide +kernel
theorem dX8_yields_30 : decode cX8_yields 30 = .ok (.if_icmp .ne 28, 3) := by decide +kernel
theorem dX8_yields_33 : decode cX8_yields 33 = .ok (.aload_n 0, 1) := by decide +kernel
theorem dX8_yields_34 : decode cX8_yields 34 = .ok (.getfield 13, 3) := by decide +kernel
theorem dX8_yields_37 : decode cX8_yields 37 = .ok (.bipush 8, 2) := by decide +kernel
theorem dX8_yields_39 : decode cX8_yields 39 = .ok (.iload_n 1, 1) := by decide +kernel
theorem dX8_yields_40 : decode cX8_yields 40 = .ok (.imul, 1) := by decide +kernel
theorem dX8_yields_41 : decode cX8_yields 41 = .ok (.iload_n 3, 1) := by decide +kernel
theorem dX8_yields_42 : decode cX8_yields 42 = .ok (.iadd, 1) := by decide +kernel
theorem dX8_yields_43 : decode cX8_yields 43 = .ok (.iaload, 1) := by decide +kernel
theorem dX8_yields_44 : decode cX8_yields 44 = .ok (.iconst 1, 1) := by decide +kernel
theorem dX8_yields_45 : decode cX8_yields 45 = .ok (.if_icmp .eq 13, 3) := by decide +kernel
theorem dX8_yields_48 : decode cX8_yields 48 = .ok (.aload_n 0, 1) := by decide +kernel
theorem dX8_yields_49 : decode cX8_yields 49 = .ok (.iload_n 1, 1) := by decide +kernel
theorem dX8_yields_50 : decode cX8_yields 50 = .ok (.iload_n 2, 1) := by decide +kernel
theorem dX8_yields_51 : decode cX8_yields 51 = .ok (.iload_n 3, 1) := by decide +kernel
theorem dX8_yields_52 : decode cX8_yields 52 = .ok (.invokevirtual 165, 3) := by decide +kernel
theorem dX8_yields_55 : decode cX8_yields 55 = .ok (.ifCond .ne 5, 3) := by decide +kernel
theorem dX8_yields_58 : decode cX8_yields 58 = .ok (.iconst 0, 1) := by decide +kernel
theorem dX8_yields_59 : decode cX8_yields 59 = .ok (.ireturn, 1) := by decide +kernel
theorem dX8_yields_60 : decode cX8_yields 60 = .ok (.aload_n 0, 1) := by decide +kernel
theorem dX8_yields_61 : decode cX8_yields 61 = .ok (.getfield 28, 3) := by decide +kernel
theorem dX8_yields_64 : decode cX8_yields 64 = .ok (.bipush 64, 2) := by decide +kernel
theorem dX8_yields_66 : decode cX8_yields 66 = .ok (.iload_n 1, 1) := by decide +kernel
theorem dX8_yields_67 : decode cX8_yields 67 = .ok (.imul, 1) := by decide +kernel
theorem dX8_yields_68 : decode cX8_yields 68 = .ok (.bipush 8, 2) := by decide +kernel
theorem dX8_yields_70 : decode cX8_yields 70 = .ok (.iload_n 2, 1) := by decide +kernel
theorem dX8_yields_71 : decode cX8_yields 71 = .ok (.imul, 1) := by decide +kernel
theorem dX8_yields_72 : decode cX8_yields 72 = .ok (.iadd, 1) := by decide +kernel
theorem dX8_yields_73 : decode cX8_yields 73 = .ok (.iload_n 3, 1) := by decide +kernel
theorem dX8_yields_74 : decode cX8_yields 74 = .ok (.iadd, 1) := by decide +kernel
theorem dX8_yields_75 : decode cX8_yields 75 = .ok (.baload, 1) := by decide +kernel
theorem dX8_yields_76 : decode cX8_yields 76 = .ok (.ifCond .ne 11, 3) := by decide +kernel
theorem dX8_yields_79 : decode cX8_yields 79 = .ok (.aload_n 0, 1) := by decide +kernel
theorem dX8_yields_80 : decode cX8_yields 80 = .ok (.iload_n 1, 1) := by decide +kernel
theorem dX8_yields_81 : decode cX8_yields 81 = .ok (.invokevirtual 153, 3) := by decide +kernel
theorem dX8_yields_84 : decode cX8_yields 84 = .ok (.ifCond .eq 5, 3) := by decide +kernel
theorem dX8_yields_87 : decode cX8_yields 87 = .ok (.iconst 0, 1) := by decide +kernel
theorem dX8_yields_88 : decode cX8_yields 88 = .ok (.ireturn, 1) := by decide +kernel
theorem dX8_yields_89 : decode cX8_yields 89 = .ok (.aload_n 0, 1) := by decide +kernel
theorem dX8_yields_90 : decode cX8_yields 90 = .ok (.getfield 28, 3) := by decide +kernel
theorem dX8_yields_93 : decode cX8_yields 93 = .ok (.bipush 64, 2) := by decide +kernel
theorem dX8_yields_95 : decode cX8_yields 95 = .ok (.iload_n 1, 1) := by decide +kernel
theorem dX8_yields_96 : decode cX8_yields 96 = .ok (.imul, 1) := by decide +kernel
theorem dX8_yields_97 : decode cX8_yields 97 = .ok (.bipush 8, 2) := by decide +kernel
theorem dX8_yields_99 : decode cX8_yields 99 = .ok (.iload_n 2, 1) := by decide +kernel
theorem dX8_yields_100 : decode cX8_yields 100 = .ok (.imul, 1) := by decide +kernel
theorem dX8_yields_101 : decode cX8_yields 101 = .ok (.iadd, 1) := by decide +kernel
theorem dX8_yields_102 : decode cX8_yields 102 = .ok (.iload_n 3, 1) := by decide +kernel
theorem dX8_yields_103 : decode cX8_yields 103 = .ok (.iadd, 1) := by decide +kernel
theorem dX8_yields_104 : decode cX8_yields 104 = .ok (.iconst 1, 1) := by decide +kernel
theorem dX8_yields_105 : decode cX8_yields 105 = .ok (.bastore, 1) := by decide +kernel
theorem dX8_yields_106 : decode cX8_yields 106 = .ok (.iconst 1, 1) := by decide +kernel
theorem dX8_yields_107 : decode cX8_yields 107 = .ok (.ireturn, 1) := by decide +kernel
theorem dX8_isSet_0 : decode cX8_isSet 0 = .ok (.iload_n 2, 1) := by decide +kernel
theorem dX8_isSet_1 : decode cX8_isSet 1 = .ok (.ifCond .lt 15, 3) := by decide +kernel
theorem dX8_isSet_4 : decode cX8_isSet 4 = .ok (.iload_n 2, 1) := by decide +kernel
theorem dX8_isSet_5 : decode cX8_isSet 5 = .ok (.iconst 1, 1) := by decide +kernel
theorem dX8_isSet_6 : decode cX8_isSet 6 = .ok (.aload_n 0, 1) := by decide +kernel
theorem dX8_isSet_7 : decode cX8_isSet 7 = .ok (.getfield 7, 3) := by decide +kernel
theorem dX8_isSet_10 : decode cX8_isSet 10 = .ok (.iload_n 1, 1) := by decide +kernel
theorem dX8_isSet_11 : decode cX8_isSet 11 = .ok (.iaload, 1) := by decide +kernel
theorem dX8_isSet_12 : decode cX8_isSet 12 = .ok (.ishl, 1) := by decide +kernel
theorem dX8_isSet_13 : decode cX8_isSet 13 = .ok (.if_icmp .lt 5, 3) := by decide +kernel
theorem dX8_isSet_16 : decode cX8_isSet 16 = .ok (.iconst 0, 1) := by decide +kernel
theorem dX8_isSet_17 : decode cX8_isSet 17 = .ok (.ireturn, 1) := by decide +kernel
theorem dX8_isSet_18 : decode cX8_isSet 18 = .ok (.iconst 0, 1) := by decide +kernel
theorem dX8_isSet_19 : decode cX8_isSet 19 = .ok (.istore_n 3, 1) := by decide +kernel
theorem dX8_isSet_20 : decode cX8_isSet 20 = .ok (.iload_n 3, 1) := by decide +kernel
theorem dX8_isSet_21 : decode cX8_isSet 21 = .ok (.aload_n 0, 1) := by decide +kernel
theorem dX8_isSet_22 : decode cX8_isSet 22 = .ok (.getfield 7, 3) := by decide +kernel
theorem dX8_isSet_25 : decode cX8_isSet 25 = .ok (.iload_n 1, 1) := by decide +kernel
theorem dX8_isSet_26 : decode cX8_isSet 26 = .ok (.iaload, 1) := by decide +kernel
theorem dX8_isSet_27 : decode cX8_isSet 27 = .ok (.if_icmp .ge 56, 3) := by decide +kernel
theorem dX8_isSet_30 : decode cX8_isSet 30 = .ok (.iconst 0, 1) := by decide +kernel
theorem dX8_isSet_31 : decode cX8_isSet 31 = .ok (.istore 4, 2) := by decide +kernel
theorem dX8_isSet_33 : decode cX8_isSet 33 = .ok (.iload 4, 2) := by decide +kernel
theorem dX8_isSet_35 : decode cX8_isSet 35 = .ok (.iload_n 3, 1) := by decide +kernel
theorem dX8_isSet_36 : decode cX8_isSet 36 = .ok (.if_icmp .ge 41, 3) := by decide +kernel
theorem dX8_isSet_39 : decode cX8_isSet 39 = .ok (.iload_n 2, 1) := by decide +kernel
theorem dX8_isSet_40 : decode cX8_isSet 40 = .ok (.iload_n 3, 1) := by decide +kernel
theorem dX8_isSet_41 : decode cX8_isSet 41 = .ok (.ishr, 1) := by decide +kernel
theorem dX8_isSet_42 : decode cX8_isSet 42 = .ok (.iconst 1, 1) := by decide +kernel
theorem dX8_isSet_43 : decode cX8_isSet 43 = .ok (.iand, 1) := by decide +kernel
theorem dX8_isSet_44 : decode cX8_isSet 44 = .ok (.iconst 1, 1) := by decide +kernel
theorem dX8_isSet_45 : decode cX8_isSet 45 = .ok (.if_icmp .ne 26, 3) := by decide +kernel
theorem dX8_isSet_48 : decode cX8_isSet 48 = .ok (.iload_n 2, 1) := by decide +kernel
theorem dX8_isSet_49 : decode cX8_isSet 49 = .ok (.iload 4, 2) := by decide +kernel
theorem dX8_isSet_51 : decode cX8_isSet 51 = .ok (.ishr, 1) := by decide +kernel
theorem dX8_isSet_52 : decode cX8_isSet 52 = .ok (.iconst 1, 1) := by decide +kernel
theorem dX8_isSet_53 : decode cX8_isSet 53 = .ok (.iand, 1) := by decide +kernel
theorem dX8_isSet_54 : decode cX8_isSet 54 = .ok (.iconst 1, 1) := by decide +kernel
theorem dX8_isSet_55 : decode cX8_isSet 55 = .ok (.if_icmp .ne 16, 3) := by decide +kernel
theorem dX8_isSet_58 : decode cX8_isSet 58 = .ok (.aload_n 0, 1) := by decide +kernel
theorem dX8_isSet_59 : decode cX8_isSet 59 = .ok (.iload_n 1, 1) := by decide +kernel
theorem dX8_isSet_60 : decode cX8_isSet 60 = .ok (.iload_n 3, 1) := by decide +kernel
theorem dX8_isSet_61 : decode cX8_isSet 61 = .ok (.iload 4, 2) := by decide +kernel
theorem dX8_isSet_63 : decode cX8_isSet 63 = .ok (.invokevirtual 173, 3) := by decide +kernel
theorem dX8_isSet_66 : decode cX8_isSet 66 = .ok (.ifCond .le 5, 3) := by decide +kernel
theorem dX8_isSet_69 : decode cX8_isSet 69 = .ok (.iconst 0, 1) := by decide +kernel
theorem dX8_isSet_70 : decode cX8_isSet 70 = .ok (.ireturn, 1) := by decide +kernel
theorem dX8_isSet_71 : decode cX8_isSet 71 = .ok (.iinc 4 1, 3) := by decide +kernel
theorem dX8_isSet_74 : decode cX8_isSet 74 = .ok (.goto (-41), 3) := by decide +kernel
theorem dX8_isSet_77 : decode cX8_isSet 77 = .ok (.iinc 3 1, 3) := by decide +kernel
theorem dX8_isSet_80 : decode cX8_isSet 80 = .ok (.goto (-60), 3) := by decide +kernel
theorem dX8_isSet_83 : decode cX8_isSet 83 = .ok (.iconst 1, 1) := by decide +kernel
theorem dX8_isSet_84 : decode cX8_isSet 84 = .ok (.ireturn, 1) := by decide +kernel
theorem dX8_isGreatest_0 : decode cX8_isGreatest 0 = .ok (.aload_n 0, 1) := by decide +kernel
theorem dX8_isGreatest_1 : decode cX8_isGreatest 1 = .ok (.iload_n 1, 1) := by decide +kernel
theorem dX8_isGreatest_2 : decode cX8_isGreatest 2 = .ok (.iload_n 2, 1) := by decide +kernel
theorem dX8_isGreatest_3 : decode cX8_isGreatest 3 = .ok (.invokevirtual 176, 3) := by decide +kernel
theorem dX8_isGreatest_6 : decode cX8_isGreatest 6 = .ok (.ifCond .ne 5, 3) := by decide +kernel
theorem dX8_isGreatest_9 : decode cX8_isGreatest 9 = .ok (.iconst 0, 1) := by decide +kernel
theorem dX8_isGreatest_10 : decode cX8_isGreatest 10 = .ok (.ireturn, 1) := by decide +kernel
theorem dX8_isGreatest_11 : decode cX8_isGreatest 11 = .ok (.iconst 0, 1) := by decide +kernel
theorem dX8_isGreatest_12 : decode cX8_isGreatest 12 = .ok (.istore_n 3, 1) := by decide +kernel
theorem dX8_isGreatest_13 : decode cX8_isGreatest 13 = .ok (.iload_n 3, 1) := by decide +kernel
theorem dX8_isGreatest_14 : decode cX8_isGreatest 14 = .ok (.aload_n 0, 1) := by decide +kernel
theorem dX8_isGreatest_15 : decode cX8_isGreatest 15 = .ok (.getfield 7, 3) := by decide +kernel
theorem dX8_isGreatest_18 : decode cX8_isGreatest 18 = .ok (.iload_n 1, 1) := by decide +kernel
theorem dX8_isGreatest_19 : decode cX8_isGreatest 19 = .ok (.iaload, 1) := by decide +kernel
theorem dX8_isGreatest_20 : decode cX8_isGreatest 20 = .ok (.if_icmp .ge 32, 3) := by decide +kernel
theorem dX8_isGreatest_23 : decode cX8_isGreatest 23 = .ok (.iload_n 2, 1) := by decide +kernel
theorem dX8_isGreatest_24 : decode cX8_isGreatest 24 = .ok (.iload_n 3, 1) := by decide +kernel
theorem dX8_isGreatest_25 : decode cX8_isGreatest 25 = .ok (.ishr, 1) := by decide +kernel
theorem dX8_isGreatest_26 : decode cX8_isGreatest 26 = .ok (.iconst 1, 1) := by decide +kernel
theorem dX8_isGreatest_27 : decode cX8_isGreatest 27 = .ok (.iand, 1) := by decide +kernel
theorem dX8_isGreatest_28 : decode cX8_isGreatest 28 = .ok (.ifCond .ne 18, 3) := by decide +kernel
theorem dX8_isGreatest_31 : decode cX8_isGreatest 31 = .ok (.aload_n 0, 1) := by decide +kernel
theorem dX8_isGreatest_32 : decode cX8_isGreatest 32 = .ok (.iload_n 1, 1) := by decide +kernel
theorem dX8_isGreatest_33 : decode cX8_isGreatest 33 = .ok (.iload_n 2, 1) := by decide +kernel
theorem dX8_isGreatest_34 : decode cX8_isGreatest 34 = .ok (.iconst 1, 1) := by decide +kernel
theorem dX8_isGreatest_35 : decode cX8_isGreatest 35 = .ok (.iload_n 3, 1) := by decide +kernel
theorem dX8_isGreatest_36 : decode cX8_isGreatest 36 = .ok (.ishl, 1) := by decide +kernel
theorem dX8_isGreatest_37 : decode cX8_isGreatest 37 = .ok (.ior, 1) := by decide +kernel
theorem dX8_isGreatest_38 : decode cX8_isGreatest 38 = .ok (.invokevirtual 176, 3) := by decide +kernel
theorem dX8_isGreatest_41 : decode cX8_isGreatest 41 = .ok (.ifCond .eq 5, 3) := by decide +kernel
theorem dX8_isGreatest_44 : decode cX8_isGreatest 44 = .ok (.iconst 0, 1) := by decide +kernel
theorem dX8_isGreatest_45 : decode cX8_isGreatest 45 = .ok (.ireturn, 1) := by decide +kernel
theorem dX8_isGreatest_46 : decode cX8_isGreatest 46 = .ok (.iinc 3 1, 3) := by decide +kernel
theorem dX8_isGreatest_49 : decode cX8_isGreatest 49 = .ok (.goto (-36), 3) := by decide +kernel
theorem dX8_isGreatest_52 : decode cX8_isGreatest 52 = .ok (.iconst 1, 1) := by decide +kernel
theorem dX8_isGreatest_53 : decode cX8_isGreatest 53 = .ok (.ireturn, 1) := by decide +kernel
theorem dX8_sets_0 : decode cX8_sets 0 = .ok (.aload_n 0, 1) := by decide +kernel
theorem dX8_sets_1 : decode cX8_sets 1 = .ok (.iload_n 1, 1) := by decide +kernel
theorem dX8_sets_2 : decode cX8_sets 2 = .ok (.invokevirtual 142, 3) := by decide +kernel
theorem dX8_sets_5 : decode cX8_sets 5 = .ok (.ifCond .ne 5, 3) := by decide +kernel
theorem dX8_sets_8 : decode cX8_sets 8 = .ok (.iconst (-1), 1) := by decide +kernel
theorem dX8_sets_9 : decode cX8_sets 9 = .ok (.ireturn, 1) := by decide +kernel
theorem dX8_sets_10 : decode cX8_sets 10 = .ok (.iconst 0, 1) := by decide +kernel
theorem dX8_sets_11 : decode cX8_sets 11 = .ok (.istore_n 2, 1) := by decide +kernel
theorem dX8_sets_12 : decode cX8_sets 12 = .ok (.iconst 1, 1) := by decide +kernel
theorem dX8_sets_13 : decode cX8_sets 13 = .ok (.istore_n 3, 1) := by decide +kernel
theorem dX8_sets_14 : decode cX8_sets 14 = .ok (.iload_n 3, 1) := by decide +kernel
theorem dX8_sets_15 : decode cX8_sets 15 = .ok (.iconst 1, 1) := by decide +kernel
theorem dX8_sets_16 : decode cX8_sets 16 = .ok (.aload_n 0, 1) := by decide +kernel
theorem dX8_sets_17 : decode cX8_sets 17 = .ok (.getfield 7, 3) := by decide +kernel
theorem dX8_sets_20 : decode cX8_sets 20 = .ok (.iload_n 1, 1) := by decide +kernel
theorem dX8_sets_21 : decode cX8_sets 21 = .ok (.iaload, 1) := by decide +kernel
theorem dX8_sets_22 : decode cX8_sets 22 = .ok (.ishl, 1) := by decide +kernel
theorem dX8_sets_23 : decode cX8_sets 23 = .ok (.if_icmp .ge 26, 3) := by decide +kernel
theorem dX8_sets_26 : decode cX8_sets 26 = .ok (.iload_n 2, 1) := by decide +kernel
theorem dX8_sets_27 : decode cX8_sets 27 = .ok (.aload_n 0, 1) := by decide +kernel
theorem dX8_sets_28 : decode cX8_sets 28 = .ok (.iload_n 1, 1) := by decide +kernel
theorem dX8_sets_29 : decode cX8_sets 29 = .ok (.iload_n 3, 1) := by decide +kernel
theorem dX8_sets_30 : decode cX8_sets 30 = .ok (.invokevirtual 179, 3) := by decide +kernel
theorem dX8_sets_33 : decode cX8_sets 33 = .ok (.ifCond .eq 7, 3) := by decide +kernel
theorem dX8_sets_36 : decode cX8_sets 36 = .ok (.iconst 1, 1) := by decide +kernel
theorem dX8_sets_37 : decode cX8_sets 37 = .ok (.goto 4, 3) := by decide +kernel
theorem dX8_sets_40 : decode cX8_sets 40 = .ok (.iconst 0, 1) := by decide +kernel
theorem dX8_sets_41 : decode cX8_sets 41 = .ok (.iadd, 1) := by decide +kernel
theorem dX8_sets_42 : decode cX8_sets 42 = .ok (.istore_n 2, 1) := by decide +kernel
theorem dX8_sets_43 : decode cX8_sets 43 = .ok (.iinc 3 1, 3) := by decide +kernel
theorem dX8_sets_46 : decode cX8_sets 46 = .ok (.goto (-32), 3) := by decide +kernel
theorem dX8_sets_49 : decode cX8_sets 49 = .ok (.iload_n 2, 1) := by decide +kernel
theorem dX8_sets_50 : decode cX8_sets 50 = .ok (.ireturn, 1) := by decide +kernel
theorem dX8_set_0 : decode cX8_set 0 = .ok (.aload_n 0, 1) := by decide +kernel
theorem dX8_set_1 : decode cX8_set 1 = .ok (.iload_n 1, 1) := by decide +kernel
theorem dX8_set_2 : decode cX8_set 2 = .ok (.invokevirtual 142, 3) := by decide +kernel
theorem dX8_set_5 : decode cX8_set 5 = .ok (.ifCond .eq 7, 3) := by decide +kernel
theorem dX8_set_8 : decode cX8_set 8 = .ok (.iload_n 2, 1) := by decide +kernel
theorem dX8_set_9 : decode cX8_set 9 = .ok (.ifCond .ge 5, 3) := by decide +kernel
theorem dX8_set_12 : decode cX8_set 12 = .ok (.iconst (-1), 1) := by decide +kernel
theorem dX8_set_13 : decode cX8_set 13 = .ok (.ireturn, 1) := by decide +kernel
theorem dX8_set_14 : decode cX8_set 14 = .ok (.iload_n 2, 1) := by decide +kernel
theorem dX8_set_15 : decode cX8_set 15 = .ok (.istore_n 3, 1) := by decide +kernel
theorem dX8_set_16 : decode cX8_set 16 = .ok (.iconst 1, 1) := by decide +kernel
theorem dX8_set_17 : decode cX8_set 17 = .ok (.istore 4, 2) := by decide +kernel
theorem dX8_set_19 : decode cX8_set 19 = .ok (.iload 4, 2) := by decide +kernel
theorem dX8_set_21 : decode cX8_set 21 = .ok (.iconst 1, 1) := by decide +kernel
theorem dX8_set_22 : decode cX8_set 22 = .ok (.aload_n 0, 1) := by decide +kernel
theorem dX8_set_23 : decode cX8_set 23 = .ok (.getfield 7, 3) := by decide +kernel
theorem dX8_set_26 : decode cX8_set 26 = .ok (.iload_n 1, 1) := by decide +kernel
theorem dX8_set_27 : decode cX8_set 27 = .ok (.iaload, 1) := by decide +kernel
theorem dX8_set_28 : decode cX8_set 28 = .ok (.ishl, 1) := by decide +kernel
theorem dX8_set_29 : decode cX8_set 29 = .ok (.if_icmp .ge 32, 3) := by decide +kernel
theorem dX8_set_32 : decode cX8_set 32 = .ok (.aload_n 0, 1) := by decide +kernel
theorem dX8_set_33 : decode cX8_set 33 = .ok (.iload_n 1, 1) := by decide +kernel
theorem dX8_set_34 : decode cX8_set 34 = .ok (.iload 4, 2) := by decide +kernel
theorem dX8_set_36 : decode cX8_set 36 = .ok (.invokevirtual 179, 3) := by decide +kernel
theorem dX8_set_39 : decode cX8_set 39 = .ok (.ifCond .ne 6, 3) := by decide +kernel
theorem dX8_set_42 : decode cX8_set 42 = .ok (.goto 13, 3) := by decide +kernel
theorem dX8_set_45 : decode cX8_set 45 = .ok (.iload_n 3, 1) := by decide +kernel
theorem dX8_set_46 : decode cX8_set 46 = .ok (.ifCond .ne 6, 3) := by decide +kernel
theorem dX8_set_49 : decode cX8_set 49 = .ok (.iload 4, 2) := by decide +kernel
theorem dX8_set_51 : decode cX8_set 51 = .ok (.ireturn, 1) := by decide +kernel
theorem dX8_set_52 : decode cX8_set 52 = .ok (.iinc 3 (-1), 3) := by decide +kernel
theorem dX8_set_55 : decode cX8_set 55 = .ok (.iinc 4 1, 3) := by decide +kernel
theorem dX8_set_58 : decode cX8_set 58 = .ok (.goto (-39), 3) := by decide +kernel
theorem dX8_set_61 : decode cX8_set 61 = .ok (.iconst (-1), 1) := by decide +kernel
theorem dX8_set_62 : decode cX8_set 62 = .ok (.ireturn, 1) := by decide +kernel
theorem dX8_goes_0 : decode cX8_goes 0 = .ok (.aload_n 0, 1) := by decide +kernel
theorem dX8_goes_1 : decode cX8_goes 1 = .ok (.iload_n 1, 1) := by decide +kernel
theorem dX8_goes_2 : decode cX8_goes 2 = .ok (.invokevirtual 142, 3) := by decide +kernel
theorem dX8_goes_5 : decode cX8_goes 5 = .ok (.ifCond .eq 16, 3) := by decide +kernel
theorem dX8_goes_8 : decode cX8_goes 8 = .ok (.aload_n 0, 1) := by decide +kernel
theorem dX8_goes_9 : decode cX8_goes 9 = .ok (.iload_n 1, 1) := by decide +kernel
theorem dX8_goes_10 : decode cX8_goes 10 = .ok (.iload_n 2, 1) := by decide +kernel
theorem dX8_goes_11 : decode cX8_goes 11 = .ok (.invokevirtual 176, 3) := by decide +kernel
theorem dX8_goes_14 : decode cX8_goes 14 = .ok (.ifCond .eq 7, 3) := by decide +kernel
theorem dX8_goes_17 : decode cX8_goes 17 = .ok (.iconst 1, 1) := by decide +kernel
theorem dX8_goes_18 : decode cX8_goes 18 = .ok (.goto 4, 3) := by decide +kernel
theorem dX8_goes_21 : decode cX8_goes 21 = .ok (.iconst 0, 1) := by decide +kernel
theorem dX8_goes_22 : decode cX8_goes 22 = .ok (.ireturn, 1) := by decide +kernel
theorem dX8_plan_0 : decode cX8_plan 0 = .ok (.aload_n 0, 1) := by decide +kernel
theorem dX8_plan_1 : decode cX8_plan 1 = .ok (.iload_n 1, 1) := by decide +kernel
theorem dX8_plan_2 : decode cX8_plan 2 = .ok (.invokevirtual 142, 3) := by decide +kernel
theorem dX8_plan_5 : decode cX8_plan 5 = .ok (.ifCond .eq 14, 3) := by decide +kernel
theorem dX8_plan_8 : decode cX8_plan 8 = .ok (.iload_n 2, 1) := by decide +kernel
theorem dX8_plan_9 : decode cX8_plan 9 = .ok (.bipush 20, 2) := by decide +kernel
theorem dX8_plan_11 : decode cX8_plan 11 = .ok (.bipush 90, 2) := by decide +kernel
theorem dX8_plan_13 : decode cX8_plan 13 = .ok (.invokestatic 149, 3) := by decide +kernel
theorem dX8_plan_16 : decode cX8_plan 16 = .ok (.ifCond .ne 5, 3) := by decide +kernel
theorem dX8_plan_19 : decode cX8_plan 19 = .ok (.iconst 0, 1) := by decide +kernel
theorem dX8_plan_20 : decode cX8_plan 20 = .ok (.ireturn, 1) := by decide +kernel
theorem dX8_plan_21 : decode cX8_plan 21 = .ok (.aload_n 0, 1) := by decide +kernel
theorem dX8_plan_22 : decode cX8_plan 22 = .ok (.getfield 32, 3) := by decide +kernel
theorem dX8_plan_25 : decode cX8_plan 25 = .ok (.iload_n 1, 1) := by decide +kernel
theorem dX8_plan_26 : decode cX8_plan 26 = .ok (.iconst 1, 1) := by decide +kernel
theorem dX8_plan_27 : decode cX8_plan 27 = .ok (.bastore, 1) := by decide +kernel
theorem dX8_plan_28 : decode cX8_plan 28 = .ok (.aload_n 0, 1) := by decide +kernel
theorem dX8_plan_29 : decode cX8_plan 29 = .ok (.getfield 35, 3) := by decide +kernel
theorem dX8_plan_32 : decode cX8_plan 32 = .ok (.iload_n 1, 1) := by decide +kernel
theorem dX8_plan_33 : decode cX8_plan 33 = .ok (.iload_n 2, 1) := by decide +kernel
theorem dX8_plan_34 : decode cX8_plan 34 = .ok (.iastore, 1) := by decide +kernel
theorem dX8_plan_35 : decode cX8_plan 35 = .ok (.aload_n 0, 1) := by decide +kernel
theorem dX8_plan_36 : decode cX8_plan 36 = .ok (.getfield 38, 3) := by decide +kernel
theorem dX8_plan_39 : decode cX8_plan 39 = .ok (.iload_n 1, 1) := by decide +kernel
theorem dX8_plan_40 : decode cX8_plan 40 = .ok (.iconst 0, 1) := by decide +kernel
theorem dX8_plan_41 : decode cX8_plan 41 = .ok (.iastore, 1) := by decide +kernel
theorem dX8_plan_42 : decode cX8_plan 42 = .ok (.iconst 1, 1) := by decide +kernel
theorem dX8_plan_43 : decode cX8_plan 43 = .ok (.ireturn, 1) := by decide +kernel
theorem dX8_stage_0 : decode cX8_stage 0 = .ok (.aload_n 0, 1) := by decide +kernel
theorem dX8_stage_1 : decode cX8_stage 1 = .ok (.iload_n 1, 1) := by decide +kernel
theorem dX8_stage_2 : decode cX8_stage 2 = .ok (.invokevirtual 142, 3) := by decide +kernel
theorem dX8_stage_5 : decode cX8_stage 5 = .ok (.ifCond .eq 45, 3) := by decide +kernel
theorem dX8_stage_8 : decode cX8_stage 8 = .ok (.aload_n 0, 1) := by decide +kernel
theorem dX8_stage_9 : decode cX8_stage 9 = .ok (.getfield 32, 3) := by decide +kernel
theorem dX8_stage_12 : decode cX8_stage 12 = .ok (.iload_n 1, 1) := by decide +kernel
theorem dX8_stage_13 : decode cX8_stage 13 = .ok (.baload, 1) := by decide +kernel
theorem dX8_stage_14 : decode cX8_stage 14 = .ok (.ifCond .eq 36, 3) := by decide +kernel
theorem dX8_stage_17 : decode cX8_stage 17 = .ok (.iload_n 2, 1) := by decide +kernel
theorem dX8_stage_18 : decode cX8_stage 18 = .ok (.ifCond .eq 32, 3) := by decide +kernel
theorem dX8_stage_21 : decode cX8_stage 21 = .ok (.aload_n 0, 1) := by decide +kernel
theorem dX8_stage_22 : decode cX8_stage 22 = .ok (.iload_n 1, 1) := by decide +kernel
theorem dX8_stage_23 : decode cX8_stage 23 = .ok (.iload_n 2, 1) := by decide +kernel
theorem dX8_stage_24 : decode cX8_stage 24 = .ok (.invokevirtual 176, 3) := by decide +kernel
theorem dX8_stage_27 : decode cX8_stage 27 = .ok (.ifCond .eq 23, 3) := by decide +kernel
theorem dX8_stage_30 : decode cX8_stage 30 = .ok (.iload_n 3, 1) := by decide +kernel
theorem dX8_stage_31 : decode cX8_stage 31 = .ok (.iconst 0, 1) := by decide +kernel
theorem dX8_stage_32 : decode cX8_stage 32 = .ok (.bipush 90, 2) := by decide +kernel
theorem dX8_stage_34 : decode cX8_stage 34 = .ok (.invokestatic 149, 3) := by decide +kernel
theorem dX8_stage_37 : decode cX8_stage 37 = .ok (.ifCond .eq 13, 3) := by decide +kernel
theorem dX8_stage_40 : decode cX8_stage 40 = .ok (.aload_n 0, 1) := by decide +kernel
theorem dX8_stage_41 : decode cX8_stage 41 = .ok (.getfield 38, 3) := by decide +kernel
theorem dX8_stage_44 : decode cX8_stage 44 = .ok (.iload_n 1, 1) := by decide +kernel
theorem dX8_stage_45 : decode cX8_stage 45 = .ok (.iaload, 1) := by decide +kernel
theorem dX8_stage_46 : decode cX8_stage 46 = .ok (.iconst 4, 1) := by decide +kernel
theorem dX8_stage_47 : decode cX8_stage 47 = .ok (.if_icmp .ne 5, 3) := by decide +kernel
theorem dX8_stage_50 : decode cX8_stage 50 = .ok (.iconst (-1), 1) := by decide +kernel
theorem dX8_stage_51 : decode cX8_stage 51 = .ok (.ireturn, 1) := by decide +kernel
theorem dX8_stage_52 : decode cX8_stage 52 = .ok (.aload_n 0, 1) := by decide +kernel
theorem dX8_stage_53 : decode cX8_stage 53 = .ok (.getfield 38, 3) := by decide +kernel
theorem dX8_stage_56 : decode cX8_stage 56 = .ok (.iload_n 1, 1) := by decide +kernel
theorem dX8_stage_57 : decode cX8_stage 57 = .ok (.iaload, 1) := by decide +kernel
theorem dX8_stage_58 : decode cX8_stage 58 = .ok (.istore 4, 2) := by decide +kernel
theorem dX8_stage_60 : decode cX8_stage 60 = .ok (.aload_n 0, 1) := by decide +kernel
theorem dX8_stage_61 : decode cX8_stage 61 = .ok (.getfield 38, 3) := by decide +kernel
theorem dX8_stage_64 : decode cX8_stage 64 = .ok (.iload_n 1, 1) := by decide +kernel
theorem dX8_stage_65 : decode cX8_stage 65 = .ok (.dup2, 1) := by decide +kernel
theorem dX8_stage_66 : decode cX8_stage 66 = .ok (.iaload, 1) := by decide +kernel
theorem dX8_stage_67 : decode cX8_stage 67 = .ok (.iconst 1, 1) := by decide +kernel
theorem dX8_stage_68 : decode cX8_stage 68 = .ok (.iadd, 1) := by decide +kernel
theorem dX8_stage_69 : decode cX8_stage 69 = .ok (.iastore, 1) := by decide +kernel
theorem dX8_stage_70 : decode cX8_stage 70 = .ok (.aload_n 0, 1) := by decide +kernel
theorem dX8_stage_71 : decode cX8_stage 71 = .ok (.getfield 41, 3) := by decide +kernel
theorem dX8_stage_74 : decode cX8_stage 74 = .ok (.iconst 4, 1) := by decide +kernel
theorem dX8_stage_75 : decode cX8_stage 75 = .ok (.iload_n 1, 1) := by decide +kernel
theorem dX8_stage_76 : decode cX8_stage 76 = .ok (.imul, 1) := by decide +kernel
theorem dX8_stage_77 : decode cX8_stage 77 = .ok (.iload 4, 2) := by decide +kernel
theorem dX8_stage_79 : decode cX8_stage 79 = .ok (.iadd, 1) := by decide +kernel
theorem dX8_stage_80 : decode cX8_stage 80 = .ok (.iload_n 2, 1) := by decide +kernel
theorem dX8_stage_81 : decode cX8_stage 81 = .ok (.iastore, 1) := by decide +kernel
theorem dX8_stage_82 : decode cX8_stage 82 = .ok (.aload_n 0, 1) := by decide +kernel
theorem dX8_stage_83 : decode cX8_stage 83 = .ok (.getfield 44, 3) := by decide +kernel
theorem dX8_stage_86 : decode cX8_stage 86 = .ok (.iconst 4, 1) := by decide +kernel
theorem dX8_stage_87 : decode cX8_stage 87 = .ok (.iload_n 1, 1) := by decide +kernel
theorem dX8_stage_88 : decode cX8_stage 88 = .ok (.imul, 1) := by decide +kernel
theorem dX8_stage_89 : decode cX8_stage 89 = .ok (.iload 4, 2) := by decide +kernel
theorem dX8_stage_91 : decode cX8_stage 91 = .ok (.iadd, 1) := by decide +kernel
theorem dX8_stage_92 : decode cX8_stage 92 = .ok (.iload_n 3, 1) := by decide +kernel
theorem dX8_stage_93 : decode cX8_stage 93 = .ok (.iastore, 1) := by decide +kernel
theorem dX8_stage_94 : decode cX8_stage 94 = .ok (.iload 4, 2) := by decide +kernel
theorem dX8_stage_96 : decode cX8_stage 96 = .ok (.ireturn, 1) := by decide +kernel
theorem dX8_between_0 : decode cX8_between 0 = .ok (.iload_n 1, 1) := by decide +kernel
theorem dX8_between_1 : decode cX8_between 1 = .ok (.bipush 8, 2) := by decide +kernel
theorem dX8_between_3 : decode cX8_between 3 = .ok (.irem, 1) := by decide +kernel
theorem dX8_between_4 : decode cX8_between 4 = .ok (.istore_n 3, 1) := by decide +kernel
theorem dX8_between_5 : decode cX8_between 5 = .ok (.aload_n 0, 1) := by decide +kernel
theorem dX8_between_6 : decode cX8_between 6 = .ok (.getfield 41, 3) := by decide +kernel
theorem dX8_between_9 : decode cX8_between 9 = .ok (.iconst 4, 1) := by decide +kernel
theorem dX8_between_10 : decode cX8_between 10 = .ok (.iload_n 1, 1) := by decide +kernel
theorem dX8_between_11 : decode cX8_between 11 = .ok (.imul, 1) := by decide +kernel
theorem dX8_between_12 : decode cX8_between 12 = .ok (.iload_n 2, 1) := by decide +kernel
theorem dX8_between_13 : decode cX8_between 13 = .ok (.iadd, 1) := by decide +kernel
theorem dX8_between_14 : decode cX8_between 14 = .ok (.iaload, 1) := by decide +kernel
theorem dX8_between_15 : decode cX8_between 15 = .ok (.istore 4, 2) := by decide +kernel
theorem dX8_between_17 : decode cX8_between 17 = .ok (.aload_n 0, 1) := by decide +kernel
theorem dX8_between_18 : decode cX8_between 18 = .ok (.getfield 41, 3) := by decide +kernel
theorem dX8_between_21 : decode cX8_between 21 = .ok (.iconst 4, 1) := by decide +kernel
theorem dX8_between_22 : decode cX8_between 22 = .ok (.iload_n 1, 1) := by decide +kernel
theorem dX8_between_23 : decode cX8_between 23 = .ok (.imul, 1) := by decide +kernel
theorem dX8_between_24 : decode cX8_between 24 = .ok (.iload_n 2, 1) := by decide +kernel
theorem dX8_between_25 : decode cX8_between 25 = .ok (.iconst 1, 1) := by decide +kernel
theorem dX8_between_26 : decode cX8_between 26 = .ok (.iadd, 1) := by decide +kernel
theorem dX8_between_27 : decode cX8_between 27 = .ok (.aload_n 0, 1) := by decide +kernel
theorem dX8_between_28 : decode cX8_between 28 = .ok (.getfield 38, 3) := by decide +kernel
theorem dX8_between_31 : decode cX8_between 31 = .ok (.iload_n 1, 1) := by decide +kernel
theorem dX8_between_32 : decode cX8_between 32 = .ok (.iaload, 1) := by decide +kernel
theorem dX8_between_33 : decode cX8_between 33 = .ok (.irem, 1) := by decide +kernel
theorem dX8_between_34 : decode cX8_between 34 = .ok (.iadd, 1) := by decide +kernel
theorem dX8_between_35 : decode cX8_between 35 = .ok (.iaload, 1) := by decide +kernel
theorem dX8_between_36 : decode cX8_between 36 = .ok (.istore 5, 2) := by decide +kernel
theorem dX8_between_38 : decode cX8_between 38 = .ok (.iconst 0, 1) := by decide +kernel
theorem dX8_between_39 : decode cX8_between 39 = .ok (.istore 6, 2) := by decide +kernel
theorem dX8_between_41 : decode cX8_between 41 = .ok (.iconst 0, 1) := by decide +kernel
theorem dX8_between_42 : decode cX8_between 42 = .ok (.istore 7, 2) := by decide +kernel
theorem dX8_between_44 : decode cX8_between 44 = .ok (.iload 7, 2) := by decide +kernel
theorem dX8_between_46 : decode cX8_between 46 = .ok (.bipush 8, 2) := by decide +kernel
theorem dX8_between_48 : decode cX8_between 48 = .ok (.if_icmp .ge 73, 3) := by decide +kernel
theorem dX8_between_51 : decode cX8_between 51 = .ok (.iconst 0, 1) := by decide +kernel
theorem dX8_between_52 : decode cX8_between 52 = .ok (.istore 8, 2) := by decide +kernel
theorem dX8_between_54 : decode cX8_between 54 = .ok (.iload 8, 2) := by decide +kernel
theorem dX8_between_56 : decode cX8_between 56 = .ok (.bipush 8, 2) := by decide +kernel
theorem dX8_between_58 : decode cX8_between 58 = .ok (.if_icmp .ge 57, 3) := by decide +kernel
theorem dX8_between_61 : decode cX8_between 61 = .ok (.iload 4, 2) := by decide +kernel
theorem dX8_between_63 : decode cX8_between 63 = .ok (.iload 5, 2) := by decide +kernel
theorem dX8_between_65 : decode cX8_between 65 = .ok (.iconst (-1), 1) := by decide +kernel
theorem dX8_between_66 : decode cX8_between 66 = .ok (.ixor, 1) := by decide +kernel
theorem dX8_between_67 : decode cX8_between 67 = .ok (.iand, 1) := by decide +kernel
theorem dX8_between_68 : decode cX8_between 68 = .ok (.iload 7, 2) := by decide +kernel
theorem dX8_between_70 : decode cX8_between 70 = .ok (.ishr, 1) := by decide +kernel
theorem dX8_between_71 : decode cX8_between 71 = .ok (.iconst 1, 1) := by decide +kernel
theorem dX8_between_72 : decode cX8_between 72 = .ok (.iand, 1) := by decide +kernel
theorem dX8_between_73 : decode cX8_between 73 = .ok (.iconst 1, 1) := by decide +kernel
theorem dX8_between_74 : decode cX8_between 74 = .ok (.if_icmp .ne 35, 3) := by decide +kernel
theorem dX8_between_77 : decode cX8_between 77 = .ok (.iload 5, 2) := by decide +kernel
theorem dX8_between_79 : decode cX8_between 79 = .ok (.iload 4, 2) := by decide +kernel
theorem dX8_between_81 : decode cX8_between 81 = .ok (.iconst (-1), 1) := by decide +kernel
theorem dX8_between_82 : decode cX8_between 82 = .ok (.ixor, 1) := by decide +kernel
theorem dX8_between_83 : decode cX8_between 83 = .ok (.iand, 1) := by decide +kernel
theorem dX8_between_84 : decode cX8_between 84 = .ok (.iload 8, 2) := by decide +kernel
theorem dX8_between_86 : decode cX8_between 86 = .ok (.ishr, 1) := by decide +kernel
theorem dX8_between_87 : decode cX8_between 87 = .ok (.iconst 1, 1) := by decide +kernel
theorem dX8_between_88 : decode cX8_between 88 = .ok (.iand, 1) := by decide +kernel
theorem dX8_between_89 : decode cX8_between 89 = .ok (.iconst 1, 1) := by decide +kernel
theorem dX8_between_90 : decode cX8_between 90 = .ok (.if_icmp .ne 19, 3) := by decide +kernel
theorem dX8_between_93 : decode cX8_between 93 = .ok (.iload 6, 2) := by decide +kernel
theorem dX8_between_95 : decode cX8_between 95 = .ok (.aload_n 0, 1) := by decide +kernel
theorem dX8_between_96 : decode cX8_between 96 = .ok (.iload_n 3, 1) := by decide +kernel
theorem dX8_between_97 : decode cX8_between 97 = .ok (.iload 7, 2) := by decide +kernel
theorem dX8_between_99 : decode cX8_between 99 = .ok (.iload 8, 2) := by decide +kernel
theorem dX8_between_101 : decode cX8_between 101 = .ok (.invokevirtual 173, 3) := by decide +kernel
theorem dX8_between_104 : decode cX8_between 104 = .ok (.invokestatic 156, 3) := by decide +kernel
theorem dX8_between_107 : decode cX8_between 107 = .ok (.istore 6, 2) := by decide +kernel
theorem dX8_between_109 : decode cX8_between 109 = .ok (.iinc 8 1, 3) := by decide +kernel
theorem dX8_between_112 : decode cX8_between 112 = .ok (.goto (-58), 3) := by decide +kernel
theorem dX8_between_115 : decode cX8_between 115 = .ok (.iinc 7 1, 3) := by decide +kernel
theorem dX8_between_118 : decode cX8_between 118 = .ok (.goto (-74), 3) := by decide +kernel
theorem dX8_between_121 : decode cX8_between 121 = .ok (.iload 6, 2) := by decide +kernel
theorem dX8_between_123 : decode cX8_between 123 = .ok (.ireturn, 1) := by decide +kernel
theorem dX8_betweens_0 : decode cX8_betweens 0 = .ok (.iconst 0, 1) := by decide +kernel
theorem dX8_betweens_1 : decode cX8_betweens 1 = .ok (.istore_n 2, 1) := by decide +kernel
theorem dX8_betweens_2 : decode cX8_betweens 2 = .ok (.iconst 0, 1) := by decide +kernel
theorem dX8_betweens_3 : decode cX8_betweens 3 = .ok (.istore_n 3, 1) := by decide +kernel
theorem dX8_betweens_4 : decode cX8_betweens 4 = .ok (.iload_n 3, 1) := by decide +kernel
theorem dX8_betweens_5 : decode cX8_betweens 5 = .ok (.aload_n 0, 1) := by decide +kernel
theorem dX8_betweens_6 : decode cX8_betweens 6 = .ok (.getfield 38, 3) := by decide +kernel
theorem dX8_betweens_9 : decode cX8_betweens 9 = .ok (.iload_n 1, 1) := by decide +kernel
theorem dX8_betweens_10 : decode cX8_betweens 10 = .ok (.iaload, 1) := by decide +kernel
theorem dX8_betweens_11 : decode cX8_betweens 11 = .ok (.if_icmp .ge 18, 3) := by decide +kernel
theorem dX8_betweens_14 : decode cX8_betweens 14 = .ok (.iload_n 2, 1) := by decide +kernel
theorem dX8_betweens_15 : decode cX8_betweens 15 = .ok (.aload_n 0, 1) := by decide +kernel
theorem dX8_betweens_16 : decode cX8_betweens 16 = .ok (.iload_n 1, 1) := by decide +kernel
theorem dX8_betweens_17 : decode cX8_betweens 17 = .ok (.iload_n 3, 1) := by decide +kernel
theorem dX8_betweens_18 : decode cX8_betweens 18 = .ok (.invokevirtual 182, 3) := by decide +kernel
theorem dX8_betweens_21 : decode cX8_betweens 21 = .ok (.iadd, 1) := by decide +kernel
theorem dX8_betweens_22 : decode cX8_betweens 22 = .ok (.istore_n 2, 1) := by decide +kernel
theorem dX8_betweens_23 : decode cX8_betweens 23 = .ok (.iinc 3 1, 3) := by decide +kernel
theorem dX8_betweens_26 : decode cX8_betweens 26 = .ok (.goto (-22), 3) := by decide +kernel
theorem dX8_betweens_29 : decode cX8_betweens 29 = .ok (.iload_n 2, 1) := by decide +kernel
theorem dX8_betweens_30 : decode cX8_betweens 30 = .ok (.ireturn, 1) := by decide +kernel
theorem dX8_layOut_0 : decode cX8_layOut 0 = .ok (.bipush 90, 2) := by decide +kernel
theorem dX8_layOut_2 : decode cX8_layOut 2 = .ok (.iload_n 1, 1) := by decide +kernel
theorem dX8_layOut_3 : decode cX8_layOut 3 = .ok (.imul, 1) := by decide +kernel
theorem dX8_layOut_4 : decode cX8_layOut 4 = .ok (.istore_n 2, 1) := by decide +kernel
theorem dX8_layOut_5 : decode cX8_layOut 5 = .ok (.iconst 0, 1) := by decide +kernel
theorem dX8_layOut_6 : decode cX8_layOut 6 = .ok (.istore_n 3, 1) := by decide +kernel
theorem dX8_layOut_7 : decode cX8_layOut 7 = .ok (.iload_n 3, 1) := by decide +kernel
theorem dX8_layOut_8 : decode cX8_layOut 8 = .ok (.aload_n 0, 1) := by decide +kernel
theorem dX8_layOut_9 : decode cX8_layOut 9 = .ok (.getfield 38, 3) := by decide +kernel
theorem dX8_layOut_12 : decode cX8_layOut 12 = .ok (.iload_n 1, 1) := by decide +kernel
theorem dX8_layOut_13 : decode cX8_layOut 13 = .ok (.iaload, 1) := by decide +kernel
theorem dX8_layOut_14 : decode cX8_layOut 14 = .ok (.if_icmp .ge 118, 3) := by decide +kernel
theorem dX8_layOut_17 : decode cX8_layOut 17 = .ok (.aload_n 0, 1) := by decide +kernel
theorem dX8_layOut_18 : decode cX8_layOut 18 = .ok (.getfield 41, 3) := by decide +kernel
theorem dX8_layOut_21 : decode cX8_layOut 21 = .ok (.iconst 4, 1) := by decide +kernel
theorem dX8_layOut_22 : decode cX8_layOut 22 = .ok (.iload_n 1, 1) := by decide +kernel
theorem dX8_layOut_23 : decode cX8_layOut 23 = .ok (.imul, 1) := by decide +kernel
theorem dX8_layOut_24 : decode cX8_layOut 24 = .ok (.iload_n 3, 1) := by decide +kernel
theorem dX8_layOut_25 : decode cX8_layOut 25 = .ok (.iadd, 1) := by decide +kernel
theorem dX8_layOut_26 : decode cX8_layOut 26 = .ok (.iaload, 1) := by decide +kernel
theorem dX8_layOut_27 : decode cX8_layOut 27 = .ok (.istore 4, 2) := by decide +kernel
theorem dX8_layOut_29 : decode cX8_layOut 29 = .ok (.iload 4, 2) := by decide +kernel
theorem dX8_layOut_31 : decode cX8_layOut 31 = .ok (.aload_n 0, 1) := by decide +kernel
theorem dX8_layOut_32 : decode cX8_layOut 32 = .ok (.getfield 41, 3) := by decide +kernel
theorem dX8_layOut_35 : decode cX8_layOut 35 = .ok (.iconst 4, 1) := by decide +kernel
theorem dX8_layOut_36 : decode cX8_layOut 36 = .ok (.iload_n 1, 1) := by decide +kernel
theorem dX8_layOut_37 : decode cX8_layOut 37 = .ok (.imul, 1) := by decide +kernel
theorem dX8_layOut_38 : decode cX8_layOut 38 = .ok (.iload_n 3, 1) := by decide +kernel
theorem dX8_layOut_39 : decode cX8_layOut 39 = .ok (.iconst 1, 1) := by decide +kernel
theorem dX8_layOut_40 : decode cX8_layOut 40 = .ok (.iadd, 1) := by decide +kernel
theorem dX8_layOut_41 : decode cX8_layOut 41 = .ok (.aload_n 0, 1) := by decide +kernel
theorem dX8_layOut_42 : decode cX8_layOut 42 = .ok (.getfield 38, 3) := by decide +kernel
theorem dX8_layOut_45 : decode cX8_layOut 45 = .ok (.iload_n 1, 1) := by decide +kernel
theorem dX8_layOut_46 : decode cX8_layOut 46 = .ok (.iaload, 1) := by decide +kernel
theorem dX8_layOut_47 : decode cX8_layOut 47 = .ok (.irem, 1) := by decide +kernel
theorem dX8_layOut_48 : decode cX8_layOut 48 = .ok (.iadd, 1) := by decide +kernel
theorem dX8_layOut_49 : decode cX8_layOut 49 = .ok (.iaload, 1) := by decide +kernel
theorem dX8_layOut_50 : decode cX8_layOut 50 = .ok (.iand, 1) := by decide +kernel
theorem dX8_layOut_51 : decode cX8_layOut 51 = .ok (.istore 5, 2) := by decide +kernel
theorem dX8_layOut_53 : decode cX8_layOut 53 = .ok (.aload_n 0, 1) := by decide +kernel
theorem dX8_layOut_54 : decode cX8_layOut 54 = .ok (.iload_n 1, 1) := by decide +kernel
theorem dX8_layOut_55 : decode cX8_layOut 55 = .ok (.iload_n 3, 1) := by decide +kernel
theorem dX8_layOut_56 : decode cX8_layOut 56 = .ok (.invokevirtual 182, 3) := by decide +kernel
theorem dX8_layOut_59 : decode cX8_layOut 59 = .ok (.istore 6, 2) := by decide +kernel
theorem dX8_layOut_61 : decode cX8_layOut 61 = .ok (.iconst 0, 1) := by decide +kernel
theorem dX8_layOut_62 : decode cX8_layOut 62 = .ok (.istore 7, 2) := by decide +kernel
theorem dX8_layOut_64 : decode cX8_layOut 64 = .ok (.iload 7, 2) := by decide +kernel
theorem dX8_layOut_66 : decode cX8_layOut 66 = .ok (.aload_n 0, 1) := by decide +kernel
theorem dX8_layOut_67 : decode cX8_layOut 67 = .ok (.getfield 44, 3) := by decide +kernel
theorem dX8_layOut_70 : decode cX8_layOut 70 = .ok (.iconst 4, 1) := by decide +kernel
theorem dX8_layOut_71 : decode cX8_layOut 71 = .ok (.iload_n 1, 1) := by decide +kernel
theorem dX8_layOut_72 : decode cX8_layOut 72 = .ok (.imul, 1) := by decide +kernel
theorem dX8_layOut_73 : decode cX8_layOut 73 = .ok (.iload_n 3, 1) := by decide +kernel
theorem dX8_layOut_74 : decode cX8_layOut 74 = .ok (.iadd, 1) := by decide +kernel
theorem dX8_layOut_75 : decode cX8_layOut 75 = .ok (.iaload, 1) := by decide +kernel
theorem dX8_layOut_76 : decode cX8_layOut 76 = .ok (.iload 6, 2) := by decide +kernel
theorem dX8_layOut_78 : decode cX8_layOut 78 = .ok (.iadd, 1) := by decide +kernel
theorem dX8_layOut_79 : decode cX8_layOut 79 = .ok (.if_icmp .ge 47, 3) := by decide +kernel
theorem dX8_layOut_82 : decode cX8_layOut 82 = .ok (.aload_n 0, 1) := by decide +kernel
theorem dX8_layOut_83 : decode cX8_layOut 83 = .ok (.getfield 69, 3) := by decide +kernel
theorem dX8_layOut_86 : decode cX8_layOut 86 = .ok (.iload_n 2, 1) := by decide +kernel
theorem dX8_layOut_87 : decode cX8_layOut 87 = .ok (.iload 7, 2) := by decide +kernel
theorem dX8_layOut_89 : decode cX8_layOut 89 = .ok (.aload_n 0, 1) := by decide +kernel
theorem dX8_layOut_90 : decode cX8_layOut 90 = .ok (.getfield 44, 3) := by decide +kernel
theorem dX8_layOut_93 : decode cX8_layOut 93 = .ok (.iconst 4, 1) := by decide +kernel
theorem dX8_layOut_94 : decode cX8_layOut 94 = .ok (.iload_n 1, 1) := by decide +kernel
theorem dX8_layOut_95 : decode cX8_layOut 95 = .ok (.imul, 1) := by decide +kernel
theorem dX8_layOut_96 : decode cX8_layOut 96 = .ok (.iload_n 3, 1) := by decide +kernel
theorem dX8_layOut_97 : decode cX8_layOut 97 = .ok (.iadd, 1) := by decide +kernel
theorem dX8_layOut_98 : decode cX8_layOut 98 = .ok (.iaload, 1) := by decide +kernel
theorem dX8_layOut_99 : decode cX8_layOut 99 = .ok (.if_icmp .ge 8, 3) := by decide +kernel
theorem dX8_layOut_102 : decode cX8_layOut 102 = .ok (.iload 4, 2) := by decide +kernel
theorem dX8_layOut_104 : decode cX8_layOut 104 = .ok (.goto 5, 3) := by decide +kernel
theorem dX8_layOut_107 : decode cX8_layOut 107 = .ok (.iload 5, 2) := by decide +kernel
theorem dX8_layOut_109 : decode cX8_layOut 109 = .ok (.iastore, 1) := by decide +kernel
theorem dX8_layOut_110 : decode cX8_layOut 110 = .ok (.aload_n 0, 1) := by decide +kernel
theorem dX8_layOut_111 : decode cX8_layOut 111 = .ok (.getfield 72, 3) := by decide +kernel
theorem dX8_layOut_114 : decode cX8_layOut 114 = .ok (.iload_n 2, 1) := by decide +kernel
theorem dX8_layOut_115 : decode cX8_layOut 115 = .ok (.iload_n 3, 1) := by decide +kernel
theorem dX8_layOut_116 : decode cX8_layOut 116 = .ok (.iastore, 1) := by decide +kernel
theorem dX8_layOut_117 : decode cX8_layOut 117 = .ok (.iinc 2 1, 3) := by decide +kernel
theorem dX8_layOut_120 : decode cX8_layOut 120 = .ok (.iinc 7 1, 3) := by decide +kernel
theorem dX8_layOut_123 : decode cX8_layOut 123 = .ok (.goto (-59), 3) := by decide +kernel
theorem dX8_layOut_126 : decode cX8_layOut 126 = .ok (.iinc 3 1, 3) := by decide +kernel
theorem dX8_layOut_129 : decode cX8_layOut 129 = .ok (.goto (-122), 3) := by decide +kernel
theorem dX8_layOut_132 : decode cX8_layOut 132 = .ok (.return_, 1) := by decide +kernel
theorem dX8_isGreen_0 : decode cX8_isGreen 0 = .ok (.aload_n 0, 1) := by decide +kernel
theorem dX8_isGreen_1 : decode cX8_isGreen 1 = .ok (.getfield 69, 3) := by decide +kernel
theorem dX8_isGreen_4 : decode cX8_isGreen 4 = .ok (.bipush 90, 2) := by decide +kernel
theorem dX8_isGreen_6 : decode cX8_isGreen 6 = .ok (.iload_n 1, 1) := by decide +kernel
theorem dX8_isGreen_7 : decode cX8_isGreen 7 = .ok (.imul, 1) := by decide +kernel
theorem dX8_isGreen_8 : decode cX8_isGreen 8 = .ok (.iload_n 3, 1) := by decide +kernel
theorem dX8_isGreen_9 : decode cX8_isGreen 9 = .ok (.aload_n 0, 1) := by decide +kernel
theorem dX8_isGreen_10 : decode cX8_isGreen 10 = .ok (.getfield 35, 3) := by decide +kernel
theorem dX8_isGreen_13 : decode cX8_isGreen 13 = .ok (.iload_n 1, 1) := by decide +kernel
theorem dX8_isGreen_14 : decode cX8_isGreen 14 = .ok (.iaload, 1) := by decide +kernel
theorem dX8_isGreen_15 : decode cX8_isGreen 15 = .ok (.invokestatic 185, 3) := by decide +kernel
theorem dX8_isGreen_18 : decode cX8_isGreen 18 = .ok (.iadd, 1) := by decide +kernel
theorem dX8_isGreen_19 : decode cX8_isGreen 19 = .ok (.iaload, 1) := by decide +kernel
theorem dX8_isGreen_20 : decode cX8_isGreen 20 = .ok (.iload_n 2, 1) := by decide +kernel
theorem dX8_isGreen_21 : decode cX8_isGreen 21 = .ok (.ishr, 1) := by decide +kernel
theorem dX8_isGreen_22 : decode cX8_isGreen 22 = .ok (.iconst 1, 1) := by decide +kernel
theorem dX8_isGreen_23 : decode cX8_isGreen 23 = .ok (.iand, 1) := by decide +kernel
theorem dX8_isGreen_24 : decode cX8_isGreen 24 = .ok (.iconst 1, 1) := by decide +kernel
theorem dX8_isGreen_25 : decode cX8_isGreen 25 = .ok (.if_icmp .ne 7, 3) := by decide +kernel
theorem dX8_isGreen_28 : decode cX8_isGreen 28 = .ok (.iconst 1, 1) := by decide +kernel
theorem dX8_isGreen_29 : decode cX8_isGreen 29 = .ok (.goto 4, 3) := by decide +kernel
theorem dX8_isGreen_32 : decode cX8_isGreen 32 = .ok (.iconst 0, 1) := by decide +kernel
theorem dX8_isGreen_33 : decode cX8_isGreen 33 = .ok (.ireturn, 1) := by decide +kernel
theorem dX8_take_0 : decode cX8_take 0 = .ok (.aload_n 0, 1) := by decide +kernel
theorem dX8_take_1 : decode cX8_take 1 = .ok (.iload_n 1, 1) := by decide +kernel
theorem dX8_take_2 : decode cX8_take 2 = .ok (.invokevirtual 142, 3) := by decide +kernel
theorem dX8_take_5 : decode cX8_take 5 = .ok (.ifCond .eq 28, 3) := by decide +kernel
theorem dX8_take_8 : decode cX8_take 8 = .ok (.aload_n 0, 1) := by decide +kernel
theorem dX8_take_9 : decode cX8_take 9 = .ok (.getfield 32, 3) := by decide +kernel
theorem dX8_take_12 : decode cX8_take 12 = .ok (.iload_n 1, 1) := by decide +kernel
theorem dX8_take_13 : decode cX8_take 13 = .ok (.baload, 1) := by decide +kernel
theorem dX8_take_14 : decode cX8_take 14 = .ok (.ifCond .eq 19, 3) := by decide +kernel
theorem dX8_take_17 : decode cX8_take 17 = .ok (.iload_n 2, 1) := by decide +kernel
theorem dX8_take_18 : decode cX8_take 18 = .ok (.iconst 0, 1) := by decide +kernel
theorem dX8_take_19 : decode cX8_take 19 = .ok (.aload_n 0, 1) := by decide +kernel
theorem dX8_take_20 : decode cX8_take 20 = .ok (.getfield 35, 3) := by decide +kernel
theorem dX8_take_23 : decode cX8_take 23 = .ok (.iload_n 1, 1) := by decide +kernel
theorem dX8_take_24 : decode cX8_take 24 = .ok (.iaload, 1) := by decide +kernel
theorem dX8_take_25 : decode cX8_take 25 = .ok (.iconst 1, 1) := by decide +kernel
theorem dX8_take_26 : decode cX8_take 26 = .ok (.isub, 1) := by decide +kernel
theorem dX8_take_27 : decode cX8_take 27 = .ok (.invokestatic 149, 3) := by decide +kernel
theorem dX8_take_30 : decode cX8_take 30 = .ok (.ifCond .ne 5, 3) := by decide +kernel
theorem dX8_take_33 : decode cX8_take 33 = .ok (.iconst 1, 1) := by decide +kernel
theorem dX8_take_34 : decode cX8_take 34 = .ok (.ireturn, 1) := by decide +kernel
theorem dX8_take_35 : decode cX8_take 35 = .ok (.iload_n 1, 1) := by decide +kernel
theorem dX8_take_36 : decode cX8_take 36 = .ok (.istore_n 3, 1) := by decide +kernel
theorem dX8_take_37 : decode cX8_take 37 = .ok (.aload_n 0, 1) := by decide +kernel
theorem dX8_take_38 : decode cX8_take 38 = .ok (.getfield 38, 3) := by decide +kernel
theorem dX8_take_41 : decode cX8_take 41 = .ok (.iload_n 3, 1) := by decide +kernel
theorem dX8_take_42 : decode cX8_take 42 = .ok (.iaload, 1) := by decide +kernel
theorem dX8_take_43 : decode cX8_take 43 = .ok (.iconst 2, 1) := by decide +kernel
theorem dX8_take_44 : decode cX8_take 44 = .ok (.if_icmp .ge 5, 3) := by decide +kernel
theorem dX8_take_47 : decode cX8_take 47 = .ok (.iconst 2, 1) := by decide +kernel
theorem dX8_take_48 : decode cX8_take 48 = .ok (.ireturn, 1) := by decide +kernel
theorem dX8_take_49 : decode cX8_take 49 = .ok (.aload_n 0, 1) := by decide +kernel
theorem dX8_take_50 : decode cX8_take 50 = .ok (.iload_n 3, 1) := by decide +kernel
theorem dX8_take_51 : decode cX8_take 51 = .ok (.invokevirtual 188, 3) := by decide +kernel
theorem dX8_take_54 : decode cX8_take 54 = .ok (.istore 4, 2) := by decide +kernel
theorem dX8_take_56 : decode cX8_take 56 = .ok (.iconst 0, 1) := by decide +kernel
theorem dX8_take_57 : decode cX8_take 57 = .ok (.istore 5, 2) := by decide +kernel
theorem dX8_take_59 : decode cX8_take 59 = .ok (.iload 5, 2) := by decide +kernel
theorem dX8_take_61 : decode cX8_take 61 = .ok (.aload_n 0, 1) := by decide +kernel
theorem dX8_take_62 : decode cX8_take 62 = .ok (.getfield 38, 3) := by decide +kernel
theorem dX8_take_65 : decode cX8_take 65 = .ok (.iload_n 3, 1) := by decide +kernel
theorem dX8_take_66 : decode cX8_take 66 = .ok (.iaload, 1) := by decide +kernel
theorem dX8_take_67 : decode cX8_take 67 = .ok (.if_icmp .ge 42, 3) := by decide +kernel
theorem dX8_take_70 : decode cX8_take 70 = .ok (.aload_n 0, 1) := by decide +kernel
theorem dX8_take_71 : decode cX8_take 71 = .ok (.getfield 44, 3) := by decide +kernel
theorem dX8_take_74 : decode cX8_take 74 = .ok (.iconst 4, 1) := by decide +kernel
theorem dX8_take_75 : decode cX8_take 75 = .ok (.iload_n 3, 1) := by decide +kernel
theorem dX8_take_76 : decode cX8_take 76 = .ok (.imul, 1) := by decide +kernel
theorem dX8_take_77 : decode cX8_take 77 = .ok (.iload 5, 2) := by decide +kernel
theorem dX8_take_79 : decode cX8_take 79 = .ok (.iadd, 1) := by decide +kernel
theorem dX8_take_80 : decode cX8_take 80 = .ok (.iaload, 1) := by decide +kernel
theorem dX8_take_81 : decode cX8_take 81 = .ok (.iconst 1, 1) := by decide +kernel
theorem dX8_take_82 : decode cX8_take 82 = .ok (.if_icmp .ge 5, 3) := by decide +kernel
theorem dX8_take_85 : decode cX8_take 85 = .ok (.iconst 3, 1) := by decide +kernel
theorem dX8_take_86 : decode cX8_take 86 = .ok (.ireturn, 1) := by decide +kernel
theorem dX8_take_87 : decode cX8_take 87 = .ok (.iload 4, 2) := by decide +kernel
theorem dX8_take_89 : decode cX8_take 89 = .ok (.aload_n 0, 1) := by decide +kernel
theorem dX8_take_90 : decode cX8_take 90 = .ok (.getfield 44, 3) := by decide +kernel
theorem dX8_take_93 : decode cX8_take 93 = .ok (.iconst 4, 1) := by decide +kernel
theorem dX8_take_94 : decode cX8_take 94 = .ok (.iload_n 3, 1) := by decide +kernel
theorem dX8_take_95 : decode cX8_take 95 = .ok (.imul, 1) := by decide +kernel
theorem dX8_take_96 : decode cX8_take 96 = .ok (.iload 5, 2) := by decide +kernel
theorem dX8_take_98 : decode cX8_take 98 = .ok (.iadd, 1) := by decide +kernel
theorem dX8_take_99 : decode cX8_take 99 = .ok (.iaload, 1) := by decide +kernel
theorem dX8_take_100 : decode cX8_take 100 = .ok (.iadd, 1) := by decide +kernel
theorem dX8_take_101 : decode cX8_take 101 = .ok (.istore 4, 2) := by decide +kernel
theorem dX8_take_103 : decode cX8_take 103 = .ok (.iinc 5 1, 3) := by decide +kernel
theorem dX8_take_106 : decode cX8_take 106 = .ok (.goto (-47), 3) := by decide +kernel
theorem dX8_take_109 : decode cX8_take 109 = .ok (.iload 4, 2) := by decide +kernel
theorem dX8_take_111 : decode cX8_take 111 = .ok (.aload_n 0, 1) := by decide +kernel
theorem dX8_take_112 : decode cX8_take 112 = .ok (.getfield 35, 3) := by decide +kernel
theorem dX8_take_115 : decode cX8_take 115 = .ok (.iload_n 3, 1) := by decide +kernel
theorem dX8_take_116 : decode cX8_take 116 = .ok (.iaload, 1) := by decide +kernel
theorem dX8_take_117 : decode cX8_take 117 = .ok (.if_icmp .eq 5, 3) := by decide +kernel
theorem dX8_take_120 : decode cX8_take 120 = .ok (.iconst 4, 1) := by decide +kernel
theorem dX8_take_121 : decode cX8_take 121 = .ok (.ireturn, 1) := by decide +kernel
theorem dX8_take_122 : decode cX8_take 122 = .ok (.aload_n 0, 1) := by decide +kernel
theorem dX8_take_123 : decode cX8_take 123 = .ok (.iload_n 3, 1) := by decide +kernel
theorem dX8_take_124 : decode cX8_take 124 = .ok (.invokevirtual 192, 3) := by decide +kernel
theorem dX8_take_127 : decode cX8_take 127 = .ok (.aload_n 0, 1) := by decide +kernel
theorem dX8_take_128 : decode cX8_take 128 = .ok (.iload_n 3, 1) := by decide +kernel
theorem dX8_take_129 : decode cX8_take 129 = .ok (.invokevirtual 196, 3) := by decide +kernel
theorem dX8_take_132 : decode cX8_take 132 = .ok (.ifCond .ne 5, 3) := by decide +kernel
theorem dX8_take_135 : decode cX8_take 135 = .ok (.iconst 5, 1) := by decide +kernel
theorem dX8_take_136 : decode cX8_take 136 = .ok (.ireturn, 1) := by decide +kernel
theorem dX8_take_137 : decode cX8_take 137 = .ok (.aload_n 0, 1) := by decide +kernel
theorem dX8_take_138 : decode cX8_take 138 = .ok (.iload_n 3, 1) := by decide +kernel
theorem dX8_take_139 : decode cX8_take 139 = .ok (.invokevirtual 199, 3) := by decide +kernel
theorem dX8_take_142 : decode cX8_take 142 = .ok (.ifCond .ne 6, 3) := by decide +kernel
theorem dX8_take_145 : decode cX8_take 145 = .ok (.bipush 6, 2) := by decide +kernel
theorem dX8_take_147 : decode cX8_take 147 = .ok (.ireturn, 1) := by decide +kernel
theorem dX8_take_148 : decode cX8_take 148 = .ok (.bipush 8, 2) := by decide +kernel
theorem dX8_take_150 : decode cX8_take 150 = .ok (.iload_n 1, 1) := by decide +kernel
theorem dX8_take_151 : decode cX8_take 151 = .ok (.iadd, 1) := by decide +kernel
theorem dX8_take_152 : decode cX8_take 152 = .ok (.istore 5, 2) := by decide +kernel
theorem dX8_take_154 : decode cX8_take 154 = .ok (.aload_n 0, 1) := by decide +kernel
theorem dX8_take_155 : decode cX8_take 155 = .ok (.getfield 32, 3) := by decide +kernel
theorem dX8_take_158 : decode cX8_take 158 = .ok (.iload 5, 2) := by decide +kernel
theorem dX8_take_160 : decode cX8_take 160 = .ok (.iconst 1, 1) := by decide +kernel
theorem dX8_take_161 : decode cX8_take 161 = .ok (.bastore, 1) := by decide +kernel
theorem dX8_take_162 : decode cX8_take 162 = .ok (.aload_n 0, 1) := by decide +kernel
theorem dX8_take_163 : decode cX8_take 163 = .ok (.getfield 35, 3) := by decide +kernel
theorem dX8_take_166 : decode cX8_take 166 = .ok (.iload 5, 2) := by decide +kernel
theorem dX8_take_168 : decode cX8_take 168 = .ok (.aload_n 0, 1) := by decide +kernel
theorem dX8_take_169 : decode cX8_take 169 = .ok (.getfield 35, 3) := by decide +kernel
theorem dX8_take_172 : decode cX8_take 172 = .ok (.iload_n 3, 1) := by decide +kernel
theorem dX8_take_173 : decode cX8_take 173 = .ok (.iaload, 1) := by decide +kernel
theorem dX8_take_174 : decode cX8_take 174 = .ok (.iastore, 1) := by decide +kernel
theorem dX8_take_175 : decode cX8_take 175 = .ok (.aload_n 0, 1) := by decide +kernel
theorem dX8_take_176 : decode cX8_take 176 = .ok (.getfield 38, 3) := by decide +kernel
theorem dX8_take_179 : decode cX8_take 179 = .ok (.iload 5, 2) := by decide +kernel
theorem dX8_take_181 : decode cX8_take 181 = .ok (.aload_n 0, 1) := by decide +kernel
theorem dX8_take_182 : decode cX8_take 182 = .ok (.getfield 38, 3) := by decide +kernel
theorem dX8_take_185 : decode cX8_take 185 = .ok (.iload_n 3, 1) := by decide +kernel
theorem dX8_take_186 : decode cX8_take 186 = .ok (.iaload, 1) := by decide +kernel
theorem dX8_take_187 : decode cX8_take 187 = .ok (.iastore, 1) := by decide +kernel
theorem dX8_take_188 : decode cX8_take 188 = .ok (.iconst 0, 1) := by decide +kernel
theorem dX8_take_189 : decode cX8_take 189 = .ok (.istore 6, 2) := by decide +kernel
theorem dX8_take_191 : decode cX8_take 191 = .ok (.iload 6, 2) := by decide +kernel
theorem dX8_take_193 : decode cX8_take 193 = .ok (.iconst 4, 1) := by decide +kernel
theorem dX8_take_194 : decode cX8_take 194 = .ok (.if_icmp .ge 55, 3) := by decide +kernel
theorem dX8_take_197 : decode cX8_take 197 = .ok (.aload_n 0, 1) := by decide +kernel
theorem dX8_take_198 : decode cX8_take 198 = .ok (.getfield 41, 3) := by decide +kernel
theorem dX8_take_201 : decode cX8_take 201 = .ok (.iconst 4, 1) := by decide +kernel
theorem dX8_take_202 : decode cX8_take 202 = .ok (.iload 5, 2) := by decide +kernel
theorem dX8_take_204 : decode cX8_take 204 = .ok (.imul, 1) := by decide +kernel
theorem dX8_take_205 : decode cX8_take 205 = .ok (.iload 6, 2) := by decide +kernel
theorem dX8_take_207 : decode cX8_take 207 = .ok (.iadd, 1) := by decide +kernel
theorem dX8_take_208 : decode cX8_take 208 = .ok (.aload_n 0, 1) := by decide +kernel
theorem dX8_take_209 : decode cX8_take 209 = .ok (.getfield 41, 3) := by decide +kernel
theorem dX8_take_212 : decode cX8_take 212 = .ok (.iconst 4, 1) := by decide +kernel
theorem dX8_take_213 : decode cX8_take 213 = .ok (.iload_n 3, 1) := by decide +kernel
theorem dX8_take_214 : decode cX8_take 214 = .ok (.imul, 1) := by decide +kernel
theorem dX8_take_215 : decode cX8_take 215 = .ok (.iload 6, 2) := by decide +kernel
theorem dX8_take_217 : decode cX8_take 217 = .ok (.iadd, 1) := by decide +kernel
theorem dX8_take_218 : decode cX8_take 218 = .ok (.iaload, 1) := by decide +kernel
theorem dX8_take_219 : decode cX8_take 219 = .ok (.iastore, 1) := by decide +kernel
theorem dX8_take_220 : decode cX8_take 220 = .ok (.aload_n 0, 1) := by decide +kernel
theorem dX8_take_221 : decode cX8_take 221 = .ok (.getfield 44, 3) := by decide +kernel
theorem dX8_take_224 : decode cX8_take 224 = .ok (.iconst 4, 1) := by decide +kernel
theorem dX8_take_225 : decode cX8_take 225 = .ok (.iload 5, 2) := by decide +kernel
theorem dX8_take_227 : decode cX8_take 227 = .ok (.imul, 1) := by decide +kernel
theorem dX8_take_228 : decode cX8_take 228 = .ok (.iload 6, 2) := by decide +kernel
theorem dX8_take_230 : decode cX8_take 230 = .ok (.iadd, 1) := by decide +kernel
theorem dX8_take_231 : decode cX8_take 231 = .ok (.aload_n 0, 1) := by decide +kernel
theorem dX8_take_232 : decode cX8_take 232 = .ok (.getfield 44, 3) := by decide +kernel
theorem dX8_take_235 : decode cX8_take 235 = .ok (.iconst 4, 1) := by decide +kernel
theorem dX8_take_236 : decode cX8_take 236 = .ok (.iload_n 3, 1) := by decide +kernel
theorem dX8_take_237 : decode cX8_take 237 = .ok (.imul, 1) := by decide +kernel
theorem dX8_take_238 : decode cX8_take 238 = .ok (.iload 6, 2) := by decide +kernel
theorem dX8_take_240 : decode cX8_take 240 = .ok (.iadd, 1) := by decide +kernel
theorem dX8_take_241 : decode cX8_take 241 = .ok (.iaload, 1) := by decide +kernel
theorem dX8_take_242 : decode cX8_take 242 = .ok (.iastore, 1) := by decide +kernel
theorem dX8_take_243 : decode cX8_take 243 = .ok (.iinc 6 1, 3) := by decide +kernel
theorem dX8_take_246 : decode cX8_take 246 = .ok (.goto (-55), 3) := by decide +kernel
theorem dX8_take_249 : decode cX8_take 249 = .ok (.aload_n 0, 1) := by decide +kernel
theorem dX8_take_250 : decode cX8_take 250 = .ok (.iload 5, 2) := by decide +kernel
theorem dX8_take_252 : decode cX8_take 252 = .ok (.invokevirtual 192, 3) := by decide +kernel
theorem dX8_take_255 : decode cX8_take 255 = .ok (.aload_n 0, 1) := by decide +kernel
theorem dX8_take_256 : decode cX8_take 256 = .ok (.getfield 32, 3) := by decide +kernel
theorem dX8_take_259 : decode cX8_take 259 = .ok (.iload_n 3, 1) := by decide +kernel
theorem dX8_take_260 : decode cX8_take 260 = .ok (.iconst 0, 1) := by decide +kernel
theorem dX8_take_261 : decode cX8_take 261 = .ok (.bastore, 1) := by decide +kernel
theorem dX8_take_262 : decode cX8_take 262 = .ok (.aload_n 0, 1) := by decide +kernel
theorem dX8_take_263 : decode cX8_take 263 = .ok (.getfield 47, 3) := by decide +kernel
theorem dX8_take_266 : decode cX8_take 266 = .ok (.iload 5, 2) := by decide +kernel
theorem dX8_take_268 : decode cX8_take 268 = .ok (.iload_n 2, 1) := by decide +kernel
theorem dX8_take_269 : decode cX8_take 269 = .ok (.iastore, 1) := by decide +kernel
theorem dX8_take_270 : decode cX8_take 270 = .ok (.aload_n 0, 1) := by decide +kernel
theorem dX8_take_271 : decode cX8_take 271 = .ok (.getfield 50, 3) := by decide +kernel
theorem dX8_take_274 : decode cX8_take 274 = .ok (.iload_n 1, 1) := by decide +kernel
theorem dX8_take_275 : decode cX8_take 275 = .ok (.aload_n 0, 1) := by decide +kernel
theorem dX8_take_276 : decode cX8_take 276 = .ok (.getfield 38, 3) := by decide +kernel
theorem dX8_take_279 : decode cX8_take 279 = .ok (.iload 5, 2) := by decide +kernel
theorem dX8_take_281 : decode cX8_take 281 = .ok (.iaload, 1) := by decide +kernel
theorem dX8_take_282 : decode cX8_take 282 = .ok (.iastore, 1) := by decide +kernel
theorem dX8_take_283 : decode cX8_take 283 = .ok (.aload_n 0, 1) := by decide +kernel
theorem dX8_take_284 : decode cX8_take 284 = .ok (.getfield 56, 3) := by decide +kernel
theorem dX8_take_287 : decode cX8_take 287 = .ok (.iload_n 1, 1) := by decide +kernel
theorem dX8_take_288 : decode cX8_take 288 = .ok (.iconst 0, 1) := by decide +kernel
theorem dX8_take_289 : decode cX8_take 289 = .ok (.bastore, 1) := by decide +kernel
theorem dX8_take_290 : decode cX8_take 290 = .ok (.aload_n 0, 1) := by decide +kernel
theorem dX8_take_291 : decode cX8_take 291 = .ok (.getfield 146, 3) := by decide +kernel
theorem dX8_take_294 : decode cX8_take 294 = .ok (.ifCond .le 16, 3) := by decide +kernel
theorem dX8_take_297 : decode cX8_take 297 = .ok (.aload_n 0, 1) := by decide +kernel
theorem dX8_take_298 : decode cX8_take 298 = .ok (.getfield 53, 3) := by decide +kernel
theorem dX8_take_301 : decode cX8_take 301 = .ok (.iload_n 1, 1) := by decide +kernel
theorem dX8_take_302 : decode cX8_take 302 = .ok (.aload_n 0, 1) := by decide +kernel
theorem dX8_take_303 : decode cX8_take 303 = .ok (.getfield 146, 3) := by decide +kernel
theorem dX8_take_306 : decode cX8_take 306 = .ok (.bipush 20, 2) := by decide +kernel
theorem dX8_take_308 : decode cX8_take 308 = .ok (.iadd, 1) := by decide +kernel
theorem dX8_take_309 : decode cX8_take 309 = .ok (.iastore, 1) := by decide +kernel
theorem dX8_take_310 : decode cX8_take 310 = .ok (.iconst 0, 1) := by decide +kernel
theorem dX8_take_311 : decode cX8_take 311 = .ok (.ireturn, 1) := by decide +kernel
theorem dX8_tells_0 : decode cX8_tells 0 = .ok (.aload_n 0, 1) := by decide +kernel
theorem dX8_tells_1 : decode cX8_tells 1 = .ok (.iload_n 1, 1) := by decide +kernel
theorem dX8_tells_2 : decode cX8_tells 2 = .ok (.putfield 202, 3) := by decide +kernel
theorem dX8_tells_5 : decode cX8_tells 5 = .ok (.aload_n 0, 1) := by decide +kernel
theorem dX8_tells_6 : decode cX8_tells 6 = .ok (.iload_n 2, 1) := by decide +kernel
theorem dX8_tells_7 : decode cX8_tells 7 = .ok (.putfield 59, 3) := by decide +kernel
theorem dX8_tells_10 : decode cX8_tells 10 = .ok (.aload_n 0, 1) := by decide +kernel
theorem dX8_tells_11 : decode cX8_tells 11 = .ok (.iload_n 3, 1) := by decide +kernel
theorem dX8_tells_12 : decode cX8_tells 12 = .ok (.putfield 63, 3) := by decide +kernel
theorem dX8_tells_15 : decode cX8_tells 15 = .ok (.aload_n 0, 1) := by decide +kernel
theorem dX8_tells_16 : decode cX8_tells 16 = .ok (.iload 4, 2) := by decide +kernel
theorem dX8_tells_18 : decode cX8_tells 18 = .ok (.putfield 66, 3) := by decide +kernel
theorem dX8_tells_21 : decode cX8_tells 21 = .ok (.iconst 0, 1) := by decide +kernel
theorem dX8_tells_22 : decode cX8_tells 22 = .ok (.ireturn, 1) := by decide +kernel
theorem dX8_hasLeast_0 : decode cX8_hasLeast 0 = .ok (.iconst 0, 1) := by decide +kernel
theorem dX8_hasLeast_1 : decode cX8_hasLeast 1 = .ok (.istore_n 2, 1) := by decide +kernel
theorem dX8_hasLeast_2 : decode cX8_hasLeast 2 = .ok (.iload_n 2, 1) := by decide +kernel
theorem dX8_hasLeast_3 : decode cX8_hasLeast 3 = .ok (.aload_n 0, 1) := by decide +kernel
theorem dX8_hasLeast_4 : decode cX8_hasLeast 4 = .ok (.getfield 35, 3) := by decide +kernel
theorem dX8_hasLeast_7 : decode cX8_hasLeast 7 = .ok (.iload_n 1, 1) := by decide +kernel
theorem dX8_hasLeast_8 : decode cX8_hasLeast 8 = .ok (.iaload, 1) := by decide +kernel
theorem dX8_hasLeast_9 : decode cX8_hasLeast 9 = .ok (.if_icmp .ge 99, 3) := by decide +kernel
theorem dX8_hasLeast_12 : decode cX8_hasLeast 12 = .ok (.iconst 0, 1) := by decide +kernel
theorem dX8_hasLeast_13 : decode cX8_hasLeast 13 = .ok (.istore_n 3, 1) := by decide +kernel
theorem dX8_hasLeast_14 : decode cX8_hasLeast 14 = .ok (.iload_n 3, 1) := by decide +kernel
theorem dX8_hasLeast_15 : decode cX8_hasLeast 15 = .ok (.aload_n 0, 1) := by decide +kernel
theorem dX8_hasLeast_16 : decode cX8_hasLeast 16 = .ok (.getfield 7, 3) := by decide +kernel
theorem dX8_hasLeast_19 : decode cX8_hasLeast 19 = .ok (.iload_n 1, 1) := by decide +kernel
theorem dX8_hasLeast_20 : decode cX8_hasLeast 20 = .ok (.iaload, 1) := by decide +kernel
theorem dX8_hasLeast_21 : decode cX8_hasLeast 21 = .ok (.if_icmp .ge 81, 3) := by decide +kernel
theorem dX8_hasLeast_24 : decode cX8_hasLeast 24 = .ok (.aload_n 0, 1) := by decide +kernel
theorem dX8_hasLeast_25 : decode cX8_hasLeast 25 = .ok (.iload_n 1, 1) := by decide +kernel
theorem dX8_hasLeast_26 : decode cX8_hasLeast 26 = .ok (.iload_n 3, 1) := by decide +kernel
theorem dX8_hasLeast_27 : decode cX8_hasLeast 27 = .ok (.iload_n 2, 1) := by decide +kernel
theorem dX8_hasLeast_28 : decode cX8_hasLeast 28 = .ok (.invokevirtual 205, 3) := by decide +kernel
theorem dX8_hasLeast_31 : decode cX8_hasLeast 31 = .ok (.ifCond .eq 65, 3) := by decide +kernel
theorem dX8_hasLeast_34 : decode cX8_hasLeast 34 = .ok (.aload_n 0, 1) := by decide +kernel
theorem dX8_hasLeast_35 : decode cX8_hasLeast 35 = .ok (.iload_n 1, 1) := by decide +kernel
theorem dX8_hasLeast_36 : decode cX8_hasLeast 36 = .ok (.iload_n 3, 1) := by decide +kernel
theorem dX8_hasLeast_37 : decode cX8_hasLeast 37 = .ok (.iload_n 2, 1) := by decide +kernel
theorem dX8_hasLeast_38 : decode cX8_hasLeast 38 = .ok (.iconst 1, 1) := by decide +kernel
theorem dX8_hasLeast_39 : decode cX8_hasLeast 39 = .ok (.isub, 1) := by decide +kernel
theorem dX8_hasLeast_40 : decode cX8_hasLeast 40 = .ok (.invokevirtual 205, 3) := by decide +kernel
theorem dX8_hasLeast_43 : decode cX8_hasLeast 43 = .ok (.ifCond .eq 6, 3) := by decide +kernel
theorem dX8_hasLeast_46 : decode cX8_hasLeast 46 = .ok (.goto 50, 3) := by decide +kernel
theorem dX8_hasLeast_49 : decode cX8_hasLeast 49 = .ok (.iconst 0, 1) := by decide +kernel
theorem dX8_hasLeast_50 : decode cX8_hasLeast 50 = .ok (.istore 4, 2) := by decide +kernel
theorem dX8_hasLeast_52 : decode cX8_hasLeast 52 = .ok (.aload_n 0, 1) := by decide +kernel
theorem dX8_hasLeast_53 : decode cX8_hasLeast 53 = .ok (.iload_n 1, 1) := by decide +kernel
theorem dX8_hasLeast_54 : decode cX8_hasLeast 54 = .ok (.iload_n 3, 1) := by decide +kernel
theorem dX8_hasLeast_55 : decode cX8_hasLeast 55 = .ok (.iload_n 2, 1) := by decide +kernel
theorem dX8_hasLeast_56 : decode cX8_hasLeast 56 = .ok (.iload 4, 2) := by decide +kernel
theorem dX8_hasLeast_58 : decode cX8_hasLeast 58 = .ok (.iadd, 1) := by decide +kernel
theorem dX8_hasLeast_59 : decode cX8_hasLeast 59 = .ok (.invokevirtual 205, 3) := by decide +kernel
theorem dX8_hasLeast_62 : decode cX8_hasLeast 62 = .ok (.ifCond .eq 9, 3) := by decide +kernel
theorem dX8_hasLeast_65 : decode cX8_hasLeast 65 = .ok (.iinc 4 1, 3) := by decide +kernel
theorem dX8_hasLeast_68 : decode cX8_hasLeast 68 = .ok (.goto (-16), 3) := by decide +kernel
theorem dX8_hasLeast_71 : decode cX8_hasLeast 71 = .ok (.iload 4, 2) := by decide +kernel
theorem dX8_hasLeast_73 : decode cX8_hasLeast 73 = .ok (.aload_n 0, 1) := by decide +kernel
theorem dX8_hasLeast_74 : decode cX8_hasLeast 74 = .ok (.getfield 22, 3) := by decide +kernel
theorem dX8_hasLeast_77 : decode cX8_hasLeast 77 = .ok (.bipush 8, 2) := by decide +kernel
theorem dX8_hasLeast_79 : decode cX8_hasLeast 79 = .ok (.iload_n 1, 1) := by decide +kernel
theorem dX8_hasLeast_80 : decode cX8_hasLeast 80 = .ok (.imul, 1) := by decide +kernel
theorem dX8_hasLeast_81 : decode cX8_hasLeast 81 = .ok (.iload_n 3, 1) := by decide +kernel
theorem dX8_hasLeast_82 : decode cX8_hasLeast 82 = .ok (.iadd, 1) := by decide +kernel
theorem dX8_hasLeast_83 : decode cX8_hasLeast 83 = .ok (.iaload, 1) := by decide +kernel
theorem dX8_hasLeast_84 : decode cX8_hasLeast 84 = .ok (.if_icmp .ge 12, 3) := by decide +kernel
theorem dX8_hasLeast_87 : decode cX8_hasLeast 87 = .ok (.aload_n 0, 1) := by decide +kernel
theorem dX8_hasLeast_88 : decode cX8_hasLeast 88 = .ok (.iconst 5, 1) := by decide +kernel
theorem dX8_hasLeast_89 : decode cX8_hasLeast 89 = .ok (.iload_n 2, 1) := by decide +kernel
theorem dX8_hasLeast_90 : decode cX8_hasLeast 90 = .ok (.iload_n 3, 1) := by decide +kernel
theorem dX8_hasLeast_91 : decode cX8_hasLeast 91 = .ok (.iconst (-1), 1) := by decide +kernel
theorem dX8_hasLeast_92 : decode cX8_hasLeast 92 = .ok (.invokevirtual 208, 3) := by decide +kernel
theorem dX8_hasLeast_95 : decode cX8_hasLeast 95 = .ok (.ireturn, 1) := by decide +kernel
theorem dX8_hasLeast_96 : decode cX8_hasLeast 96 = .ok (.iinc 3 1, 3) := by decide +kernel
theorem dX8_hasLeast_99 : decode cX8_hasLeast 99 = .ok (.goto (-85), 3) := by decide +kernel
theorem dX8_hasLeast_102 : decode cX8_hasLeast 102 = .ok (.iinc 2 1, 3) := by decide +kernel
theorem dX8_hasLeast_105 : decode cX8_hasLeast 105 = .ok (.goto (-103), 3) := by decide +kernel
theorem dX8_hasLeast_108 : decode cX8_hasLeast 108 = .ok (.iconst 1, 1) := by decide +kernel
theorem dX8_hasLeast_109 : decode cX8_hasLeast 109 = .ok (.ireturn, 1) := by decide +kernel
theorem dX8_isApart_0 : decode cX8_isApart 0 = .ok (.iconst 0, 1) := by decide +kernel
theorem dX8_isApart_1 : decode cX8_isApart 1 = .ok (.istore_n 2, 1) := by decide +kernel
theorem dX8_isApart_2 : decode cX8_isApart 2 = .ok (.iload_n 2, 1) := by decide +kernel
theorem dX8_isApart_3 : decode cX8_isApart 3 = .ok (.aload_n 0, 1) := by decide +kernel
theorem dX8_isApart_4 : decode cX8_isApart 4 = .ok (.getfield 35, 3) := by decide +kernel
theorem dX8_isApart_7 : decode cX8_isApart 7 = .ok (.iload_n 1, 1) := by decide +kernel
theorem dX8_isApart_8 : decode cX8_isApart 8 = .ok (.iaload, 1) := by decide +kernel
theorem dX8_isApart_9 : decode cX8_isApart 9 = .ok (.if_icmp .ge 116, 3) := by decide +kernel
theorem dX8_isApart_12 : decode cX8_isApart 12 = .ok (.iconst 0, 1) := by decide +kernel
theorem dX8_isApart_13 : decode cX8_isApart 13 = .ok (.istore_n 3, 1) := by decide +kernel
theorem dX8_isApart_14 : decode cX8_isApart 14 = .ok (.iload_n 3, 1) := by decide +kernel
theorem dX8_isApart_15 : decode cX8_isApart 15 = .ok (.aload_n 0, 1) := by decide +kernel
theorem dX8_isApart_16 : decode cX8_isApart 16 = .ok (.getfield 7, 3) := by decide +kernel
theorem dX8_isApart_19 : decode cX8_isApart 19 = .ok (.iload_n 1, 1) := by decide +kernel
theorem dX8_isApart_20 : decode cX8_isApart 20 = .ok (.iaload, 1) := by decide +kernel
theorem dX8_isApart_21 : decode cX8_isApart 21 = .ok (.if_icmp .ge 98, 3) := by decide +kernel
theorem dX8_isApart_24 : decode cX8_isApart 24 = .ok (.aload_n 0, 1) := by decide +kernel
theorem dX8_isApart_25 : decode cX8_isApart 25 = .ok (.iload_n 1, 1) := by decide +kernel
theorem dX8_isApart_26 : decode cX8_isApart 26 = .ok (.iload_n 3, 1) := by decide +kernel
theorem dX8_isApart_27 : decode cX8_isApart 27 = .ok (.iload_n 2, 1) := by decide +kernel
theorem dX8_isApart_28 : decode cX8_isApart 28 = .ok (.invokevirtual 205, 3) := by decide +kernel
theorem dX8_isApart_31 : decode cX8_isApart 31 = .ok (.ifCond .ne 6, 3) := by decide +kernel
theorem dX8_isApart_34 : decode cX8_isApart 34 = .ok (.goto 79, 3) := by decide +kernel
theorem dX8_isApart_37 : decode cX8_isApart 37 = .ok (.iconst 0, 1) := by decide +kernel
theorem dX8_isApart_38 : decode cX8_isApart 38 = .ok (.istore 4, 2) := by decide +kernel
theorem dX8_isApart_40 : decode cX8_isApart 40 = .ok (.iload 4, 2) := by decide +kernel
theorem dX8_isApart_42 : decode cX8_isApart 42 = .ok (.aload_n 0, 1) := by decide +kernel
theorem dX8_isApart_43 : decode cX8_isApart 43 = .ok (.getfield 7, 3) := by decide +kernel
theorem dX8_isApart_46 : decode cX8_isApart 46 = .ok (.iload_n 1, 1) := by decide +kernel
theorem dX8_isApart_47 : decode cX8_isApart 47 = .ok (.iaload, 1) := by decide +kernel
theorem dX8_isApart_48 : decode cX8_isApart 48 = .ok (.if_icmp .ge 65, 3) := by decide +kernel
theorem dX8_isApart_51 : decode cX8_isApart 51 = .ok (.aload_n 0, 1) := by decide +kernel
theorem dX8_isApart_52 : decode cX8_isApart 52 = .ok (.iload_n 1, 1) := by decide +kernel
theorem dX8_isApart_53 : decode cX8_isApart 53 = .ok (.iload 4, 2) := by decide +kernel
theorem dX8_isApart_55 : decode cX8_isApart 55 = .ok (.iload_n 3, 1) := by decide +kernel
theorem dX8_isApart_56 : decode cX8_isApart 56 = .ok (.invokevirtual 173, 3) := by decide +kernel
theorem dX8_isApart_59 : decode cX8_isApart 59 = .ok (.istore 5, 2) := by decide +kernel
theorem dX8_isApart_61 : decode cX8_isApart 61 = .ok (.iconst 0, 1) := by decide +kernel
theorem dX8_isApart_62 : decode cX8_isApart 62 = .ok (.istore 6, 2) := by decide +kernel
theorem dX8_isApart_64 : decode cX8_isApart 64 = .ok (.iload 6, 2) := by decide +kernel
theorem dX8_isApart_66 : decode cX8_isApart 66 = .ok (.iload 5, 2) := by decide +kernel
theorem dX8_isApart_68 : decode cX8_isApart 68 = .ok (.if_icmp .gt 39, 3) := by decide +kernel
theorem dX8_isApart_71 : decode cX8_isApart 71 = .ok (.iload 5, 2) := by decide +kernel
theorem dX8_isApart_73 : decode cX8_isApart 73 = .ok (.ifCond .le 34, 3) := by decide +kernel
theorem dX8_isApart_76 : decode cX8_isApart 76 = .ok (.aload_n 0, 1) := by decide +kernel
theorem dX8_isApart_77 : decode cX8_isApart 77 = .ok (.iload_n 1, 1) := by decide +kernel
theorem dX8_isApart_78 : decode cX8_isApart 78 = .ok (.iload 4, 2) := by decide +kernel
theorem dX8_isApart_80 : decode cX8_isApart 80 = .ok (.iload_n 2, 1) := by decide +kernel
theorem dX8_isApart_81 : decode cX8_isApart 81 = .ok (.iload 6, 2) := by decide +kernel
theorem dX8_isApart_83 : decode cX8_isApart 83 = .ok (.isub, 1) := by decide +kernel
theorem dX8_isApart_84 : decode cX8_isApart 84 = .ok (.invokevirtual 205, 3) := by decide +kernel
theorem dX8_isApart_87 : decode cX8_isApart 87 = .ok (.ifCond .eq 14, 3) := by decide +kernel
theorem dX8_isApart_90 : decode cX8_isApart 90 = .ok (.aload_n 0, 1) := by decide +kernel
theorem dX8_isApart_91 : decode cX8_isApart 91 = .ok (.bipush 6, 2) := by decide +kernel
theorem dX8_isApart_93 : decode cX8_isApart 93 = .ok (.iload_n 2, 1) := by decide +kernel
theorem dX8_isApart_94 : decode cX8_isApart 94 = .ok (.iload 4, 2) := by decide +kernel
theorem dX8_isApart_96 : decode cX8_isApart 96 = .ok (.iload_n 3, 1) := by decide +kernel
theorem dX8_isApart_97 : decode cX8_isApart 97 = .ok (.invokevirtual 208, 3) := by decide +kernel
theorem dX8_isApart_100 : decode cX8_isApart 100 = .ok (.ireturn, 1) := by decide +kernel
theorem dX8_isApart_101 : decode cX8_isApart 101 = .ok (.iinc 6 1, 3) := by decide +kernel
theorem dX8_isApart_104 : decode cX8_isApart 104 = .ok (.goto (-40), 3) := by decide +kernel
theorem dX8_isApart_107 : decode cX8_isApart 107 = .ok (.iinc 4 1, 3) := by decide +kernel
theorem dX8_isApart_110 : decode cX8_isApart 110 = .ok (.goto (-70), 3) := by decide +kernel
theorem dX8_isApart_113 : decode cX8_isApart 113 = .ok (.iinc 3 1, 3) := by decide +kernel
theorem dX8_isApart_116 : decode cX8_isApart 116 = .ok (.goto (-102), 3) := by decide +kernel
theorem dX8_isApart_119 : decode cX8_isApart 119 = .ok (.iinc 2 1, 3) := by decide +kernel
theorem dX8_isApart_122 : decode cX8_isApart 122 = .ok (.goto (-120), 3) := by decide +kernel
theorem dX8_isApart_125 : decode cX8_isApart 125 = .ok (.iconst 1, 1) := by decide +kernel
theorem dX8_isApart_126 : decode cX8_isApart 126 = .ok (.ireturn, 1) := by decide +kernel
theorem dX8_why_0 : decode cX8_why 0 = .ok (.aload_n 0, 1) := by decide +kernel
theorem dX8_why_1 : decode cX8_why 1 = .ok (.getfield 202, 3) := by decide +kernel
theorem dX8_why_4 : decode cX8_why 4 = .ok (.ifCond .ne 7, 3) := by decide +kernel
theorem dX8_why_7 : decode cX8_why 7 = .ok (.iconst (-1), 1) := by decide +kernel
theorem dX8_why_8 : decode cX8_why 8 = .ok (.goto 39, 3) := by decide +kernel
theorem dX8_why_11 : decode cX8_why 11 = .ok (.iload_n 1, 1) := by decide +kernel
theorem dX8_why_12 : decode cX8_why 12 = .ok (.ifCond .ne 10, 3) := by decide +kernel
theorem dX8_why_15 : decode cX8_why 15 = .ok (.aload_n 0, 1) := by decide +kernel
theorem dX8_why_16 : decode cX8_why 16 = .ok (.getfield 59, 3) := by decide +kernel
theorem dX8_why_19 : decode cX8_why 19 = .ok (.goto 28, 3) := by decide +kernel
theorem dX8_why_22 : decode cX8_why 22 = .ok (.iload_n 1, 1) := by decide +kernel
theorem dX8_why_23 : decode cX8_why 23 = .ok (.iconst 1, 1) := by decide +kernel
theorem dX8_why_24 : decode cX8_why 24 = .ok (.if_icmp .ne 10, 3) := by decide +kernel
theorem dX8_why_27 : decode cX8_why 27 = .ok (.aload_n 0, 1) := by decide +kernel
theorem dX8_why_28 : decode cX8_why 28 = .ok (.getfield 63, 3) := by decide +kernel
theorem dX8_why_31 : decode cX8_why 31 = .ok (.goto 16, 3) := by decide +kernel
theorem dX8_why_34 : decode cX8_why 34 = .ok (.iload_n 1, 1) := by decide +kernel
theorem dX8_why_35 : decode cX8_why 35 = .ok (.iconst 2, 1) := by decide +kernel
theorem dX8_why_36 : decode cX8_why 36 = .ok (.if_icmp .ne 10, 3) := by decide +kernel
theorem dX8_why_39 : decode cX8_why 39 = .ok (.aload_n 0, 1) := by decide +kernel
theorem dX8_why_40 : decode cX8_why 40 = .ok (.getfield 66, 3) := by decide +kernel
theorem dX8_why_43 : decode cX8_why 43 = .ok (.goto 4, 3) := by decide +kernel
theorem dX8_why_46 : decode cX8_why 46 = .ok (.iconst (-1), 1) := by decide +kernel
theorem dX8_why_47 : decode cX8_why 47 = .ok (.ireturn, 1) := by decide +kernel
theorem dX8_told_0 : decode cX8_told 0 = .ok (.aload_n 0, 1) := by decide +kernel
theorem dX8_told_1 : decode cX8_told 1 = .ok (.iload_n 1, 1) := by decide +kernel
theorem dX8_told_2 : decode cX8_told 2 = .ok (.invokevirtual 142, 3) := by decide +kernel
theorem dX8_told_5 : decode cX8_told 5 = .ok (.ifCond .eq 15, 3) := by decide +kernel
end
section
theorem dX8_told_8 : decode cX8_told 8 = .ok (.aload_n 0, 1) := by decide +kernel
theorem dX8_told_9 : decode cX8_told 9 = .ok (.getfield 32, 3) := by decide +kernel
theorem dX8_told_12 : decode cX8_told 12 = .ok (.bipush 8, 2) := by decide +kernel
theorem dX8_told_14 : decode cX8_told 14 = .ok (.iload_n 1, 1) := by decide +kernel
theorem dX8_told_15 : decode cX8_told 15 = .ok (.iadd, 1) := by decide +kernel
theorem dX8_told_16 : decode cX8_told 16 = .ok (.baload, 1) := by decide +kernel
theorem dX8_told_17 : decode cX8_told 17 = .ok (.ifCond .ne 5, 3) := by decide +kernel
theorem dX8_told_20 : decode cX8_told 20 = .ok (.iconst (-1), 1) := by decide +kernel
theorem dX8_told_21 : decode cX8_told 21 = .ok (.ireturn, 1) := by decide +kernel
theorem dX8_told_22 : decode cX8_told 22 = .ok (.bipush 8, 2) := by decide +kernel
theorem dX8_told_24 : decode cX8_told 24 = .ok (.iload_n 1, 1) := by decide +kernel
theorem dX8_told_25 : decode cX8_told 25 = .ok (.iadd, 1) := by decide +kernel
theorem dX8_told_26 : decode cX8_told 26 = .ok (.istore_n 3, 1) := by decide +kernel
theorem dX8_told_27 : decode cX8_told 27 = .ok (.iload_n 2, 1) := by decide +kernel
theorem dX8_told_28 : decode cX8_told 28 = .ok (.bipush 10, 2) := by decide +kernel
theorem dX8_told_30 : decode cX8_told 30 = .ok (.irem, 1) := by decide +kernel
theorem dX8_told_31 : decode cX8_told 31 = .ok (.istore 4, 2) := by decide +kernel
theorem dX8_told_33 : decode cX8_told 33 = .ok (.iload_n 2, 1) := by decide +kernel
theorem dX8_told_34 : decode cX8_told 34 = .ok (.ifCond .ne 10, 3) := by decide +kernel
theorem dX8_told_37 : decode cX8_told 37 = .ok (.aload_n 0, 1) := by decide +kernel
theorem dX8_told_38 : decode cX8_told 38 = .ok (.getfield 35, 3) := by decide +kernel
theorem dX8_told_41 : decode cX8_told 41 = .ok (.iload_n 3, 1) := by decide +kernel
theorem dX8_told_42 : decode cX8_told 42 = .ok (.iaload, 1) := by decide +kernel
theorem dX8_told_43 : decode cX8_told 43 = .ok (.ireturn, 1) := by decide +kernel
theorem dX8_told_44 : decode cX8_told 44 = .ok (.iload_n 2, 1) := by decide +kernel
theorem dX8_told_45 : decode cX8_told 45 = .ok (.iconst 1, 1) := by decide +kernel
theorem dX8_told_46 : decode cX8_told 46 = .ok (.if_icmp .ne 10, 3) := by decide +kernel
theorem dX8_told_49 : decode cX8_told 49 = .ok (.aload_n 0, 1) := by decide +kernel
theorem dX8_told_50 : decode cX8_told 50 = .ok (.getfield 47, 3) := by decide +kernel
theorem dX8_told_53 : decode cX8_told 53 = .ok (.iload_n 3, 1) := by decide +kernel
theorem dX8_told_54 : decode cX8_told 54 = .ok (.iaload, 1) := by decide +kernel
theorem dX8_told_55 : decode cX8_told 55 = .ok (.ireturn, 1) := by decide +kernel
theorem dX8_told_56 : decode cX8_told 56 = .ok (.iload_n 2, 1) := by decide +kernel
theorem dX8_told_57 : decode cX8_told 57 = .ok (.iconst 2, 1) := by decide +kernel
theorem dX8_told_58 : decode cX8_told 58 = .ok (.if_icmp .ne 10, 3) := by decide +kernel
theorem dX8_told_61 : decode cX8_told 61 = .ok (.aload_n 0, 1) := by decide +kernel
theorem dX8_told_62 : decode cX8_told 62 = .ok (.getfield 38, 3) := by decide +kernel
theorem dX8_told_65 : decode cX8_told 65 = .ok (.iload_n 3, 1) := by decide +kernel
theorem dX8_told_66 : decode cX8_told 66 = .ok (.iaload, 1) := by decide +kernel
theorem dX8_told_67 : decode cX8_told 67 = .ok (.ireturn, 1) := by decide +kernel
theorem dX8_told_68 : decode cX8_told 68 = .ok (.iload_n 2, 1) := by decide +kernel
theorem dX8_told_69 : decode cX8_told 69 = .ok (.iconst 3, 1) := by decide +kernel
theorem dX8_told_70 : decode cX8_told 70 = .ok (.if_icmp .ne 9, 3) := by decide +kernel
theorem dX8_told_73 : decode cX8_told 73 = .ok (.aload_n 0, 1) := by decide +kernel
theorem dX8_told_74 : decode cX8_told 74 = .ok (.iload_n 3, 1) := by decide +kernel
theorem dX8_told_75 : decode cX8_told 75 = .ok (.invokevirtual 188, 3) := by decide +kernel
theorem dX8_told_78 : decode cX8_told 78 = .ok (.ireturn, 1) := by decide +kernel
theorem dX8_told_79 : decode cX8_told 79 = .ok (.iload_n 2, 1) := by decide +kernel
theorem dX8_told_80 : decode cX8_told 80 = .ok (.bipush 10, 2) := by decide +kernel
theorem dX8_told_82 : decode cX8_told 82 = .ok (.if_icmp .lt 20, 3) := by decide +kernel
theorem dX8_told_85 : decode cX8_told 85 = .ok (.iload_n 2, 1) := by decide +kernel
theorem dX8_told_86 : decode cX8_told 86 = .ok (.bipush 39, 2) := by decide +kernel
theorem dX8_told_88 : decode cX8_told 88 = .ok (.if_icmp .gt 14, 3) := by decide +kernel
theorem dX8_told_91 : decode cX8_told 91 = .ok (.iload 4, 2) := by decide +kernel
theorem dX8_told_93 : decode cX8_told 93 = .ok (.aload_n 0, 1) := by decide +kernel
theorem dX8_told_94 : decode cX8_told 94 = .ok (.getfield 38, 3) := by decide +kernel
theorem dX8_told_97 : decode cX8_told 97 = .ok (.iload_n 3, 1) := by decide +kernel
theorem dX8_told_98 : decode cX8_told 98 = .ok (.iaload, 1) := by decide +kernel
theorem dX8_told_99 : decode cX8_told 99 = .ok (.if_icmp .lt 5, 3) := by decide +kernel
theorem dX8_told_102 : decode cX8_told 102 = .ok (.iconst (-1), 1) := by decide +kernel
theorem dX8_told_103 : decode cX8_told 103 = .ok (.ireturn, 1) := by decide +kernel
theorem dX8_told_104 : decode cX8_told 104 = .ok (.iload_n 2, 1) := by decide +kernel
theorem dX8_told_105 : decode cX8_told 105 = .ok (.bipush 20, 2) := by decide +kernel
theorem dX8_told_107 : decode cX8_told 107 = .ok (.if_icmp .ge 15, 3) := by decide +kernel
theorem dX8_told_110 : decode cX8_told 110 = .ok (.aload_n 0, 1) := by decide +kernel
theorem dX8_told_111 : decode cX8_told 111 = .ok (.getfield 41, 3) := by decide +kernel
theorem dX8_told_114 : decode cX8_told 114 = .ok (.iconst 4, 1) := by decide +kernel
theorem dX8_told_115 : decode cX8_told 115 = .ok (.iload_n 3, 1) := by decide +kernel
theorem dX8_told_116 : decode cX8_told 116 = .ok (.imul, 1) := by decide +kernel
theorem dX8_told_117 : decode cX8_told 117 = .ok (.iload 4, 2) := by decide +kernel
theorem dX8_told_119 : decode cX8_told 119 = .ok (.iadd, 1) := by decide +kernel
theorem dX8_told_120 : decode cX8_told 120 = .ok (.iaload, 1) := by decide +kernel
theorem dX8_told_121 : decode cX8_told 121 = .ok (.ireturn, 1) := by decide +kernel
theorem dX8_told_122 : decode cX8_told 122 = .ok (.iload_n 2, 1) := by decide +kernel
theorem dX8_told_123 : decode cX8_told 123 = .ok (.bipush 29, 2) := by decide +kernel
theorem dX8_told_125 : decode cX8_told 125 = .ok (.if_icmp .le 13, 3) := by decide +kernel
theorem dX8_told_128 : decode cX8_told 128 = .ok (.aload_n 0, 1) := by decide +kernel
theorem dX8_told_129 : decode cX8_told 129 = .ok (.iload_n 3, 1) := by decide +kernel
theorem dX8_told_130 : decode cX8_told 130 = .ok (.iload 4, 2) := by decide +kernel
theorem dX8_told_132 : decode cX8_told 132 = .ok (.invokevirtual 182, 3) := by decide +kernel
theorem dX8_told_135 : decode cX8_told 135 = .ok (.goto 29, 3) := by decide +kernel
theorem dX8_told_138 : decode cX8_told 138 = .ok (.iload 4, 2) := by decide +kernel
theorem dX8_told_140 : decode cX8_told 140 = .ok (.aload_n 0, 1) := by decide +kernel
theorem dX8_told_141 : decode cX8_told 141 = .ok (.getfield 50, 3) := by decide +kernel
theorem dX8_told_144 : decode cX8_told 144 = .ok (.iload_n 1, 1) := by decide +kernel
theorem dX8_told_145 : decode cX8_told 145 = .ok (.iaload, 1) := by decide +kernel
theorem dX8_told_146 : decode cX8_told 146 = .ok (.if_icmp .ge 17, 3) := by decide +kernel
theorem dX8_told_149 : decode cX8_told 149 = .ok (.aload_n 0, 1) := by decide +kernel
theorem dX8_told_150 : decode cX8_told 150 = .ok (.getfield 44, 3) := by decide +kernel
theorem dX8_told_153 : decode cX8_told 153 = .ok (.iconst 4, 1) := by decide +kernel
theorem dX8_told_154 : decode cX8_told 154 = .ok (.iload_n 3, 1) := by decide +kernel
theorem dX8_told_155 : decode cX8_told 155 = .ok (.imul, 1) := by decide +kernel
theorem dX8_told_156 : decode cX8_told 156 = .ok (.iload 4, 2) := by decide +kernel
theorem dX8_told_158 : decode cX8_told 158 = .ok (.iadd, 1) := by decide +kernel
theorem dX8_told_159 : decode cX8_told 159 = .ok (.iaload, 1) := by decide +kernel
theorem dX8_told_160 : decode cX8_told 160 = .ok (.goto 4, 3) := by decide +kernel
theorem dX8_told_163 : decode cX8_told 163 = .ok (.iconst (-1), 1) := by decide +kernel
theorem dX8_told_164 : decode cX8_told 164 = .ok (.ireturn, 1) := by decide +kernel
theorem dX8_offset_0 : decode cX8_offset 0 = .ok (.aload_n 0, 1) := by decide +kernel
theorem dX8_offset_1 : decode cX8_offset 1 = .ok (.iload_n 1, 1) := by decide +kernel
theorem dX8_offset_2 : decode cX8_offset 2 = .ok (.invokevirtual 142, 3) := by decide +kernel
theorem dX8_offset_5 : decode cX8_offset 5 = .ok (.ifCond .eq 47, 3) := by decide +kernel
theorem dX8_offset_8 : decode cX8_offset 8 = .ok (.aload_n 0, 1) := by decide +kernel
theorem dX8_offset_9 : decode cX8_offset 9 = .ok (.getfield 32, 3) := by decide +kernel
theorem dX8_offset_12 : decode cX8_offset 12 = .ok (.bipush 8, 2) := by decide +kernel
theorem dX8_offset_14 : decode cX8_offset 14 = .ok (.iload_n 1, 1) := by decide +kernel
theorem dX8_offset_15 : decode cX8_offset 15 = .ok (.iadd, 1) := by decide +kernel
theorem dX8_offset_16 : decode cX8_offset 16 = .ok (.baload, 1) := by decide +kernel
theorem dX8_offset_17 : decode cX8_offset 17 = .ok (.ifCond .eq 35, 3) := by decide +kernel
theorem dX8_offset_20 : decode cX8_offset 20 = .ok (.iload_n 2, 1) := by decide +kernel
theorem dX8_offset_21 : decode cX8_offset 21 = .ok (.iconst 0, 1) := by decide +kernel
theorem dX8_offset_22 : decode cX8_offset 22 = .ok (.aload_n 0, 1) := by decide +kernel
theorem dX8_offset_23 : decode cX8_offset 23 = .ok (.getfield 35, 3) := by decide +kernel
theorem dX8_offset_26 : decode cX8_offset 26 = .ok (.bipush 8, 2) := by decide +kernel
theorem dX8_offset_28 : decode cX8_offset 28 = .ok (.iload_n 1, 1) := by decide +kernel
theorem dX8_offset_29 : decode cX8_offset 29 = .ok (.iadd, 1) := by decide +kernel
theorem dX8_offset_30 : decode cX8_offset 30 = .ok (.iaload, 1) := by decide +kernel
theorem dX8_offset_31 : decode cX8_offset 31 = .ok (.iconst 1, 1) := by decide +kernel
theorem dX8_offset_32 : decode cX8_offset 32 = .ok (.isub, 1) := by decide +kernel
theorem dX8_offset_33 : decode cX8_offset 33 = .ok (.invokestatic 149, 3) := by decide +kernel
theorem dX8_offset_36 : decode cX8_offset 36 = .ok (.ifCond .eq 16, 3) := by decide +kernel
theorem dX8_offset_39 : decode cX8_offset 39 = .ok (.aload_n 0, 1) := by decide +kernel
theorem dX8_offset_40 : decode cX8_offset 40 = .ok (.getfield 47, 3) := by decide +kernel
theorem dX8_offset_43 : decode cX8_offset 43 = .ok (.bipush 8, 2) := by decide +kernel
theorem dX8_offset_45 : decode cX8_offset 45 = .ok (.iload_n 1, 1) := by decide +kernel
theorem dX8_offset_46 : decode cX8_offset 46 = .ok (.iadd, 1) := by decide +kernel
theorem dX8_offset_47 : decode cX8_offset 47 = .ok (.iaload, 1) := by decide +kernel
theorem dX8_offset_48 : decode cX8_offset 48 = .ok (.iload_n 2, 1) := by decide +kernel
theorem dX8_offset_49 : decode cX8_offset 49 = .ok (.if_icmp .ne 5, 3) := by decide +kernel
theorem dX8_offset_52 : decode cX8_offset 52 = .ok (.iconst 0, 1) := by decide +kernel
theorem dX8_offset_53 : decode cX8_offset 53 = .ok (.ireturn, 1) := by decide +kernel
theorem dX8_offset_54 : decode cX8_offset 54 = .ok (.aload_n 0, 1) := by decide +kernel
theorem dX8_offset_55 : decode cX8_offset 55 = .ok (.getfield 47, 3) := by decide +kernel
theorem dX8_offset_58 : decode cX8_offset 58 = .ok (.bipush 8, 2) := by decide +kernel
theorem dX8_offset_60 : decode cX8_offset 60 = .ok (.iload_n 1, 1) := by decide +kernel
theorem dX8_offset_61 : decode cX8_offset 61 = .ok (.iadd, 1) := by decide +kernel
theorem dX8_offset_62 : decode cX8_offset 62 = .ok (.iload_n 2, 1) := by decide +kernel
theorem dX8_offset_63 : decode cX8_offset 63 = .ok (.iastore, 1) := by decide +kernel
theorem dX8_offset_64 : decode cX8_offset 64 = .ok (.aload_n 0, 1) := by decide +kernel
theorem dX8_offset_65 : decode cX8_offset 65 = .ok (.getfield 146, 3) := by decide +kernel
theorem dX8_offset_68 : decode cX8_offset 68 = .ok (.ifCond .le 16, 3) := by decide +kernel
theorem dX8_offset_71 : decode cX8_offset 71 = .ok (.aload_n 0, 1) := by decide +kernel
theorem dX8_offset_72 : decode cX8_offset 72 = .ok (.getfield 53, 3) := by decide +kernel
theorem dX8_offset_75 : decode cX8_offset 75 = .ok (.iload_n 1, 1) := by decide +kernel
theorem dX8_offset_76 : decode cX8_offset 76 = .ok (.aload_n 0, 1) := by decide +kernel
theorem dX8_offset_77 : decode cX8_offset 77 = .ok (.getfield 146, 3) := by decide +kernel
theorem dX8_offset_80 : decode cX8_offset 80 = .ok (.bipush 20, 2) := by decide +kernel
theorem dX8_offset_82 : decode cX8_offset 82 = .ok (.iadd, 1) := by decide +kernel
theorem dX8_offset_83 : decode cX8_offset 83 = .ok (.iastore, 1) := by decide +kernel
theorem dX8_offset_84 : decode cX8_offset 84 = .ok (.iconst 1, 1) := by decide +kernel
theorem dX8_offset_85 : decode cX8_offset 85 = .ok (.ireturn, 1) := by decide +kernel
theorem dX8_tear_0 : decode cX8_tear 0 = .ok (.aload_n 0, 1) := by decide +kernel
theorem dX8_tear_1 : decode cX8_tear 1 = .ok (.iload_n 1, 1) := by decide +kernel
theorem dX8_tear_2 : decode cX8_tear 2 = .ok (.invokevirtual 142, 3) := by decide +kernel
theorem dX8_tear_5 : decode cX8_tear 5 = .ok (.ifCond .eq 32, 3) := by decide +kernel
theorem dX8_tear_8 : decode cX8_tear 8 = .ok (.aload_n 0, 1) := by decide +kernel
theorem dX8_tear_9 : decode cX8_tear 9 = .ok (.getfield 32, 3) := by decide +kernel
theorem dX8_tear_12 : decode cX8_tear 12 = .ok (.bipush 8, 2) := by decide +kernel
theorem dX8_tear_14 : decode cX8_tear 14 = .ok (.iload_n 1, 1) := by decide +kernel
theorem dX8_tear_15 : decode cX8_tear 15 = .ok (.iadd, 1) := by decide +kernel
theorem dX8_tear_16 : decode cX8_tear 16 = .ok (.baload, 1) := by decide +kernel
theorem dX8_tear_17 : decode cX8_tear 17 = .ok (.ifCond .eq 20, 3) := by decide +kernel
theorem dX8_tear_20 : decode cX8_tear 20 = .ok (.iload_n 2, 1) := by decide +kernel
theorem dX8_tear_21 : decode cX8_tear 21 = .ok (.iconst 0, 1) := by decide +kernel
theorem dX8_tear_22 : decode cX8_tear 22 = .ok (.aload_n 0, 1) := by decide +kernel
theorem dX8_tear_23 : decode cX8_tear 23 = .ok (.getfield 38, 3) := by decide +kernel
theorem dX8_tear_26 : decode cX8_tear 26 = .ok (.bipush 8, 2) := by decide +kernel
theorem dX8_tear_28 : decode cX8_tear 28 = .ok (.iload_n 1, 1) := by decide +kernel
theorem dX8_tear_29 : decode cX8_tear 29 = .ok (.iadd, 1) := by decide +kernel
theorem dX8_tear_30 : decode cX8_tear 30 = .ok (.iaload, 1) := by decide +kernel
theorem dX8_tear_31 : decode cX8_tear 31 = .ok (.invokestatic 149, 3) := by decide +kernel
theorem dX8_tear_34 : decode cX8_tear 34 = .ok (.ifCond .ne 5, 3) := by decide +kernel
theorem dX8_tear_37 : decode cX8_tear 37 = .ok (.iconst 0, 1) := by decide +kernel
theorem dX8_tear_38 : decode cX8_tear 38 = .ok (.ireturn, 1) := by decide +kernel
theorem dX8_tear_39 : decode cX8_tear 39 = .ok (.aload_n 0, 1) := by decide +kernel
theorem dX8_tear_40 : decode cX8_tear 40 = .ok (.getfield 50, 3) := by decide +kernel
theorem dX8_tear_43 : decode cX8_tear 43 = .ok (.iload_n 1, 1) := by decide +kernel
theorem dX8_tear_44 : decode cX8_tear 44 = .ok (.aload_n 0, 1) := by decide +kernel
theorem dX8_tear_45 : decode cX8_tear 45 = .ok (.getfield 50, 3) := by decide +kernel
theorem dX8_tear_48 : decode cX8_tear 48 = .ok (.iload_n 1, 1) := by decide +kernel
theorem dX8_tear_49 : decode cX8_tear 49 = .ok (.iaload, 1) := by decide +kernel
theorem dX8_tear_50 : decode cX8_tear 50 = .ok (.iload_n 2, 1) := by decide +kernel
theorem dX8_tear_51 : decode cX8_tear 51 = .ok (.invokestatic 212, 3) := by decide +kernel
theorem dX8_tear_54 : decode cX8_tear 54 = .ok (.iastore, 1) := by decide +kernel
theorem dX8_tear_55 : decode cX8_tear 55 = .ok (.iconst 1, 1) := by decide +kernel
theorem dX8_tear_56 : decode cX8_tear 56 = .ok (.ireturn, 1) := by decide +kernel
theorem dX8_isBegun_0 : decode cX8_isBegun 0 = .ok (.aload_n 0, 1) := by decide +kernel
theorem dX8_isBegun_1 : decode cX8_isBegun 1 = .ok (.iload_n 1, 1) := by decide +kernel
theorem dX8_isBegun_2 : decode cX8_isBegun 2 = .ok (.invokevirtual 142, 3) := by decide +kernel
theorem dX8_isBegun_5 : decode cX8_isBegun 5 = .ok (.ifCond .eq 26, 3) := by decide +kernel
theorem dX8_isBegun_8 : decode cX8_isBegun 8 = .ok (.aload_n 0, 1) := by decide +kernel
theorem dX8_isBegun_9 : decode cX8_isBegun 9 = .ok (.getfield 32, 3) := by decide +kernel
theorem dX8_isBegun_12 : decode cX8_isBegun 12 = .ok (.iload_n 1, 1) := by decide +kernel
theorem dX8_isBegun_13 : decode cX8_isBegun 13 = .ok (.baload, 1) := by decide +kernel
theorem dX8_isBegun_14 : decode cX8_isBegun 14 = .ok (.ifCond .eq 17, 3) := by decide +kernel
theorem dX8_isBegun_17 : decode cX8_isBegun 17 = .ok (.aload_n 0, 1) := by decide +kernel
theorem dX8_isBegun_18 : decode cX8_isBegun 18 = .ok (.getfield 38, 3) := by decide +kernel
theorem dX8_isBegun_21 : decode cX8_isBegun 21 = .ok (.iload_n 1, 1) := by decide +kernel
theorem dX8_isBegun_22 : decode cX8_isBegun 22 = .ok (.iaload, 1) := by decide +kernel
theorem dX8_isBegun_23 : decode cX8_isBegun 23 = .ok (.iconst 1, 1) := by decide +kernel
theorem dX8_isBegun_24 : decode cX8_isBegun 24 = .ok (.if_icmp .le 7, 3) := by decide +kernel
theorem dX8_isBegun_27 : decode cX8_isBegun 27 = .ok (.iconst 1, 1) := by decide +kernel
theorem dX8_isBegun_28 : decode cX8_isBegun 28 = .ok (.goto 4, 3) := by decide +kernel
theorem dX8_isBegun_31 : decode cX8_isBegun 31 = .ok (.iconst 0, 1) := by decide +kernel
theorem dX8_isBegun_32 : decode cX8_isBegun 32 = .ok (.ireturn, 1) := by decide +kernel
theorem dX8_stagesOf_0 : decode cX8_stagesOf 0 = .ok (.iconst 0, 1) := by decide +kernel
theorem dX8_stagesOf_1 : decode cX8_stagesOf 1 = .ok (.istore_n 3, 1) := by decide +kernel
theorem dX8_stagesOf_2 : decode cX8_stagesOf 2 = .ok (.iconst 0, 1) := by decide +kernel
theorem dX8_stagesOf_3 : decode cX8_stagesOf 3 = .ok (.istore 4, 2) := by decide +kernel
theorem dX8_stagesOf_5 : decode cX8_stagesOf 5 = .ok (.iload 4, 2) := by decide +kernel
theorem dX8_stagesOf_7 : decode cX8_stagesOf 7 = .ok (.aload_n 0, 1) := by decide +kernel
theorem dX8_stagesOf_8 : decode cX8_stagesOf 8 = .ok (.getfield 38, 3) := by decide +kernel
theorem dX8_stagesOf_11 : decode cX8_stagesOf 11 = .ok (.iload_n 1, 1) := by decide +kernel
theorem dX8_stagesOf_12 : decode cX8_stagesOf 12 = .ok (.iaload, 1) := by decide +kernel
theorem dX8_stagesOf_13 : decode cX8_stagesOf 13 = .ok (.if_icmp .ge 30, 3) := by decide +kernel
theorem dX8_stagesOf_16 : decode cX8_stagesOf 16 = .ok (.iload_n 3, 1) := by decide +kernel
theorem dX8_stagesOf_17 : decode cX8_stagesOf 17 = .ok (.aload_n 0, 1) := by decide +kernel
theorem dX8_stagesOf_18 : decode cX8_stagesOf 18 = .ok (.getfield 41, 3) := by decide +kernel
theorem dX8_stagesOf_21 : decode cX8_stagesOf 21 = .ok (.iconst 4, 1) := by decide +kernel
theorem dX8_stagesOf_22 : decode cX8_stagesOf 22 = .ok (.iload_n 1, 1) := by decide +kernel
theorem dX8_stagesOf_23 : decode cX8_stagesOf 23 = .ok (.imul, 1) := by decide +kernel
theorem dX8_stagesOf_24 : decode cX8_stagesOf 24 = .ok (.iload 4, 2) := by decide +kernel
theorem dX8_stagesOf_26 : decode cX8_stagesOf 26 = .ok (.iadd, 1) := by decide +kernel
theorem dX8_stagesOf_27 : decode cX8_stagesOf 27 = .ok (.iaload, 1) := by decide +kernel
theorem dX8_stagesOf_28 : decode cX8_stagesOf 28 = .ok (.iload_n 2, 1) := by decide +kernel
theorem dX8_stagesOf_29 : decode cX8_stagesOf 29 = .ok (.ishr, 1) := by decide +kernel
theorem dX8_stagesOf_30 : decode cX8_stagesOf 30 = .ok (.iconst 1, 1) := by decide +kernel
theorem dX8_stagesOf_31 : decode cX8_stagesOf 31 = .ok (.iand, 1) := by decide +kernel
theorem dX8_stagesOf_32 : decode cX8_stagesOf 32 = .ok (.iload 4, 2) := by decide +kernel
theorem dX8_stagesOf_34 : decode cX8_stagesOf 34 = .ok (.ishl, 1) := by decide +kernel
theorem dX8_stagesOf_35 : decode cX8_stagesOf 35 = .ok (.ior, 1) := by decide +kernel
theorem dX8_stagesOf_36 : decode cX8_stagesOf 36 = .ok (.istore_n 3, 1) := by decide +kernel
theorem dX8_stagesOf_37 : decode cX8_stagesOf 37 = .ok (.iinc 4 1, 3) := by decide +kernel
theorem dX8_stagesOf_40 : decode cX8_stagesOf 40 = .ok (.goto (-35), 3) := by decide +kernel
theorem dX8_stagesOf_43 : decode cX8_stagesOf 43 = .ok (.iload_n 3, 1) := by decide +kernel
theorem dX8_stagesOf_44 : decode cX8_stagesOf 44 = .ok (.ireturn, 1) := by decide +kernel
theorem dX8_leastSum_0 : decode cX8_leastSum 0 = .ok (.iconst 0, 1) := by decide +kernel
theorem dX8_leastSum_1 : decode cX8_leastSum 1 = .ok (.istore_n 3, 1) := by decide +kernel
theorem dX8_leastSum_2 : decode cX8_leastSum 2 = .ok (.iload_n 3, 1) := by decide +kernel
theorem dX8_leastSum_3 : decode cX8_leastSum 3 = .ok (.bipush 16, 2) := by decide +kernel
theorem dX8_leastSum_5 : decode cX8_leastSum 5 = .ok (.if_icmp .ge 16, 3) := by decide +kernel
theorem dX8_leastSum_8 : decode cX8_leastSum 8 = .ok (.aload_n 0, 1) := by decide +kernel
theorem dX8_leastSum_9 : decode cX8_leastSum 9 = .ok (.getfield 75, 3) := by decide +kernel
theorem dX8_leastSum_12 : decode cX8_leastSum 12 = .ok (.iload_n 3, 1) := by decide +kernel
theorem dX8_leastSum_13 : decode cX8_leastSum 13 = .ok (.iconst 0, 1) := by decide +kernel
theorem dX8_leastSum_14 : decode cX8_leastSum 14 = .ok (.iastore, 1) := by decide +kernel
theorem dX8_leastSum_15 : decode cX8_leastSum 15 = .ok (.iinc 3 1, 3) := by decide +kernel
theorem dX8_leastSum_18 : decode cX8_leastSum 18 = .ok (.goto (-16), 3) := by decide +kernel
theorem dX8_leastSum_21 : decode cX8_leastSum 21 = .ok (.iconst 0, 1) := by decide +kernel
theorem dX8_leastSum_22 : decode cX8_leastSum 22 = .ok (.istore_n 3, 1) := by decide +kernel
theorem dX8_leastSum_23 : decode cX8_leastSum 23 = .ok (.iload_n 3, 1) := by decide +kernel
theorem dX8_leastSum_24 : decode cX8_leastSum 24 = .ok (.aload_n 0, 1) := by decide +kernel
theorem dX8_leastSum_25 : decode cX8_leastSum 25 = .ok (.getfield 7, 3) := by decide +kernel
theorem dX8_leastSum_28 : decode cX8_leastSum 28 = .ok (.iload_n 1, 1) := by decide +kernel
theorem dX8_leastSum_29 : decode cX8_leastSum 29 = .ok (.iaload, 1) := by decide +kernel
theorem dX8_leastSum_30 : decode cX8_leastSum 30 = .ok (.if_icmp .ge 73, 3) := by decide +kernel
theorem dX8_leastSum_33 : decode cX8_leastSum 33 = .ok (.aload_n 0, 1) := by decide +kernel
theorem dX8_leastSum_34 : decode cX8_leastSum 34 = .ok (.iload_n 1, 1) := by decide +kernel
theorem dX8_leastSum_35 : decode cX8_leastSum 35 = .ok (.iload_n 3, 1) := by decide +kernel
theorem dX8_leastSum_36 : decode cX8_leastSum 36 = .ok (.invokevirtual 215, 3) := by decide +kernel
theorem dX8_leastSum_39 : decode cX8_leastSum 39 = .ok (.istore 4, 2) := by decide +kernel
theorem dX8_leastSum_41 : decode cX8_leastSum 41 = .ok (.aload_n 0, 1) := by decide +kernel
theorem dX8_leastSum_42 : decode cX8_leastSum 42 = .ok (.getfield 75, 3) := by decide +kernel
theorem dX8_leastSum_45 : decode cX8_leastSum 45 = .ok (.iload 4, 2) := by decide +kernel
theorem dX8_leastSum_47 : decode cX8_leastSum 47 = .ok (.aload_n 0, 1) := by decide +kernel
theorem dX8_leastSum_48 : decode cX8_leastSum 48 = .ok (.getfield 75, 3) := by decide +kernel
theorem dX8_leastSum_51 : decode cX8_leastSum 51 = .ok (.iload 4, 2) := by decide +kernel
theorem dX8_leastSum_53 : decode cX8_leastSum 53 = .ok (.iaload, 1) := by decide +kernel
theorem dX8_leastSum_54 : decode cX8_leastSum 54 = .ok (.aload_n 0, 1) := by decide +kernel
theorem dX8_leastSum_55 : decode cX8_leastSum 55 = .ok (.getfield 16, 3) := by decide +kernel
theorem dX8_leastSum_58 : decode cX8_leastSum 58 = .ok (.bipush 8, 2) := by decide +kernel
theorem dX8_leastSum_60 : decode cX8_leastSum 60 = .ok (.iload_n 1, 1) := by decide +kernel
theorem dX8_leastSum_61 : decode cX8_leastSum 61 = .ok (.imul, 1) := by decide +kernel
theorem dX8_leastSum_62 : decode cX8_leastSum 62 = .ok (.iload_n 3, 1) := by decide +kernel
theorem dX8_leastSum_63 : decode cX8_leastSum 63 = .ok (.iadd, 1) := by decide +kernel
theorem dX8_leastSum_64 : decode cX8_leastSum 64 = .ok (.iaload, 1) := by decide +kernel
theorem dX8_leastSum_65 : decode cX8_leastSum 65 = .ok (.iload_n 2, 1) := by decide +kernel
theorem dX8_leastSum_66 : decode cX8_leastSum 66 = .ok (.imul, 1) := by decide +kernel
theorem dX8_leastSum_67 : decode cX8_leastSum 67 = .ok (.aload_n 0, 1) := by decide +kernel
theorem dX8_leastSum_68 : decode cX8_leastSum 68 = .ok (.getfield 19, 3) := by decide +kernel
theorem dX8_leastSum_71 : decode cX8_leastSum 71 = .ok (.bipush 8, 2) := by decide +kernel
theorem dX8_leastSum_73 : decode cX8_leastSum 73 = .ok (.iload_n 1, 1) := by decide +kernel
theorem dX8_leastSum_74 : decode cX8_leastSum 74 = .ok (.imul, 1) := by decide +kernel
theorem dX8_leastSum_75 : decode cX8_leastSum 75 = .ok (.iload_n 3, 1) := by decide +kernel
theorem dX8_leastSum_76 : decode cX8_leastSum 76 = .ok (.iadd, 1) := by decide +kernel
theorem dX8_leastSum_77 : decode cX8_leastSum 77 = .ok (.iaload, 1) := by decide +kernel
theorem dX8_leastSum_78 : decode cX8_leastSum 78 = .ok (.iadd, 1) := by decide +kernel
theorem dX8_leastSum_79 : decode cX8_leastSum 79 = .ok (.iconst 1, 1) := by decide +kernel
theorem dX8_leastSum_80 : decode cX8_leastSum 80 = .ok (.isub, 1) := by decide +kernel
theorem dX8_leastSum_81 : decode cX8_leastSum 81 = .ok (.aload_n 0, 1) := by decide +kernel
theorem dX8_leastSum_82 : decode cX8_leastSum 82 = .ok (.getfield 19, 3) := by decide +kernel
theorem dX8_leastSum_85 : decode cX8_leastSum 85 = .ok (.bipush 8, 2) := by decide +kernel
theorem dX8_leastSum_87 : decode cX8_leastSum 87 = .ok (.iload_n 1, 1) := by decide +kernel
theorem dX8_leastSum_88 : decode cX8_leastSum 88 = .ok (.imul, 1) := by decide +kernel
theorem dX8_leastSum_89 : decode cX8_leastSum 89 = .ok (.iload_n 3, 1) := by decide +kernel
theorem dX8_leastSum_90 : decode cX8_leastSum 90 = .ok (.iadd, 1) := by decide +kernel
theorem dX8_leastSum_91 : decode cX8_leastSum 91 = .ok (.iaload, 1) := by decide +kernel
theorem dX8_leastSum_92 : decode cX8_leastSum 92 = .ok (.idiv, 1) := by decide +kernel
theorem dX8_leastSum_93 : decode cX8_leastSum 93 = .ok (.invokestatic 156, 3) := by decide +kernel
theorem dX8_leastSum_96 : decode cX8_leastSum 96 = .ok (.iastore, 1) := by decide +kernel
theorem dX8_leastSum_97 : decode cX8_leastSum 97 = .ok (.iinc 3 1, 3) := by decide +kernel
theorem dX8_leastSum_100 : decode cX8_leastSum 100 = .ok (.goto (-77), 3) := by decide +kernel
theorem dX8_leastSum_103 : decode cX8_leastSum 103 = .ok (.aload_n 0, 1) := by decide +kernel
theorem dX8_leastSum_104 : decode cX8_leastSum 104 = .ok (.getfield 75, 3) := by decide +kernel
theorem dX8_leastSum_107 : decode cX8_leastSum 107 = .ok (.iconst 0, 1) := by decide +kernel
theorem dX8_leastSum_108 : decode cX8_leastSum 108 = .ok (.iaload, 1) := by decide +kernel
theorem dX8_leastSum_109 : decode cX8_leastSum 109 = .ok (.ifCond .le 7, 3) := by decide +kernel
theorem dX8_leastSum_112 : decode cX8_leastSum 112 = .ok (.sipush 1000, 3) := by decide +kernel
theorem dX8_leastSum_115 : decode cX8_leastSum 115 = .ok (.ireturn, 1) := by decide +kernel
theorem dX8_leastSum_116 : decode cX8_leastSum 116 = .ok (.iconst 0, 1) := by decide +kernel
theorem dX8_leastSum_117 : decode cX8_leastSum 117 = .ok (.istore_n 3, 1) := by decide +kernel
theorem dX8_leastSum_118 : decode cX8_leastSum 118 = .ok (.iload_n 3, 1) := by decide +kernel
theorem dX8_leastSum_119 : decode cX8_leastSum 119 = .ok (.aload_n 0, 1) := by decide +kernel
theorem dX8_leastSum_120 : decode cX8_leastSum 120 = .ok (.getfield 38, 3) := by decide +kernel
theorem dX8_leastSum_123 : decode cX8_leastSum 123 = .ok (.iload_n 1, 1) := by decide +kernel
theorem dX8_leastSum_124 : decode cX8_leastSum 124 = .ok (.iaload, 1) := by decide +kernel
theorem dX8_leastSum_125 : decode cX8_leastSum 125 = .ok (.if_icmp .ge 29, 3) := by decide +kernel
theorem dX8_leastSum_128 : decode cX8_leastSum 128 = .ok (.aload_n 0, 1) := by decide +kernel
theorem dX8_leastSum_129 : decode cX8_leastSum 129 = .ok (.getfield 75, 3) := by decide +kernel
theorem dX8_leastSum_132 : decode cX8_leastSum 132 = .ok (.iconst 1, 1) := by decide +kernel
theorem dX8_leastSum_133 : decode cX8_leastSum 133 = .ok (.iload_n 3, 1) := by decide +kernel
theorem dX8_leastSum_134 : decode cX8_leastSum 134 = .ok (.ishl, 1) := by decide +kernel
theorem dX8_leastSum_135 : decode cX8_leastSum 135 = .ok (.iconst 1, 1) := by decide +kernel
theorem dX8_leastSum_136 : decode cX8_leastSum 136 = .ok (.aload_n 0, 1) := by decide +kernel
theorem dX8_leastSum_137 : decode cX8_leastSum 137 = .ok (.getfield 75, 3) := by decide +kernel
theorem dX8_leastSum_140 : decode cX8_leastSum 140 = .ok (.iconst 1, 1) := by decide +kernel
theorem dX8_leastSum_141 : decode cX8_leastSum 141 = .ok (.iload_n 3, 1) := by decide +kernel
theorem dX8_leastSum_142 : decode cX8_leastSum 142 = .ok (.ishl, 1) := by decide +kernel
theorem dX8_leastSum_143 : decode cX8_leastSum 143 = .ok (.iaload, 1) := by decide +kernel
theorem dX8_leastSum_144 : decode cX8_leastSum 144 = .ok (.invokestatic 156, 3) := by decide +kernel
theorem dX8_leastSum_147 : decode cX8_leastSum 147 = .ok (.iastore, 1) := by decide +kernel
theorem dX8_leastSum_148 : decode cX8_leastSum 148 = .ok (.iinc 3 1, 3) := by decide +kernel
theorem dX8_leastSum_151 : decode cX8_leastSum 151 = .ok (.goto (-33), 3) := by decide +kernel
theorem dX8_leastSum_154 : decode cX8_leastSum 154 = .ok (.sipush 1000, 3) := by decide +kernel
theorem dX8_leastSum_157 : decode cX8_leastSum 157 = .ok (.istore_n 3, 1) := by decide +kernel
theorem dX8_leastSum_158 : decode cX8_leastSum 158 = .ok (.aload_n 0, 1) := by decide +kernel
theorem dX8_leastSum_159 : decode cX8_leastSum 159 = .ok (.getfield 75, 3) := by decide +kernel
theorem dX8_leastSum_162 : decode cX8_leastSum 162 = .ok (.iconst 1, 1) := by decide +kernel
theorem dX8_leastSum_163 : decode cX8_leastSum 163 = .ok (.iaload, 1) := by decide +kernel
theorem dX8_leastSum_164 : decode cX8_leastSum 164 = .ok (.istore 4, 2) := by decide +kernel
theorem dX8_leastSum_166 : decode cX8_leastSum 166 = .ok (.iload 4, 2) := by decide +kernel
theorem dX8_leastSum_168 : decode cX8_leastSum 168 = .ok (.bipush 90, 2) := by decide +kernel
theorem dX8_leastSum_170 : decode cX8_leastSum 170 = .ok (.if_icmp .gt 67, 3) := by decide +kernel
theorem dX8_leastSum_173 : decode cX8_leastSum 173 = .ok (.aload_n 0, 1) := by decide +kernel
theorem dX8_leastSum_174 : decode cX8_leastSum 174 = .ok (.getfield 75, 3) := by decide +kernel
theorem dX8_leastSum_177 : decode cX8_leastSum 177 = .ok (.iconst 2, 1) := by decide +kernel
theorem dX8_leastSum_178 : decode cX8_leastSum 178 = .ok (.iaload, 1) := by decide +kernel
theorem dX8_leastSum_179 : decode cX8_leastSum 179 = .ok (.istore 5, 2) := by decide +kernel
theorem dX8_leastSum_181 : decode cX8_leastSum 181 = .ok (.iload 5, 2) := by decide +kernel
theorem dX8_leastSum_183 : decode cX8_leastSum 183 = .ok (.bipush 90, 2) := by decide +kernel
theorem dX8_leastSum_185 : decode cX8_leastSum 185 = .ok (.if_icmp .gt 46, 3) := by decide +kernel
theorem dX8_leastSum_188 : decode cX8_leastSum 188 = .ok (.iload 4, 2) := by decide +kernel
theorem dX8_leastSum_190 : decode cX8_leastSum 190 = .ok (.iload 5, 2) := by decide +kernel
theorem dX8_leastSum_192 : decode cX8_leastSum 192 = .ok (.iadd, 1) := by decide +kernel
theorem dX8_leastSum_193 : decode cX8_leastSum 193 = .ok (.aload_n 0, 1) := by decide +kernel
theorem dX8_leastSum_194 : decode cX8_leastSum 194 = .ok (.getfield 75, 3) := by decide +kernel
theorem dX8_leastSum_197 : decode cX8_leastSum 197 = .ok (.iconst 3, 1) := by decide +kernel
theorem dX8_leastSum_198 : decode cX8_leastSum 198 = .ok (.iaload, 1) := by decide +kernel
theorem dX8_leastSum_199 : decode cX8_leastSum 199 = .ok (.if_icmp .ge 6, 3) := by decide +kernel
theorem dX8_leastSum_202 : decode cX8_leastSum 202 = .ok (.goto 23, 3) := by decide +kernel
theorem dX8_leastSum_205 : decode cX8_leastSum 205 = .ok (.iload_n 3, 1) := by decide +kernel
theorem dX8_leastSum_206 : decode cX8_leastSum 206 = .ok (.iload 4, 2) := by decide +kernel
theorem dX8_leastSum_208 : decode cX8_leastSum 208 = .ok (.iload 5, 2) := by decide +kernel
theorem dX8_leastSum_210 : decode cX8_leastSum 210 = .ok (.iadd, 1) := by decide +kernel
theorem dX8_leastSum_211 : decode cX8_leastSum 211 = .ok (.aload_n 0, 1) := by decide +kernel
theorem dX8_leastSum_212 : decode cX8_leastSum 212 = .ok (.iload_n 1, 1) := by decide +kernel
theorem dX8_leastSum_213 : decode cX8_leastSum 213 = .ok (.iload 4, 2) := by decide +kernel
theorem dX8_leastSum_215 : decode cX8_leastSum 215 = .ok (.iload 5, 2) := by decide +kernel
theorem dX8_leastSum_217 : decode cX8_leastSum 217 = .ok (.invokevirtual 218, 3) := by decide +kernel
theorem dX8_leastSum_220 : decode cX8_leastSum 220 = .ok (.iadd, 1) := by decide +kernel
theorem dX8_leastSum_221 : decode cX8_leastSum 221 = .ok (.invokestatic 212, 3) := by decide +kernel
theorem dX8_leastSum_224 : decode cX8_leastSum 224 = .ok (.istore_n 3, 1) := by decide +kernel
theorem dX8_leastSum_225 : decode cX8_leastSum 225 = .ok (.iinc 5 1, 3) := by decide +kernel
theorem dX8_leastSum_228 : decode cX8_leastSum 228 = .ok (.goto (-47), 3) := by decide +kernel
theorem dX8_leastSum_231 : decode cX8_leastSum 231 = .ok (.iinc 4 1, 3) := by decide +kernel
theorem dX8_leastSum_234 : decode cX8_leastSum 234 = .ok (.goto (-68), 3) := by decide +kernel
theorem dX8_leastSum_237 : decode cX8_leastSum 237 = .ok (.iload_n 3, 1) := by decide +kernel
theorem dX8_leastSum_238 : decode cX8_leastSum 238 = .ok (.ireturn, 1) := by decide +kernel
theorem dX8_others_0 : decode cX8_others 0 = .ok (.aload_n 0, 1) := by decide +kernel
theorem dX8_others_1 : decode cX8_others 1 = .ok (.getfield 38, 3) := by decide +kernel
theorem dX8_others_4 : decode cX8_others 4 = .ok (.iload_n 1, 1) := by decide +kernel
theorem dX8_others_5 : decode cX8_others 5 = .ok (.iaload, 1) := by decide +kernel
theorem dX8_others_6 : decode cX8_others 6 = .ok (.iconst 2, 1) := by decide +kernel
theorem dX8_others_7 : decode cX8_others 7 = .ok (.if_icmp .ne 5, 3) := by decide +kernel
theorem dX8_others_10 : decode cX8_others 10 = .ok (.iconst 0, 1) := by decide +kernel
theorem dX8_others_11 : decode cX8_others 11 = .ok (.ireturn, 1) := by decide +kernel
theorem dX8_others_12 : decode cX8_others 12 = .ok (.iconst 1, 1) := by decide +kernel
theorem dX8_others_13 : decode cX8_others 13 = .ok (.istore 4, 2) := by decide +kernel
theorem dX8_others_15 : decode cX8_others 15 = .ok (.aload_n 0, 1) := by decide +kernel
theorem dX8_others_16 : decode cX8_others 16 = .ok (.getfield 38, 3) := by decide +kernel
theorem dX8_others_19 : decode cX8_others 19 = .ok (.iload_n 1, 1) := by decide +kernel
theorem dX8_others_20 : decode cX8_others 20 = .ok (.iaload, 1) := by decide +kernel
theorem dX8_others_21 : decode cX8_others 21 = .ok (.iconst 3, 1) := by decide +kernel
theorem dX8_others_22 : decode cX8_others 22 = .ok (.if_icmp .le 7, 3) := by decide +kernel
theorem dX8_others_25 : decode cX8_others 25 = .ok (.iconst 1, 1) := by decide +kernel
theorem dX8_others_26 : decode cX8_others 26 = .ok (.goto 4, 3) := by decide +kernel
theorem dX8_others_29 : decode cX8_others 29 = .ok (.iconst 0, 1) := by decide +kernel
theorem dX8_others_30 : decode cX8_others 30 = .ok (.istore 5, 2) := by decide +kernel
theorem dX8_others_32 : decode cX8_others 32 = .ok (.iconst 0, 1) := by decide +kernel
theorem dX8_others_33 : decode cX8_others 33 = .ok (.istore 6, 2) := by decide +kernel
theorem dX8_others_35 : decode cX8_others 35 = .ok (.iconst 4, 1) := by decide +kernel
theorem dX8_others_36 : decode cX8_others 36 = .ok (.istore 7, 2) := by decide +kernel
theorem dX8_others_38 : decode cX8_others 38 = .ok (.iload 7, 2) := by decide +kernel
theorem dX8_others_40 : decode cX8_others 40 = .ok (.bipush 16, 2) := by decide +kernel
theorem dX8_others_42 : decode cX8_others 42 = .ok (.if_icmp .ge 95, 3) := by decide +kernel
theorem dX8_others_45 : decode cX8_others 45 = .ok (.aload_n 0, 1) := by decide +kernel
theorem dX8_others_46 : decode cX8_others 46 = .ok (.getfield 75, 3) := by decide +kernel
theorem dX8_others_49 : decode cX8_others 49 = .ok (.iload 7, 2) := by decide +kernel
theorem dX8_others_51 : decode cX8_others 51 = .ok (.iaload, 1) := by decide +kernel
theorem dX8_others_52 : decode cX8_others 52 = .ok (.iload 7, 2) := by decide +kernel
theorem dX8_others_54 : decode cX8_others 54 = .ok (.iconst 1, 1) := by decide +kernel
theorem dX8_others_55 : decode cX8_others 55 = .ok (.iand, 1) := by decide +kernel
theorem dX8_others_56 : decode cX8_others 56 = .ok (.iconst 1, 1) := by decide +kernel
theorem dX8_others_57 : decode cX8_others 57 = .ok (.if_icmp .ne 7, 3) := by decide +kernel
theorem dX8_others_60 : decode cX8_others 60 = .ok (.iload_n 2, 1) := by decide +kernel
theorem dX8_others_61 : decode cX8_others 61 = .ok (.goto 4, 3) := by decide +kernel
theorem dX8_others_64 : decode cX8_others 64 = .ok (.iconst 0, 1) := by decide +kernel
theorem dX8_others_65 : decode cX8_others 65 = .ok (.isub, 1) := by decide +kernel
theorem dX8_others_66 : decode cX8_others 66 = .ok (.iload 7, 2) := by decide +kernel
theorem dX8_others_68 : decode cX8_others 68 = .ok (.iconst 2, 1) := by decide +kernel
theorem dX8_others_69 : decode cX8_others 69 = .ok (.iand, 1) := by decide +kernel
theorem dX8_others_70 : decode cX8_others 70 = .ok (.iconst 2, 1) := by decide +kernel
theorem dX8_others_71 : decode cX8_others 71 = .ok (.if_icmp .ne 7, 3) := by decide +kernel
theorem dX8_others_74 : decode cX8_others 74 = .ok (.iload_n 3, 1) := by decide +kernel
theorem dX8_others_75 : decode cX8_others 75 = .ok (.goto 4, 3) := by decide +kernel
theorem dX8_others_78 : decode cX8_others 78 = .ok (.iconst 0, 1) := by decide +kernel
theorem dX8_others_79 : decode cX8_others 79 = .ok (.isub, 1) := by decide +kernel
theorem dX8_others_80 : decode cX8_others 80 = .ok (.istore 8, 2) := by decide +kernel
theorem dX8_others_82 : decode cX8_others 82 = .ok (.iload 7, 2) := by decide +kernel
theorem dX8_others_84 : decode cX8_others 84 = .ok (.iconst 2, 1) := by decide +kernel
theorem dX8_others_85 : decode cX8_others 85 = .ok (.ishr, 1) := by decide +kernel
theorem dX8_others_86 : decode cX8_others 86 = .ok (.iconst 1, 1) := by decide +kernel
theorem dX8_others_87 : decode cX8_others 87 = .ok (.if_icmp .ne 15, 3) := by decide +kernel
theorem dX8_others_90 : decode cX8_others 90 = .ok (.iload 4, 2) := by decide +kernel
theorem dX8_others_92 : decode cX8_others 92 = .ok (.iload 8, 2) := by decide +kernel
theorem dX8_others_94 : decode cX8_others 94 = .ok (.invokestatic 156, 3) := by decide +kernel
theorem dX8_others_97 : decode cX8_others 97 = .ok (.istore 4, 2) := by decide +kernel
theorem dX8_others_99 : decode cX8_others 99 = .ok (.goto 32, 3) := by decide +kernel
theorem dX8_others_102 : decode cX8_others 102 = .ok (.iload 7, 2) := by decide +kernel
theorem dX8_others_104 : decode cX8_others 104 = .ok (.iconst 2, 1) := by decide +kernel
theorem dX8_others_105 : decode cX8_others 105 = .ok (.ishr, 1) := by decide +kernel
theorem dX8_others_106 : decode cX8_others 106 = .ok (.iconst 2, 1) := by decide +kernel
theorem dX8_others_107 : decode cX8_others 107 = .ok (.if_icmp .ne 15, 3) := by decide +kernel
theorem dX8_others_110 : decode cX8_others 110 = .ok (.iload 5, 2) := by decide +kernel
theorem dX8_others_112 : decode cX8_others 112 = .ok (.iload 8, 2) := by decide +kernel
theorem dX8_others_114 : decode cX8_others 114 = .ok (.invokestatic 156, 3) := by decide +kernel
theorem dX8_others_117 : decode cX8_others 117 = .ok (.istore 5, 2) := by decide +kernel
theorem dX8_others_119 : decode cX8_others 119 = .ok (.goto 12, 3) := by decide +kernel
theorem dX8_others_122 : decode cX8_others 122 = .ok (.iload 6, 2) := by decide +kernel
theorem dX8_others_124 : decode cX8_others 124 = .ok (.iload 8, 2) := by decide +kernel
theorem dX8_others_126 : decode cX8_others 126 = .ok (.invokestatic 156, 3) := by decide +kernel
theorem dX8_others_129 : decode cX8_others 129 = .ok (.istore 6, 2) := by decide +kernel
theorem dX8_others_131 : decode cX8_others 131 = .ok (.iinc 7 1, 3) := by decide +kernel
theorem dX8_others_134 : decode cX8_others 134 = .ok (.goto (-96), 3) := by decide +kernel
theorem dX8_others_137 : decode cX8_others 137 = .ok (.iload 4, 2) := by decide +kernel
theorem dX8_others_139 : decode cX8_others 139 = .ok (.iload 5, 2) := by decide +kernel
theorem dX8_others_141 : decode cX8_others 141 = .ok (.iadd, 1) := by decide +kernel
theorem dX8_others_142 : decode cX8_others 142 = .ok (.iload 6, 2) := by decide +kernel
theorem dX8_others_144 : decode cX8_others 144 = .ok (.invokestatic 156, 3) := by decide +kernel
theorem dX8_others_147 : decode cX8_others 147 = .ok (.ireturn, 1) := by decide +kernel
theorem dX8_share_0 : decode cX8_share 0 = .ok (.aload_n 0, 1) := by decide +kernel
theorem dX8_share_1 : decode cX8_share 1 = .ok (.iload_n 1, 1) := by decide +kernel
theorem dX8_share_2 : decode cX8_share 2 = .ok (.invokevirtual 221, 3) := by decide +kernel
theorem dX8_share_5 : decode cX8_share 5 = .ok (.ifCond .ne 5, 3) := by decide +kernel
theorem dX8_share_8 : decode cX8_share 8 = .ok (.iconst (-1), 1) := by decide +kernel
theorem dX8_share_9 : decode cX8_share 9 = .ok (.ireturn, 1) := by decide +kernel
theorem dX8_share_10 : decode cX8_share 10 = .ok (.aload_n 0, 1) := by decide +kernel
theorem dX8_share_11 : decode cX8_share 11 = .ok (.iload_n 1, 1) := by decide +kernel
theorem dX8_share_12 : decode cX8_share 12 = .ok (.invokevirtual 188, 3) := by decide +kernel
theorem dX8_share_15 : decode cX8_share 15 = .ok (.istore_n 2, 1) := by decide +kernel
theorem dX8_share_16 : decode cX8_share 16 = .ok (.bipush 20, 2) := by decide +kernel
theorem dX8_share_18 : decode cX8_share 18 = .ok (.istore_n 3, 1) := by decide +kernel
theorem dX8_share_19 : decode cX8_share 19 = .ok (.iload_n 3, 1) := by decide +kernel
theorem dX8_share_20 : decode cX8_share 20 = .ok (.bipush 90, 2) := by decide +kernel
theorem dX8_share_22 : decode cX8_share 22 = .ok (.if_icmp .gt 23, 3) := by decide +kernel
theorem dX8_share_25 : decode cX8_share 25 = .ok (.aload_n 0, 1) := by decide +kernel
theorem dX8_share_26 : decode cX8_share 26 = .ok (.iload_n 1, 1) := by decide +kernel
theorem dX8_share_27 : decode cX8_share 27 = .ok (.iload_n 3, 1) := by decide +kernel
theorem dX8_share_28 : decode cX8_share 28 = .ok (.invokevirtual 224, 3) := by decide +kernel
theorem dX8_share_31 : decode cX8_share 31 = .ok (.iload_n 2, 1) := by decide +kernel
theorem dX8_share_32 : decode cX8_share 32 = .ok (.iadd, 1) := by decide +kernel
theorem dX8_share_33 : decode cX8_share 33 = .ok (.iload_n 3, 1) := by decide +kernel
theorem dX8_share_34 : decode cX8_share 34 = .ok (.if_icmp .gt 5, 3) := by decide +kernel
theorem dX8_share_37 : decode cX8_share 37 = .ok (.iload_n 3, 1) := by decide +kernel
theorem dX8_share_38 : decode cX8_share 38 = .ok (.ireturn, 1) := by decide +kernel
theorem dX8_share_39 : decode cX8_share 39 = .ok (.iinc 3 1, 3) := by decide +kernel
theorem dX8_share_42 : decode cX8_share 42 = .ok (.goto (-23), 3) := by decide +kernel
theorem dX8_share_45 : decode cX8_share 45 = .ok (.iconst (-1), 1) := by decide +kernel
theorem dX8_share_46 : decode cX8_share 46 = .ok (.ireturn, 1) := by decide +kernel
theorem dX8_fit_0 : decode cX8_fit 0 = .ok (.aload_n 0, 1) := by decide +kernel
theorem dX8_fit_1 : decode cX8_fit 1 = .ok (.iload_n 1, 1) := by decide +kernel
theorem dX8_fit_2 : decode cX8_fit 2 = .ok (.invokevirtual 221, 3) := by decide +kernel
theorem dX8_fit_5 : decode cX8_fit 5 = .ok (.ifCond .eq 14, 3) := by decide +kernel
theorem dX8_fit_8 : decode cX8_fit 8 = .ok (.iload_n 2, 1) := by decide +kernel
theorem dX8_fit_9 : decode cX8_fit 9 = .ok (.bipush 20, 2) := by decide +kernel
theorem dX8_fit_11 : decode cX8_fit 11 = .ok (.bipush 90, 2) := by decide +kernel
theorem dX8_fit_13 : decode cX8_fit 13 = .ok (.invokestatic 149, 3) := by decide +kernel
theorem dX8_fit_16 : decode cX8_fit 16 = .ok (.ifCond .ne 5, 3) := by decide +kernel
theorem dX8_fit_19 : decode cX8_fit 19 = .ok (.iconst 0, 1) := by decide +kernel
theorem dX8_fit_20 : decode cX8_fit 20 = .ok (.ireturn, 1) := by decide +kernel
theorem dX8_fit_21 : decode cX8_fit 21 = .ok (.iload_n 1, 1) := by decide +kernel
theorem dX8_fit_22 : decode cX8_fit 22 = .ok (.istore_n 3, 1) := by decide +kernel
theorem dX8_fit_23 : decode cX8_fit 23 = .ok (.aload_n 0, 1) := by decide +kernel
theorem dX8_fit_24 : decode cX8_fit 24 = .ok (.getfield 38, 3) := by decide +kernel
theorem dX8_fit_27 : decode cX8_fit 27 = .ok (.iload_n 3, 1) := by decide +kernel
theorem dX8_fit_28 : decode cX8_fit 28 = .ok (.iaload, 1) := by decide +kernel
theorem dX8_fit_29 : decode cX8_fit 29 = .ok (.istore 4, 2) := by decide +kernel
theorem dX8_fit_31 : decode cX8_fit 31 = .ok (.iload_n 2, 1) := by decide +kernel
theorem dX8_fit_32 : decode cX8_fit 32 = .ok (.aload_n 0, 1) := by decide +kernel
theorem dX8_fit_33 : decode cX8_fit 33 = .ok (.iload_n 3, 1) := by decide +kernel
theorem dX8_fit_34 : decode cX8_fit 34 = .ok (.invokevirtual 188, 3) := by decide +kernel
theorem dX8_fit_37 : decode cX8_fit 37 = .ok (.isub, 1) := by decide +kernel
theorem dX8_fit_38 : decode cX8_fit 38 = .ok (.istore 5, 2) := by decide +kernel
theorem dX8_fit_40 : decode cX8_fit 40 = .ok (.iload 5, 2) := by decide +kernel
theorem dX8_fit_42 : decode cX8_fit 42 = .ok (.iload 4, 2) := by decide +kernel
theorem dX8_fit_44 : decode cX8_fit 44 = .ok (.if_icmp .ge 5, 3) := by decide +kernel
theorem dX8_fit_47 : decode cX8_fit 47 = .ok (.iconst 0, 1) := by decide +kernel
theorem dX8_fit_48 : decode cX8_fit 48 = .ok (.ireturn, 1) := by decide +kernel
theorem dX8_fit_49 : decode cX8_fit 49 = .ok (.aload_n 0, 1) := by decide +kernel
theorem dX8_fit_50 : decode cX8_fit 50 = .ok (.lconst 0, 1) := by decide +kernel
theorem dX8_fit_51 : decode cX8_fit 51 = .ok (.putfield 227, 3) := by decide +kernel
theorem dX8_fit_54 : decode cX8_fit 54 = .ok (.iconst 1, 1) := by decide +kernel
theorem dX8_fit_55 : decode cX8_fit 55 = .ok (.istore 6, 2) := by decide +kernel
theorem dX8_fit_57 : decode cX8_fit 57 = .ok (.iload 6, 2) := by decide +kernel
theorem dX8_fit_59 : decode cX8_fit 59 = .ok (.iload 5, 2) := by decide +kernel
theorem dX8_fit_61 : decode cX8_fit 61 = .ok (.iload 4, 2) := by decide +kernel
theorem dX8_fit_63 : decode cX8_fit 63 = .ok (.isub, 1) := by decide +kernel
theorem dX8_fit_64 : decode cX8_fit 64 = .ok (.iconst 1, 1) := by decide +kernel
theorem dX8_fit_65 : decode cX8_fit 65 = .ok (.iadd, 1) := by decide +kernel
theorem dX8_fit_66 : decode cX8_fit 66 = .ok (.if_icmp .gt 159, 3) := by decide +kernel
theorem dX8_fit_69 : decode cX8_fit 69 = .ok (.aload_n 0, 1) := by decide +kernel
theorem dX8_fit_70 : decode cX8_fit 70 = .ok (.getfield 78, 3) := by decide +kernel
theorem dX8_fit_73 : decode cX8_fit 73 = .ok (.iconst 0, 1) := by decide +kernel
theorem dX8_fit_74 : decode cX8_fit 74 = .ok (.iload 6, 2) := by decide +kernel
theorem dX8_fit_76 : decode cX8_fit 76 = .ok (.iastore, 1) := by decide +kernel
theorem dX8_fit_77 : decode cX8_fit 77 = .ok (.iload 4, 2) := by decide +kernel
theorem dX8_fit_79 : decode cX8_fit 79 = .ok (.iconst 2, 1) := by decide +kernel
theorem dX8_fit_80 : decode cX8_fit 80 = .ok (.if_icmp .ne 23, 3) := by decide +kernel
theorem dX8_fit_83 : decode cX8_fit 83 = .ok (.aload_n 0, 1) := by decide +kernel
theorem dX8_fit_84 : decode cX8_fit 84 = .ok (.getfield 78, 3) := by decide +kernel
theorem dX8_fit_87 : decode cX8_fit 87 = .ok (.iconst 1, 1) := by decide +kernel
theorem dX8_fit_88 : decode cX8_fit 88 = .ok (.iload 5, 2) := by decide +kernel
theorem dX8_fit_90 : decode cX8_fit 90 = .ok (.iload 6, 2) := by decide +kernel
theorem dX8_fit_92 : decode cX8_fit 92 = .ok (.isub, 1) := by decide +kernel
theorem dX8_fit_93 : decode cX8_fit 93 = .ok (.iastore, 1) := by decide +kernel
theorem dX8_fit_94 : decode cX8_fit 94 = .ok (.aload_n 0, 1) := by decide +kernel
theorem dX8_fit_95 : decode cX8_fit 95 = .ok (.iload_n 3, 1) := by decide +kernel
theorem dX8_fit_96 : decode cX8_fit 96 = .ok (.iload_n 2, 1) := by decide +kernel
theorem dX8_fit_97 : decode cX8_fit 97 = .ok (.invokevirtual 231, 3) := by decide +kernel
theorem dX8_fit_100 : decode cX8_fit 100 = .ok (.goto 119, 3) := by decide +kernel
theorem dX8_fit_103 : decode cX8_fit 103 = .ok (.iconst 1, 1) := by decide +kernel
theorem dX8_fit_104 : decode cX8_fit 104 = .ok (.istore 7, 2) := by decide +kernel
theorem dX8_fit_106 : decode cX8_fit 106 = .ok (.iload 7, 2) := by decide +kernel
theorem dX8_fit_108 : decode cX8_fit 108 = .ok (.iload 5, 2) := by decide +kernel
theorem dX8_fit_110 : decode cX8_fit 110 = .ok (.iload 6, 2) := by decide +kernel
theorem dX8_fit_112 : decode cX8_fit 112 = .ok (.isub, 1) := by decide +kernel
theorem dX8_fit_113 : decode cX8_fit 113 = .ok (.iload 4, 2) := by decide +kernel
theorem dX8_fit_115 : decode cX8_fit 115 = .ok (.isub, 1) := by decide +kernel
theorem dX8_fit_116 : decode cX8_fit 116 = .ok (.iconst 2, 1) := by decide +kernel
theorem dX8_fit_117 : decode cX8_fit 117 = .ok (.iadd, 1) := by decide +kernel
theorem dX8_fit_118 : decode cX8_fit 118 = .ok (.if_icmp .gt 101, 3) := by decide +kernel
theorem dX8_fit_121 : decode cX8_fit 121 = .ok (.aload_n 0, 1) := by decide +kernel
theorem dX8_fit_122 : decode cX8_fit 122 = .ok (.getfield 78, 3) := by decide +kernel
theorem dX8_fit_125 : decode cX8_fit 125 = .ok (.iconst 1, 1) := by decide +kernel
theorem dX8_fit_126 : decode cX8_fit 126 = .ok (.iload 7, 2) := by decide +kernel
theorem dX8_fit_128 : decode cX8_fit 128 = .ok (.iastore, 1) := by decide +kernel
theorem dX8_fit_129 : decode cX8_fit 129 = .ok (.iload 4, 2) := by decide +kernel
theorem dX8_fit_131 : decode cX8_fit 131 = .ok (.iconst 3, 1) := by decide +kernel
theorem dX8_fit_132 : decode cX8_fit 132 = .ok (.if_icmp .ne 26, 3) := by decide +kernel
theorem dX8_fit_135 : decode cX8_fit 135 = .ok (.aload_n 0, 1) := by decide +kernel
theorem dX8_fit_136 : decode cX8_fit 136 = .ok (.getfield 78, 3) := by decide +kernel
theorem dX8_fit_139 : decode cX8_fit 139 = .ok (.iconst 2, 1) := by decide +kernel
theorem dX8_fit_140 : decode cX8_fit 140 = .ok (.iload 5, 2) := by decide +kernel
theorem dX8_fit_142 : decode cX8_fit 142 = .ok (.iload 6, 2) := by decide +kernel
theorem dX8_fit_144 : decode cX8_fit 144 = .ok (.isub, 1) := by decide +kernel
theorem dX8_fit_145 : decode cX8_fit 145 = .ok (.iload 7, 2) := by decide +kernel
theorem dX8_fit_147 : decode cX8_fit 147 = .ok (.isub, 1) := by decide +kernel
theorem dX8_fit_148 : decode cX8_fit 148 = .ok (.iastore, 1) := by decide +kernel
theorem dX8_fit_149 : decode cX8_fit 149 = .ok (.aload_n 0, 1) := by decide +kernel
theorem dX8_fit_150 : decode cX8_fit 150 = .ok (.iload_n 3, 1) := by decide +kernel
theorem dX8_fit_151 : decode cX8_fit 151 = .ok (.iload_n 2, 1) := by decide +kernel
theorem dX8_fit_152 : decode cX8_fit 152 = .ok (.invokevirtual 231, 3) := by decide +kernel
theorem dX8_fit_155 : decode cX8_fit 155 = .ok (.goto 58, 3) := by decide +kernel
theorem dX8_fit_158 : decode cX8_fit 158 = .ok (.iconst 1, 1) := by decide +kernel
theorem dX8_fit_159 : decode cX8_fit 159 = .ok (.istore 8, 2) := by decide +kernel
theorem dX8_fit_161 : decode cX8_fit 161 = .ok (.iload 8, 2) := by decide +kernel
theorem dX8_fit_163 : decode cX8_fit 163 = .ok (.iload 5, 2) := by decide +kernel
theorem dX8_fit_165 : decode cX8_fit 165 = .ok (.iload 6, 2) := by decide +kernel
theorem dX8_fit_167 : decode cX8_fit 167 = .ok (.isub, 1) := by decide +kernel
theorem dX8_fit_168 : decode cX8_fit 168 = .ok (.iload 7, 2) := by decide +kernel
theorem dX8_fit_170 : decode cX8_fit 170 = .ok (.isub, 1) := by decide +kernel
theorem dX8_fit_171 : decode cX8_fit 171 = .ok (.iconst 1, 1) := by decide +kernel
theorem dX8_fit_172 : decode cX8_fit 172 = .ok (.isub, 1) := by decide +kernel
theorem dX8_fit_173 : decode cX8_fit 173 = .ok (.if_icmp .gt 40, 3) := by decide +kernel
theorem dX8_fit_176 : decode cX8_fit 176 = .ok (.aload_n 0, 1) := by decide +kernel
theorem dX8_fit_177 : decode cX8_fit 177 = .ok (.getfield 78, 3) := by decide +kernel
theorem dX8_fit_180 : decode cX8_fit 180 = .ok (.iconst 2, 1) := by decide +kernel
theorem dX8_fit_181 : decode cX8_fit 181 = .ok (.iload 8, 2) := by decide +kernel
theorem dX8_fit_183 : decode cX8_fit 183 = .ok (.iastore, 1) := by decide +kernel
theorem dX8_fit_184 : decode cX8_fit 184 = .ok (.aload_n 0, 1) := by decide +kernel
theorem dX8_fit_185 : decode cX8_fit 185 = .ok (.getfield 78, 3) := by decide +kernel
theorem dX8_fit_188 : decode cX8_fit 188 = .ok (.iconst 3, 1) := by decide +kernel
theorem dX8_fit_189 : decode cX8_fit 189 = .ok (.iload 5, 2) := by decide +kernel
theorem dX8_fit_191 : decode cX8_fit 191 = .ok (.iload 6, 2) := by decide +kernel
theorem dX8_fit_193 : decode cX8_fit 193 = .ok (.isub, 1) := by decide +kernel
theorem dX8_fit_194 : decode cX8_fit 194 = .ok (.iload 7, 2) := by decide +kernel
theorem dX8_fit_196 : decode cX8_fit 196 = .ok (.isub, 1) := by decide +kernel
theorem dX8_fit_197 : decode cX8_fit 197 = .ok (.iload 8, 2) := by decide +kernel
theorem dX8_fit_199 : decode cX8_fit 199 = .ok (.isub, 1) := by decide +kernel
theorem dX8_fit_200 : decode cX8_fit 200 = .ok (.iastore, 1) := by decide +kernel
theorem dX8_fit_201 : decode cX8_fit 201 = .ok (.aload_n 0, 1) := by decide +kernel
theorem dX8_fit_202 : decode cX8_fit 202 = .ok (.iload_n 3, 1) := by decide +kernel
theorem dX8_fit_203 : decode cX8_fit 203 = .ok (.iload_n 2, 1) := by decide +kernel
theorem dX8_fit_204 : decode cX8_fit 204 = .ok (.invokevirtual 231, 3) := by decide +kernel
theorem dX8_fit_207 : decode cX8_fit 207 = .ok (.iinc 8 1, 3) := by decide +kernel
theorem dX8_fit_210 : decode cX8_fit 210 = .ok (.goto (-49), 3) := by decide +kernel
theorem dX8_fit_213 : decode cX8_fit 213 = .ok (.iinc 7 1, 3) := by decide +kernel
theorem dX8_fit_216 : decode cX8_fit 216 = .ok (.goto (-110), 3) := by decide +kernel
theorem dX8_fit_219 : decode cX8_fit 219 = .ok (.iinc 6 1, 3) := by decide +kernel
theorem dX8_fit_222 : decode cX8_fit 222 = .ok (.goto (-165), 3) := by decide +kernel
theorem dX8_fit_225 : decode cX8_fit 225 = .ok (.aload_n 0, 1) := by decide +kernel
theorem dX8_fit_226 : decode cX8_fit 226 = .ok (.getfield 35, 3) := by decide +kernel
theorem dX8_fit_229 : decode cX8_fit 229 = .ok (.iload_n 3, 1) := by decide +kernel
theorem dX8_fit_230 : decode cX8_fit 230 = .ok (.iload_n 2, 1) := by decide +kernel
theorem dX8_fit_231 : decode cX8_fit 231 = .ok (.iastore, 1) := by decide +kernel
theorem dX8_fit_232 : decode cX8_fit 232 = .ok (.iconst 0, 1) := by decide +kernel
theorem dX8_fit_233 : decode cX8_fit 233 = .ok (.istore 6, 2) := by decide +kernel
theorem dX8_fit_235 : decode cX8_fit 235 = .ok (.iload 6, 2) := by decide +kernel
theorem dX8_fit_237 : decode cX8_fit 237 = .ok (.iload 4, 2) := by decide +kernel
theorem dX8_fit_239 : decode cX8_fit 239 = .ok (.if_icmp .ge 27, 3) := by decide +kernel
theorem dX8_fit_242 : decode cX8_fit 242 = .ok (.aload_n 0, 1) := by decide +kernel
theorem dX8_fit_243 : decode cX8_fit 243 = .ok (.getfield 44, 3) := by decide +kernel
theorem dX8_fit_246 : decode cX8_fit 246 = .ok (.iconst 4, 1) := by decide +kernel
theorem dX8_fit_247 : decode cX8_fit 247 = .ok (.iload_n 3, 1) := by decide +kernel
theorem dX8_fit_248 : decode cX8_fit 248 = .ok (.imul, 1) := by decide +kernel
theorem dX8_fit_249 : decode cX8_fit 249 = .ok (.iload 6, 2) := by decide +kernel
theorem dX8_fit_251 : decode cX8_fit 251 = .ok (.iadd, 1) := by decide +kernel
theorem dX8_fit_252 : decode cX8_fit 252 = .ok (.aload_n 0, 1) := by decide +kernel
theorem dX8_fit_253 : decode cX8_fit 253 = .ok (.getfield 81, 3) := by decide +kernel
theorem dX8_fit_256 : decode cX8_fit 256 = .ok (.iload 6, 2) := by decide +kernel
theorem dX8_fit_258 : decode cX8_fit 258 = .ok (.iaload, 1) := by decide +kernel
theorem dX8_fit_259 : decode cX8_fit 259 = .ok (.iastore, 1) := by decide +kernel
theorem dX8_fit_260 : decode cX8_fit 260 = .ok (.iinc 6 1, 3) := by decide +kernel
theorem dX8_fit_263 : decode cX8_fit 263 = .ok (.goto (-28), 3) := by decide +kernel
theorem dX8_fit_266 : decode cX8_fit 266 = .ok (.iconst 1, 1) := by decide +kernel
theorem dX8_fit_267 : decode cX8_fit 267 = .ok (.ireturn, 1) := by decide +kernel
theorem dX8_tries_0 : decode cX8_tries 0 = .ok (.lconst 0, 1) := by decide +kernel
theorem dX8_tries_1 : decode cX8_tries 1 = .ok (.lstore_n 3, 1) := by decide +kernel
theorem dX8_tries_2 : decode cX8_tries 2 = .ok (.lconst 1, 1) := by decide +kernel
theorem dX8_tries_3 : decode cX8_tries 3 = .ok (.lstore 5, 2) := by decide +kernel
theorem dX8_tries_5 : decode cX8_tries 5 = .ok (.iconst 0, 1) := by decide +kernel
theorem dX8_tries_6 : decode cX8_tries 6 = .ok (.istore 7, 2) := by decide +kernel
theorem dX8_tries_8 : decode cX8_tries 8 = .ok (.iload 7, 2) := by decide +kernel
theorem dX8_tries_10 : decode cX8_tries 10 = .ok (.aload_n 0, 1) := by decide +kernel
theorem dX8_tries_11 : decode cX8_tries 11 = .ok (.getfield 7, 3) := by decide +kernel
theorem dX8_tries_14 : decode cX8_tries 14 = .ok (.iload_n 1, 1) := by decide +kernel
theorem dX8_tries_15 : decode cX8_tries 15 = .ok (.iaload, 1) := by decide +kernel
theorem dX8_tries_16 : decode cX8_tries 16 = .ok (.if_icmp .ge 132, 3) := by decide +kernel
theorem dX8_tries_19 : decode cX8_tries 19 = .ok (.iconst 0, 1) := by decide +kernel
theorem dX8_tries_20 : decode cX8_tries 20 = .ok (.istore 8, 2) := by decide +kernel
theorem dX8_tries_22 : decode cX8_tries 22 = .ok (.iconst 0, 1) := by decide +kernel
theorem dX8_tries_23 : decode cX8_tries 23 = .ok (.istore 9, 2) := by decide +kernel
theorem dX8_tries_25 : decode cX8_tries 25 = .ok (.iload 9, 2) := by decide +kernel
theorem dX8_tries_27 : decode cX8_tries 27 = .ok (.aload_n 0, 1) := by decide +kernel
theorem dX8_tries_28 : decode cX8_tries 28 = .ok (.getfield 38, 3) := by decide +kernel
theorem dX8_tries_31 : decode cX8_tries 31 = .ok (.iload_n 1, 1) := by decide +kernel
theorem dX8_tries_32 : decode cX8_tries 32 = .ok (.iaload, 1) := by decide +kernel
theorem dX8_tries_33 : decode cX8_tries 33 = .ok (.if_icmp .ge 41, 3) := by decide +kernel
theorem dX8_tries_36 : decode cX8_tries 36 = .ok (.aload_n 0, 1) := by decide +kernel
theorem dX8_tries_37 : decode cX8_tries 37 = .ok (.getfield 41, 3) := by decide +kernel
theorem dX8_tries_40 : decode cX8_tries 40 = .ok (.iconst 4, 1) := by decide +kernel
theorem dX8_tries_41 : decode cX8_tries 41 = .ok (.iload_n 1, 1) := by decide +kernel
theorem dX8_tries_42 : decode cX8_tries 42 = .ok (.imul, 1) := by decide +kernel
theorem dX8_tries_43 : decode cX8_tries 43 = .ok (.iload 9, 2) := by decide +kernel
theorem dX8_tries_45 : decode cX8_tries 45 = .ok (.iadd, 1) := by decide +kernel
theorem dX8_tries_46 : decode cX8_tries 46 = .ok (.iaload, 1) := by decide +kernel
theorem dX8_tries_47 : decode cX8_tries 47 = .ok (.iload 7, 2) := by decide +kernel
theorem dX8_tries_49 : decode cX8_tries 49 = .ok (.ishr, 1) := by decide +kernel
theorem dX8_tries_50 : decode cX8_tries 50 = .ok (.iconst 1, 1) := by decide +kernel
theorem dX8_tries_51 : decode cX8_tries 51 = .ok (.iand, 1) := by decide +kernel
theorem dX8_tries_52 : decode cX8_tries 52 = .ok (.iconst 1, 1) := by decide +kernel
theorem dX8_tries_53 : decode cX8_tries 53 = .ok (.if_icmp .ne 15, 3) := by decide +kernel
theorem dX8_tries_56 : decode cX8_tries 56 = .ok (.iload 8, 2) := by decide +kernel
theorem dX8_tries_58 : decode cX8_tries 58 = .ok (.aload_n 0, 1) := by decide +kernel
theorem dX8_tries_59 : decode cX8_tries 59 = .ok (.getfield 78, 3) := by decide +kernel
theorem dX8_tries_62 : decode cX8_tries 62 = .ok (.iload 9, 2) := by decide +kernel
theorem dX8_tries_64 : decode cX8_tries 64 = .ok (.iaload, 1) := by decide +kernel
theorem dX8_tries_65 : decode cX8_tries 65 = .ok (.iadd, 1) := by decide +kernel
theorem dX8_tries_66 : decode cX8_tries 66 = .ok (.istore 8, 2) := by decide +kernel
theorem dX8_tries_68 : decode cX8_tries 68 = .ok (.iinc 9 1, 3) := by decide +kernel
theorem dX8_tries_71 : decode cX8_tries 71 = .ok (.goto (-46), 3) := by decide +kernel
theorem dX8_tries_74 : decode cX8_tries 74 = .ok (.iload 8, 2) := by decide +kernel
theorem dX8_tries_76 : decode cX8_tries 76 = .ok (.ifCond .ne 6, 3) := by decide +kernel
theorem dX8_tries_79 : decode cX8_tries 79 = .ok (.goto 63, 3) := by decide +kernel
theorem dX8_tries_82 : decode cX8_tries 82 = .ok (.aload_n 0, 1) := by decide +kernel
theorem dX8_tries_83 : decode cX8_tries 83 = .ok (.getfield 16, 3) := by decide +kernel
theorem dX8_tries_86 : decode cX8_tries 86 = .ok (.bipush 8, 2) := by decide +kernel
theorem dX8_tries_88 : decode cX8_tries 88 = .ok (.iload_n 1, 1) := by decide +kernel
theorem dX8_tries_89 : decode cX8_tries 89 = .ok (.imul, 1) := by decide +kernel
theorem dX8_tries_90 : decode cX8_tries 90 = .ok (.iload 7, 2) := by decide +kernel
theorem dX8_tries_92 : decode cX8_tries 92 = .ok (.iadd, 1) := by decide +kernel
theorem dX8_tries_93 : decode cX8_tries 93 = .ok (.iaload, 1) := by decide +kernel
theorem dX8_tries_94 : decode cX8_tries 94 = .ok (.i2l, 1) := by decide +kernel
theorem dX8_tries_95 : decode cX8_tries 95 = .ok (.iload_n 2, 1) := by decide +kernel
theorem dX8_tries_96 : decode cX8_tries 96 = .ok (.i2l, 1) := by decide +kernel
theorem dX8_tries_97 : decode cX8_tries 97 = .ok (.lmul, 1) := by decide +kernel
theorem dX8_tries_98 : decode cX8_tries 98 = .ok (.lstore 9, 2) := by decide +kernel
theorem dX8_tries_100 : decode cX8_tries 100 = .ok (.aload_n 0, 1) := by decide +kernel
theorem dX8_tries_101 : decode cX8_tries 101 = .ok (.getfield 19, 3) := by decide +kernel
theorem dX8_tries_104 : decode cX8_tries 104 = .ok (.bipush 8, 2) := by decide +kernel
theorem dX8_tries_106 : decode cX8_tries 106 = .ok (.iload_n 1, 1) := by decide +kernel
theorem dX8_tries_107 : decode cX8_tries 107 = .ok (.imul, 1) := by decide +kernel
theorem dX8_tries_108 : decode cX8_tries 108 = .ok (.iload 7, 2) := by decide +kernel
theorem dX8_tries_110 : decode cX8_tries 110 = .ok (.iadd, 1) := by decide +kernel
theorem dX8_tries_111 : decode cX8_tries 111 = .ok (.iaload, 1) := by decide +kernel
theorem dX8_tries_112 : decode cX8_tries 112 = .ok (.i2l, 1) := by decide +kernel
theorem dX8_tries_113 : decode cX8_tries 113 = .ok (.iload 8, 2) := by decide +kernel
theorem dX8_tries_115 : decode cX8_tries 115 = .ok (.i2l, 1) := by decide +kernel
theorem dX8_tries_116 : decode cX8_tries 116 = .ok (.lmul, 1) := by decide +kernel
theorem dX8_tries_117 : decode cX8_tries 117 = .ok (.lstore 11, 2) := by decide +kernel
theorem dX8_tries_119 : decode cX8_tries 119 = .ok (.lload 9, 2) := by decide +kernel
theorem dX8_tries_121 : decode cX8_tries 121 = .ok (.lload 5, 2) := by decide +kernel
theorem dX8_tries_123 : decode cX8_tries 123 = .ok (.lmul, 1) := by decide +kernel
theorem dX8_tries_124 : decode cX8_tries 124 = .ok (.lload_n 3, 1) := by decide +kernel
theorem dX8_tries_125 : decode cX8_tries 125 = .ok (.lload 11, 2) := by decide +kernel
theorem dX8_tries_127 : decode cX8_tries 127 = .ok (.lmul, 1) := by decide +kernel
theorem dX8_tries_128 : decode cX8_tries 128 = .ok (.lcmp, 1) := by decide +kernel
theorem dX8_tries_129 : decode cX8_tries 129 = .ok (.ifCond .gt 6, 3) := by decide +kernel
theorem dX8_tries_132 : decode cX8_tries 132 = .ok (.goto 10, 3) := by decide +kernel
theorem dX8_tries_135 : decode cX8_tries 135 = .ok (.lload 9, 2) := by decide +kernel
theorem dX8_tries_137 : decode cX8_tries 137 = .ok (.lstore_n 3, 1) := by decide +kernel
theorem dX8_tries_138 : decode cX8_tries 138 = .ok (.lload 11, 2) := by decide +kernel
theorem dX8_tries_140 : decode cX8_tries 140 = .ok (.lstore 5, 2) := by decide +kernel
theorem dX8_tries_142 : decode cX8_tries 142 = .ok (.iinc 7 1, 3) := by decide +kernel
theorem dX8_tries_145 : decode cX8_tries 145 = .ok (.goto (-137), 3) := by decide +kernel
theorem dX8_tries_148 : decode cX8_tries 148 = .ok (.aload_n 0, 1) := by decide +kernel
theorem dX8_tries_149 : decode cX8_tries 149 = .ok (.getfield 227, 3) := by decide +kernel
theorem dX8_tries_152 : decode cX8_tries 152 = .ok (.lconst 0, 1) := by decide +kernel
theorem dX8_tries_153 : decode cX8_tries 153 = .ok (.lcmp, 1) := by decide +kernel
theorem dX8_tries_154 : decode cX8_tries 154 = .ok (.ifCond .le 21, 3) := by decide +kernel
theorem dX8_tries_157 : decode cX8_tries 157 = .ok (.lload_n 3, 1) := by decide +kernel
theorem dX8_tries_158 : decode cX8_tries 158 = .ok (.aload_n 0, 1) := by decide +kernel
theorem dX8_tries_159 : decode cX8_tries 159 = .ok (.getfield 227, 3) := by decide +kernel
theorem dX8_tries_162 : decode cX8_tries 162 = .ok (.lmul, 1) := by decide +kernel
theorem dX8_tries_163 : decode cX8_tries 163 = .ok (.aload_n 0, 1) := by decide +kernel
theorem dX8_tries_164 : decode cX8_tries 164 = .ok (.getfield 235, 3) := by decide +kernel
theorem dX8_tries_167 : decode cX8_tries 167 = .ok (.lload 5, 2) := by decide +kernel
theorem dX8_tries_169 : decode cX8_tries 169 = .ok (.lmul, 1) := by decide +kernel
theorem dX8_tries_170 : decode cX8_tries 170 = .ok (.lcmp, 1) := by decide +kernel
theorem dX8_tries_171 : decode cX8_tries 171 = .ok (.ifCond .lt 4, 3) := by decide +kernel
theorem dX8_tries_174 : decode cX8_tries 174 = .ok (.return_, 1) := by decide +kernel
theorem dX8_tries_175 : decode cX8_tries 175 = .ok (.aload_n 0, 1) := by decide +kernel
theorem dX8_tries_176 : decode cX8_tries 176 = .ok (.lload_n 3, 1) := by decide +kernel
theorem dX8_tries_177 : decode cX8_tries 177 = .ok (.putfield 235, 3) := by decide +kernel
theorem dX8_tries_180 : decode cX8_tries 180 = .ok (.aload_n 0, 1) := by decide +kernel
theorem dX8_tries_181 : decode cX8_tries 181 = .ok (.lload 5, 2) := by decide +kernel
theorem dX8_tries_183 : decode cX8_tries 183 = .ok (.putfield 227, 3) := by decide +kernel
theorem dX8_tries_186 : decode cX8_tries 186 = .ok (.iconst 0, 1) := by decide +kernel
theorem dX8_tries_187 : decode cX8_tries 187 = .ok (.istore 7, 2) := by decide +kernel
theorem dX8_tries_189 : decode cX8_tries 189 = .ok (.iload 7, 2) := by decide +kernel
theorem dX8_tries_191 : decode cX8_tries 191 = .ok (.aload_n 0, 1) := by decide +kernel
theorem dX8_tries_192 : decode cX8_tries 192 = .ok (.getfield 38, 3) := by decide +kernel
theorem dX8_tries_195 : decode cX8_tries 195 = .ok (.iload_n 1, 1) := by decide +kernel
theorem dX8_tries_196 : decode cX8_tries 196 = .ok (.iaload, 1) := by decide +kernel
theorem dX8_tries_197 : decode cX8_tries 197 = .ok (.if_icmp .ge 23, 3) := by decide +kernel
theorem dX8_tries_200 : decode cX8_tries 200 = .ok (.aload_n 0, 1) := by decide +kernel
theorem dX8_tries_201 : decode cX8_tries 201 = .ok (.getfield 81, 3) := by decide +kernel
theorem dX8_tries_204 : decode cX8_tries 204 = .ok (.iload 7, 2) := by decide +kernel
theorem dX8_tries_206 : decode cX8_tries 206 = .ok (.aload_n 0, 1) := by decide +kernel
theorem dX8_tries_207 : decode cX8_tries 207 = .ok (.getfield 78, 3) := by decide +kernel
theorem dX8_tries_210 : decode cX8_tries 210 = .ok (.iload 7, 2) := by decide +kernel
theorem dX8_tries_212 : decode cX8_tries 212 = .ok (.iaload, 1) := by decide +kernel
theorem dX8_tries_213 : decode cX8_tries 213 = .ok (.iastore, 1) := by decide +kernel
theorem dX8_tries_214 : decode cX8_tries 214 = .ok (.iinc 7 1, 3) := by decide +kernel
theorem dX8_tries_217 : decode cX8_tries 217 = .ok (.goto (-28), 3) := by decide +kernel
theorem dX8_tries_220 : decode cX8_tries 220 = .ok (.return_, 1) := by decide +kernel
theorem dX8_green_0 : decode cX8_green 0 = .ok (.aload_n 0, 1) := by decide +kernel
theorem dX8_green_1 : decode cX8_green 1 = .ok (.iload_n 1, 1) := by decide +kernel
theorem dX8_green_2 : decode cX8_green 2 = .ok (.invokevirtual 142, 3) := by decide +kernel
theorem dX8_green_5 : decode cX8_green 5 = .ok (.ifCond .eq 39, 3) := by decide +kernel
theorem dX8_green_8 : decode cX8_green 8 = .ok (.aload_n 0, 1) := by decide +kernel
theorem dX8_green_9 : decode cX8_green 9 = .ok (.getfield 32, 3) := by decide +kernel
theorem dX8_green_12 : decode cX8_green 12 = .ok (.iload_n 1, 1) := by decide +kernel
theorem dX8_green_13 : decode cX8_green 13 = .ok (.baload, 1) := by decide +kernel
theorem dX8_green_14 : decode cX8_green 14 = .ok (.ifCond .eq 30, 3) := by decide +kernel
theorem dX8_green_17 : decode cX8_green 17 = .ok (.iload_n 2, 1) := by decide +kernel
theorem dX8_green_18 : decode cX8_green 18 = .ok (.ifCond .lt 26, 3) := by decide +kernel
theorem dX8_green_21 : decode cX8_green 21 = .ok (.iload_n 2, 1) := by decide +kernel
theorem dX8_green_22 : decode cX8_green 22 = .ok (.aload_n 0, 1) := by decide +kernel
theorem dX8_green_23 : decode cX8_green 23 = .ok (.getfield 38, 3) := by decide +kernel
theorem dX8_green_26 : decode cX8_green 26 = .ok (.iload_n 1, 1) := by decide +kernel
theorem dX8_green_27 : decode cX8_green 27 = .ok (.iaload, 1) := by decide +kernel
theorem dX8_green_28 : decode cX8_green 28 = .ok (.if_icmp .ge 16, 3) := by decide +kernel
theorem dX8_green_31 : decode cX8_green 31 = .ok (.aload_n 0, 1) := by decide +kernel
theorem dX8_green_32 : decode cX8_green 32 = .ok (.getfield 44, 3) := by decide +kernel
theorem dX8_green_35 : decode cX8_green 35 = .ok (.iconst 4, 1) := by decide +kernel
theorem dX8_green_36 : decode cX8_green 36 = .ok (.iload_n 1, 1) := by decide +kernel
theorem dX8_green_37 : decode cX8_green 37 = .ok (.imul, 1) := by decide +kernel
theorem dX8_green_38 : decode cX8_green 38 = .ok (.iload_n 2, 1) := by decide +kernel
theorem dX8_green_39 : decode cX8_green 39 = .ok (.iadd, 1) := by decide +kernel
theorem dX8_green_40 : decode cX8_green 40 = .ok (.iaload, 1) := by decide +kernel
theorem dX8_green_41 : decode cX8_green 41 = .ok (.goto 4, 3) := by decide +kernel
theorem dX8_green_44 : decode cX8_green 44 = .ok (.iconst (-1), 1) := by decide +kernel
theorem dX8_green_45 : decode cX8_green 45 = .ok (.ireturn, 1) := by decide +kernel
theorem dX8_lamp_0 : decode cX8_lamp 0 = .ok (.aload_n 0, 1) := by decide +kernel
theorem dX8_lamp_1 : decode cX8_lamp 1 = .ok (.iload_n 1, 1) := by decide +kernel
theorem dX8_lamp_2 : decode cX8_lamp 2 = .ok (.iload_n 2, 1) := by decide +kernel
theorem dX8_lamp_3 : decode cX8_lamp 3 = .ok (.invokevirtual 169, 3) := by decide +kernel
theorem dX8_lamp_6 : decode cX8_lamp 6 = .ok (.ifCond .eq 13, 3) := by decide +kernel
theorem dX8_lamp_9 : decode cX8_lamp 9 = .ok (.iload_n 3, 1) := by decide +kernel
theorem dX8_lamp_10 : decode cX8_lamp 10 = .ok (.iconst 0, 1) := by decide +kernel
theorem dX8_lamp_11 : decode cX8_lamp 11 = .ok (.ldc 238, 2) := by decide +kernel
theorem dX8_lamp_13 : decode cX8_lamp 13 = .ok (.invokestatic 149, 3) := by decide +kernel
theorem dX8_lamp_16 : decode cX8_lamp 16 = .ok (.ifCond .ne 5, 3) := by decide +kernel
theorem dX8_lamp_19 : decode cX8_lamp 19 = .ok (.iconst (-1), 1) := by decide +kernel
theorem dX8_lamp_20 : decode cX8_lamp 20 = .ok (.ireturn, 1) := by decide +kernel
theorem dX8_lamp_21 : decode cX8_lamp 21 = .ok (.aload_n 0, 1) := by decide +kernel
theorem dX8_lamp_22 : decode cX8_lamp 22 = .ok (.getfield 32, 3) := by decide +kernel
theorem dX8_lamp_25 : decode cX8_lamp 25 = .ok (.bipush 8, 2) := by decide +kernel
theorem dX8_lamp_27 : decode cX8_lamp 27 = .ok (.iload_n 1, 1) := by decide +kernel
theorem dX8_lamp_28 : decode cX8_lamp 28 = .ok (.iadd, 1) := by decide +kernel
theorem dX8_lamp_29 : decode cX8_lamp 29 = .ok (.baload, 1) := by decide +kernel
theorem dX8_lamp_30 : decode cX8_lamp 30 = .ok (.ifCond .eq 30, 3) := by decide +kernel
theorem dX8_lamp_33 : decode cX8_lamp 33 = .ok (.aload_n 0, 1) := by decide +kernel
theorem dX8_lamp_34 : decode cX8_lamp 34 = .ok (.bipush 8, 2) := by decide +kernel
theorem dX8_lamp_36 : decode cX8_lamp 36 = .ok (.iload_n 1, 1) := by decide +kernel
theorem dX8_lamp_37 : decode cX8_lamp 37 = .ok (.iadd, 1) := by decide +kernel
theorem dX8_lamp_38 : decode cX8_lamp 38 = .ok (.iload_n 2, 1) := by decide +kernel
theorem dX8_lamp_39 : decode cX8_lamp 39 = .ok (.iload_n 3, 1) := by decide +kernel
theorem dX8_lamp_40 : decode cX8_lamp 40 = .ok (.aload_n 0, 1) := by decide +kernel
theorem dX8_lamp_41 : decode cX8_lamp 41 = .ok (.getfield 47, 3) := by decide +kernel
theorem dX8_lamp_44 : decode cX8_lamp 44 = .ok (.bipush 8, 2) := by decide +kernel
theorem dX8_lamp_46 : decode cX8_lamp 46 = .ok (.iload_n 1, 1) := by decide +kernel
theorem dX8_lamp_47 : decode cX8_lamp 47 = .ok (.iadd, 1) := by decide +kernel
theorem dX8_lamp_48 : decode cX8_lamp 48 = .ok (.iaload, 1) := by decide +kernel
theorem dX8_lamp_49 : decode cX8_lamp 49 = .ok (.isub, 1) := by decide +kernel
theorem dX8_lamp_50 : decode cX8_lamp 50 = .ok (.invokevirtual 205, 3) := by decide +kernel
theorem dX8_lamp_53 : decode cX8_lamp 53 = .ok (.ifCond .eq 7, 3) := by decide +kernel
theorem dX8_lamp_56 : decode cX8_lamp 56 = .ok (.iconst 1, 1) := by decide +kernel
theorem dX8_lamp_57 : decode cX8_lamp 57 = .ok (.goto 4, 3) := by decide +kernel
theorem dX8_lamp_60 : decode cX8_lamp 60 = .ok (.iconst 0, 1) := by decide +kernel
theorem dX8_lamp_61 : decode cX8_lamp 61 = .ok (.ireturn, 1) := by decide +kernel
theorem dX8_street_0 : decode cX8_street 0 = .ok (.aload_n 0, 1) := by decide +kernel
theorem dX8_street_1 : decode cX8_street 1 = .ok (.iload_n 1, 1) := by decide +kernel
theorem dX8_street_2 : decode cX8_street 2 = .ok (.iload_n 2, 1) := by decide +kernel
theorem dX8_street_3 : decode cX8_street 3 = .ok (.invokevirtual 169, 3) := by decide +kernel
theorem dX8_street_6 : decode cX8_street 6 = .ok (.ifCond .eq 40, 3) := by decide +kernel
theorem dX8_street_9 : decode cX8_street 9 = .ok (.aload_n 0, 1) := by decide +kernel
theorem dX8_street_10 : decode cX8_street 10 = .ok (.iload_n 3, 1) := by decide +kernel
theorem dX8_street_11 : decode cX8_street 11 = .ok (.iload 4, 2) := by decide +kernel
theorem dX8_street_13 : decode cX8_street 13 = .ok (.invokevirtual 169, 3) := by decide +kernel
theorem dX8_street_16 : decode cX8_street 16 = .ok (.ifCond .eq 30, 3) := by decide +kernel
theorem dX8_street_19 : decode cX8_street 19 = .ok (.iload_n 1, 1) := by decide +kernel
theorem dX8_street_20 : decode cX8_street 20 = .ok (.iload_n 3, 1) := by decide +kernel
theorem dX8_street_21 : decode cX8_street 21 = .ok (.if_icmp .eq 25, 3) := by decide +kernel
theorem dX8_street_24 : decode cX8_street 24 = .ok (.iload 5, 2) := by decide +kernel
theorem dX8_street_26 : decode cX8_street 26 = .ok (.iconst 1, 1) := by decide +kernel
theorem dX8_street_27 : decode cX8_street 27 = .ok (.bipush 60, 2) := by decide +kernel
theorem dX8_street_29 : decode cX8_street 29 = .ok (.invokestatic 149, 3) := by decide +kernel
theorem dX8_street_32 : decode cX8_street 32 = .ok (.ifCond .eq 14, 3) := by decide +kernel
theorem dX8_street_35 : decode cX8_street 35 = .ok (.iload 6, 2) := by decide +kernel
theorem dX8_street_37 : decode cX8_street 37 = .ok (.iconst 1, 1) := by decide +kernel
theorem dX8_street_38 : decode cX8_street 38 = .ok (.bipush 60, 2) := by decide +kernel
theorem dX8_street_40 : decode cX8_street 40 = .ok (.invokestatic 149, 3) := by decide +kernel
theorem dX8_street_43 : decode cX8_street 43 = .ok (.ifCond .ne 5, 3) := by decide +kernel
theorem dX8_street_46 : decode cX8_street 46 = .ok (.iconst 0, 1) := by decide +kernel
theorem dX8_street_47 : decode cX8_street 47 = .ok (.ireturn, 1) := by decide +kernel
theorem dX8_street_48 : decode cX8_street 48 = .ok (.bipush 8, 2) := by decide +kernel
theorem dX8_street_50 : decode cX8_street 50 = .ok (.iload_n 1, 1) := by decide +kernel
theorem dX8_street_51 : decode cX8_street 51 = .ok (.imul, 1) := by decide +kernel
theorem dX8_street_52 : decode cX8_street 52 = .ok (.iload_n 2, 1) := by decide +kernel
theorem dX8_street_53 : decode cX8_street 53 = .ok (.iadd, 1) := by decide +kernel
theorem dX8_street_54 : decode cX8_street 54 = .ok (.istore 7, 2) := by decide +kernel
theorem dX8_street_56 : decode cX8_street 56 = .ok (.aload_n 0, 1) := by decide +kernel
theorem dX8_street_57 : decode cX8_street 57 = .ok (.getfield 84, 3) := by decide +kernel
theorem dX8_street_60 : decode cX8_street 60 = .ok (.iload 7, 2) := by decide +kernel
theorem dX8_street_62 : decode cX8_street 62 = .ok (.baload, 1) := by decide +kernel
theorem dX8_street_63 : decode cX8_street 63 = .ok (.ifCond .ne 10, 3) := by decide +kernel
theorem dX8_street_66 : decode cX8_street 66 = .ok (.aload_n 0, 1) := by decide +kernel
theorem dX8_street_67 : decode cX8_street 67 = .ok (.getfield 146, 3) := by decide +kernel
theorem dX8_street_70 : decode cX8_street 70 = .ok (.ifCond .le 5, 3) := by decide +kernel
theorem dX8_street_73 : decode cX8_street 73 = .ok (.iconst 0, 1) := by decide +kernel
theorem dX8_street_74 : decode cX8_street 74 = .ok (.ireturn, 1) := by decide +kernel
theorem dX8_street_75 : decode cX8_street 75 = .ok (.aload_n 0, 1) := by decide +kernel
theorem dX8_street_76 : decode cX8_street 76 = .ok (.getfield 84, 3) := by decide +kernel
theorem dX8_street_79 : decode cX8_street 79 = .ok (.iload 7, 2) := by decide +kernel
theorem dX8_street_81 : decode cX8_street 81 = .ok (.iconst 1, 1) := by decide +kernel
theorem dX8_street_82 : decode cX8_street 82 = .ok (.bastore, 1) := by decide +kernel
theorem dX8_street_83 : decode cX8_street 83 = .ok (.aload_n 0, 1) := by decide +kernel
theorem dX8_street_84 : decode cX8_street 84 = .ok (.getfield 87, 3) := by decide +kernel
theorem dX8_street_87 : decode cX8_street 87 = .ok (.iload 7, 2) := by decide +kernel
theorem dX8_street_89 : decode cX8_street 89 = .ok (.bipush 8, 2) := by decide +kernel
theorem dX8_street_91 : decode cX8_street 91 = .ok (.iload_n 3, 1) := by decide +kernel
theorem dX8_street_92 : decode cX8_street 92 = .ok (.imul, 1) := by decide +kernel
theorem dX8_street_93 : decode cX8_street 93 = .ok (.iload 4, 2) := by decide +kernel
theorem dX8_street_95 : decode cX8_street 95 = .ok (.iadd, 1) := by decide +kernel
theorem dX8_street_96 : decode cX8_street 96 = .ok (.iastore, 1) := by decide +kernel
theorem dX8_street_97 : decode cX8_street 97 = .ok (.aload_n 0, 1) := by decide +kernel
theorem dX8_street_98 : decode cX8_street 98 = .ok (.getfield 90, 3) := by decide +kernel
theorem dX8_street_101 : decode cX8_street 101 = .ok (.iload 7, 2) := by decide +kernel
theorem dX8_street_103 : decode cX8_street 103 = .ok (.iload 5, 2) := by decide +kernel
theorem dX8_street_105 : decode cX8_street 105 = .ok (.iastore, 1) := by decide +kernel
theorem dX8_street_106 : decode cX8_street 106 = .ok (.aload_n 0, 1) := by decide +kernel
theorem dX8_street_107 : decode cX8_street 107 = .ok (.getfield 93, 3) := by decide +kernel
theorem dX8_street_110 : decode cX8_street 110 = .ok (.iload 7, 2) := by decide +kernel
theorem dX8_street_112 : decode cX8_street 112 = .ok (.iload 6, 2) := by decide +kernel
theorem dX8_street_114 : decode cX8_street 114 = .ok (.iastore, 1) := by decide +kernel
theorem dX8_street_115 : decode cX8_street 115 = .ok (.iconst 1, 1) := by decide +kernel
theorem dX8_street_116 : decode cX8_street 116 = .ok (.ireturn, 1) := by decide +kernel
theorem dX8_run_0 : decode cX8_run 0 = .ok (.iload_n 1, 1) := by decide +kernel
theorem dX8_run_1 : decode cX8_run 1 = .ok (.iconst 0, 1) := by decide +kernel
theorem dX8_run_2 : decode cX8_run 2 = .ok (.sipush 300, 3) := by decide +kernel
theorem dX8_run_5 : decode cX8_run 5 = .ok (.invokestatic 149, 3) := by decide +kernel
theorem dX8_run_8 : decode cX8_run 8 = .ok (.ifCond .eq 14, 3) := by decide +kernel
theorem dX8_run_11 : decode cX8_run 11 = .ok (.aload_n 0, 1) := by decide +kernel
theorem dX8_run_12 : decode cX8_run 12 = .ok (.getfield 146, 3) := by decide +kernel
theorem dX8_run_15 : decode cX8_run 15 = .ok (.iload_n 1, 1) := by decide +kernel
theorem dX8_run_16 : decode cX8_run 16 = .ok (.iadd, 1) := by decide +kernel
theorem dX8_run_17 : decode cX8_run 17 = .ok (.ldc 239, 2) := by decide +kernel
theorem dX8_run_19 : decode cX8_run 19 = .ok (.if_icmp .le 5, 3) := by decide +kernel
theorem dX8_run_22 : decode cX8_run 22 = .ok (.iconst (-1), 1) := by decide +kernel
theorem dX8_run_23 : decode cX8_run 23 = .ok (.ireturn, 1) := by decide +kernel
theorem dX8_run_24 : decode cX8_run 24 = .ok (.iconst 0, 1) := by decide +kernel
theorem dX8_run_25 : decode cX8_run 25 = .ok (.istore_n 2, 1) := by decide +kernel
theorem dX8_run_26 : decode cX8_run 26 = .ok (.iload_n 2, 1) := by decide +kernel
theorem dX8_run_27 : decode cX8_run 27 = .ok (.iload_n 1, 1) := by decide +kernel
theorem dX8_run_28 : decode cX8_run 28 = .ok (.if_icmp .ge 40, 3) := by decide +kernel
theorem dX8_run_31 : decode cX8_run 31 = .ok (.iconst 0, 1) := by decide +kernel
theorem dX8_run_32 : decode cX8_run 32 = .ok (.istore_n 3, 1) := by decide +kernel
theorem dX8_run_33 : decode cX8_run 33 = .ok (.iload_n 3, 1) := by decide +kernel
theorem dX8_run_34 : decode cX8_run 34 = .ok (.aload_n 0, 1) := by decide +kernel
theorem dX8_run_35 : decode cX8_run 35 = .ok (.getfield 139, 3) := by decide +kernel
theorem dX8_run_38 : decode cX8_run 38 = .ok (.if_icmp .ge 14, 3) := by decide +kernel
theorem dX8_run_41 : decode cX8_run 41 = .ok (.aload_n 0, 1) := by decide +kernel
theorem dX8_run_42 : decode cX8_run 42 = .ok (.iload_n 3, 1) := by decide +kernel
theorem dX8_run_43 : decode cX8_run 43 = .ok (.invokevirtual 240, 3) := by decide +kernel
theorem dX8_run_46 : decode cX8_run 46 = .ok (.iinc 3 1, 3) := by decide +kernel
theorem dX8_run_49 : decode cX8_run 49 = .ok (.goto (-16), 3) := by decide +kernel
theorem dX8_run_52 : decode cX8_run 52 = .ok (.aload_n 0, 1) := by decide +kernel
theorem dX8_run_53 : decode cX8_run 53 = .ok (.dup, 1) := by decide +kernel
theorem dX8_run_54 : decode cX8_run 54 = .ok (.getfield 146, 3) := by decide +kernel
theorem dX8_run_57 : decode cX8_run 57 = .ok (.iconst 1, 1) := by decide +kernel
theorem dX8_run_58 : decode cX8_run 58 = .ok (.iadd, 1) := by decide +kernel
theorem dX8_run_59 : decode cX8_run 59 = .ok (.putfield 146, 3) := by decide +kernel
theorem dX8_run_62 : decode cX8_run 62 = .ok (.iinc 2 1, 3) := by decide +kernel
theorem dX8_run_65 : decode cX8_run 65 = .ok (.goto (-39), 3) := by decide +kernel
theorem dX8_run_68 : decode cX8_run 68 = .ok (.aload_n 0, 1) := by decide +kernel
theorem dX8_run_69 : decode cX8_run 69 = .ok (.getfield 146, 3) := by decide +kernel
theorem dX8_run_72 : decode cX8_run 72 = .ok (.ireturn, 1) := by decide +kernel
theorem dX8_runJunction_0 : decode cX8_runJunction 0 = .ok (.bipush 8, 2) := by decide +kernel
theorem dX8_runJunction_2 : decode cX8_runJunction 2 = .ok (.iload_n 1, 1) := by decide +kernel
theorem dX8_runJunction_3 : decode cX8_runJunction 3 = .ok (.iadd, 1) := by decide +kernel
theorem dX8_runJunction_4 : decode cX8_runJunction 4 = .ok (.istore_n 2, 1) := by decide +kernel
theorem dX8_runJunction_5 : decode cX8_runJunction 5 = .ok (.iconst 0, 1) := by decide +kernel
theorem dX8_runJunction_6 : decode cX8_runJunction 6 = .ok (.istore_n 3, 1) := by decide +kernel
theorem dX8_runJunction_7 : decode cX8_runJunction 7 = .ok (.aload_n 0, 1) := by decide +kernel
theorem dX8_runJunction_8 : decode cX8_runJunction 8 = .ok (.getfield 32, 3) := by decide +kernel
theorem dX8_runJunction_11 : decode cX8_runJunction 11 = .ok (.iload_n 2, 1) := by decide +kernel
theorem dX8_runJunction_12 : decode cX8_runJunction 12 = .ok (.baload, 1) := by decide +kernel
theorem dX8_runJunction_13 : decode cX8_runJunction 13 = .ok (.ifCond .eq 87, 3) := by decide +kernel
theorem dX8_runJunction_16 : decode cX8_runJunction 16 = .ok (.bipush 90, 2) := by decide +kernel
theorem dX8_runJunction_18 : decode cX8_runJunction 18 = .ok (.iload_n 2, 1) := by decide +kernel
theorem dX8_runJunction_19 : decode cX8_runJunction 19 = .ok (.imul, 1) := by decide +kernel
theorem dX8_runJunction_20 : decode cX8_runJunction 20 = .ok (.aload_n 0, 1) := by decide +kernel
theorem dX8_runJunction_21 : decode cX8_runJunction 21 = .ok (.getfield 146, 3) := by decide +kernel
theorem dX8_runJunction_24 : decode cX8_runJunction 24 = .ok (.aload_n 0, 1) := by decide +kernel
theorem dX8_runJunction_25 : decode cX8_runJunction 25 = .ok (.getfield 47, 3) := by decide +kernel
theorem dX8_runJunction_28 : decode cX8_runJunction 28 = .ok (.iload_n 2, 1) := by decide +kernel
theorem dX8_runJunction_29 : decode cX8_runJunction 29 = .ok (.iaload, 1) := by decide +kernel
theorem dX8_runJunction_30 : decode cX8_runJunction 30 = .ok (.isub, 1) := by decide +kernel
theorem dX8_runJunction_31 : decode cX8_runJunction 31 = .ok (.aload_n 0, 1) := by decide +kernel
theorem dX8_runJunction_32 : decode cX8_runJunction 32 = .ok (.getfield 35, 3) := by decide +kernel
theorem dX8_runJunction_35 : decode cX8_runJunction 35 = .ok (.iload_n 2, 1) := by decide +kernel
theorem dX8_runJunction_36 : decode cX8_runJunction 36 = .ok (.iaload, 1) := by decide +kernel
theorem dX8_runJunction_37 : decode cX8_runJunction 37 = .ok (.invokestatic 185, 3) := by decide +kernel
theorem dX8_runJunction_40 : decode cX8_runJunction 40 = .ok (.iadd, 1) := by decide +kernel
theorem dX8_runJunction_41 : decode cX8_runJunction 41 = .ok (.istore 4, 2) := by decide +kernel
theorem dX8_runJunction_43 : decode cX8_runJunction 43 = .ok (.aload_n 0, 1) := by decide +kernel
theorem dX8_runJunction_44 : decode cX8_runJunction 44 = .ok (.getfield 72, 3) := by decide +kernel
theorem dX8_runJunction_47 : decode cX8_runJunction 47 = .ok (.iload 4, 2) := by decide +kernel
theorem dX8_runJunction_49 : decode cX8_runJunction 49 = .ok (.iaload, 1) := by decide +kernel
theorem dX8_runJunction_50 : decode cX8_runJunction 50 = .ok (.aload_n 0, 1) := by decide +kernel
theorem dX8_runJunction_51 : decode cX8_runJunction 51 = .ok (.getfield 50, 3) := by decide +kernel
theorem dX8_runJunction_54 : decode cX8_runJunction 54 = .ok (.iload_n 1, 1) := by decide +kernel
theorem dX8_runJunction_55 : decode cX8_runJunction 55 = .ok (.iaload, 1) := by decide +kernel
theorem dX8_runJunction_56 : decode cX8_runJunction 56 = .ok (.if_icmp .lt 10, 3) := by decide +kernel
theorem dX8_runJunction_59 : decode cX8_runJunction 59 = .ok (.aload_n 0, 1) := by decide +kernel
theorem dX8_runJunction_60 : decode cX8_runJunction 60 = .ok (.getfield 56, 3) := by decide +kernel
theorem dX8_runJunction_63 : decode cX8_runJunction 63 = .ok (.iload_n 1, 1) := by decide +kernel
theorem dX8_runJunction_64 : decode cX8_runJunction 64 = .ok (.iconst 1, 1) := by decide +kernel
theorem dX8_runJunction_65 : decode cX8_runJunction 65 = .ok (.bastore, 1) := by decide +kernel
theorem dX8_runJunction_66 : decode cX8_runJunction 66 = .ok (.aload_n 0, 1) := by decide +kernel
theorem dX8_runJunction_67 : decode cX8_runJunction 67 = .ok (.getfield 56, 3) := by decide +kernel
theorem dX8_runJunction_70 : decode cX8_runJunction 70 = .ok (.iload_n 1, 1) := by decide +kernel
theorem dX8_runJunction_71 : decode cX8_runJunction 71 = .ok (.baload, 1) := by decide +kernel
theorem dX8_runJunction_72 : decode cX8_runJunction 72 = .ok (.ifCond .ne 16, 3) := by decide +kernel
theorem dX8_runJunction_75 : decode cX8_runJunction 75 = .ok (.aload_n 0, 1) := by decide +kernel
theorem dX8_runJunction_76 : decode cX8_runJunction 76 = .ok (.getfield 146, 3) := by decide +kernel
theorem dX8_runJunction_79 : decode cX8_runJunction 79 = .ok (.aload_n 0, 1) := by decide +kernel
theorem dX8_runJunction_80 : decode cX8_runJunction 80 = .ok (.getfield 53, 3) := by decide +kernel
theorem dX8_runJunction_83 : decode cX8_runJunction 83 = .ok (.iload_n 1, 1) := by decide +kernel
theorem dX8_runJunction_84 : decode cX8_runJunction 84 = .ok (.iaload, 1) := by decide +kernel
theorem dX8_runJunction_85 : decode cX8_runJunction 85 = .ok (.if_icmp .ge 7, 3) := by decide +kernel
theorem dX8_runJunction_88 : decode cX8_runJunction 88 = .ok (.iconst 0, 1) := by decide +kernel
theorem dX8_runJunction_89 : decode cX8_runJunction 89 = .ok (.goto 10, 3) := by decide +kernel
theorem dX8_runJunction_92 : decode cX8_runJunction 92 = .ok (.aload_n 0, 1) := by decide +kernel
theorem dX8_runJunction_93 : decode cX8_runJunction 93 = .ok (.getfield 69, 3) := by decide +kernel
theorem dX8_runJunction_96 : decode cX8_runJunction 96 = .ok (.iload 4, 2) := by decide +kernel
theorem dX8_runJunction_98 : decode cX8_runJunction 98 = .ok (.iaload, 1) := by decide +kernel
theorem dX8_runJunction_99 : decode cX8_runJunction 99 = .ok (.istore_n 3, 1) := by decide +kernel
theorem dX8_runJunction_100 : decode cX8_runJunction 100 = .ok (.aload_n 0, 1) := by decide +kernel
theorem dX8_runJunction_101 : decode cX8_runJunction 101 = .ok (.getfield 130, 3) := by decide +kernel
theorem dX8_runJunction_104 : decode cX8_runJunction 104 = .ok (.sipush 200, 3) := by decide +kernel
theorem dX8_runJunction_107 : decode cX8_runJunction 107 = .ok (.iload_n 1, 1) := by decide +kernel
theorem dX8_runJunction_108 : decode cX8_runJunction 108 = .ok (.imul, 1) := by decide +kernel
theorem dX8_runJunction_109 : decode cX8_runJunction 109 = .ok (.aload_n 0, 1) := by decide +kernel
theorem dX8_runJunction_110 : decode cX8_runJunction 110 = .ok (.getfield 146, 3) := by decide +kernel
theorem dX8_runJunction_113 : decode cX8_runJunction 113 = .ok (.sipush 200, 3) := by decide +kernel
theorem dX8_runJunction_116 : decode cX8_runJunction 116 = .ok (.irem, 1) := by decide +kernel
theorem dX8_runJunction_117 : decode cX8_runJunction 117 = .ok (.iadd, 1) := by decide +kernel
theorem dX8_runJunction_118 : decode cX8_runJunction 118 = .ok (.iload_n 3, 1) := by decide +kernel
theorem dX8_runJunction_119 : decode cX8_runJunction 119 = .ok (.iastore, 1) := by decide +kernel
theorem dX8_runJunction_120 : decode cX8_runJunction 120 = .ok (.iconst 0, 1) := by decide +kernel
theorem dX8_runJunction_121 : decode cX8_runJunction 121 = .ok (.istore 4, 2) := by decide +kernel
theorem dX8_runJunction_123 : decode cX8_runJunction 123 = .ok (.iload 4, 2) := by decide +kernel
theorem dX8_runJunction_125 : decode cX8_runJunction 125 = .ok (.aload_n 0, 1) := by decide +kernel
theorem dX8_runJunction_126 : decode cX8_runJunction 126 = .ok (.getfield 7, 3) := by decide +kernel
theorem dX8_runJunction_129 : decode cX8_runJunction 129 = .ok (.iload_n 1, 1) := by decide +kernel
theorem dX8_runJunction_130 : decode cX8_runJunction 130 = .ok (.iaload, 1) := by decide +kernel
theorem dX8_runJunction_131 : decode cX8_runJunction 131 = .ok (.if_icmp .ge 35, 3) := by decide +kernel
theorem dX8_runJunction_134 : decode cX8_runJunction 134 = .ok (.aload_n 0, 1) := by decide +kernel
theorem dX8_runJunction_135 : decode cX8_runJunction 135 = .ok (.bipush 8, 2) := by decide +kernel
theorem dX8_runJunction_137 : decode cX8_runJunction 137 = .ok (.iload_n 1, 1) := by decide +kernel
theorem dX8_runJunction_138 : decode cX8_runJunction 138 = .ok (.imul, 1) := by decide +kernel
theorem dX8_runJunction_139 : decode cX8_runJunction 139 = .ok (.iload 4, 2) := by decide +kernel
theorem dX8_runJunction_141 : decode cX8_runJunction 141 = .ok (.iadd, 1) := by decide +kernel
theorem dX8_runJunction_142 : decode cX8_runJunction 142 = .ok (.iload_n 3, 1) := by decide +kernel
theorem dX8_runJunction_143 : decode cX8_runJunction 143 = .ok (.iload 4, 2) := by decide +kernel
theorem dX8_runJunction_145 : decode cX8_runJunction 145 = .ok (.ishr, 1) := by decide +kernel
theorem dX8_runJunction_146 : decode cX8_runJunction 146 = .ok (.iconst 1, 1) := by decide +kernel
theorem dX8_runJunction_147 : decode cX8_runJunction 147 = .ok (.iand, 1) := by decide +kernel
theorem dX8_runJunction_148 : decode cX8_runJunction 148 = .ok (.iconst 1, 1) := by decide +kernel
theorem dX8_runJunction_149 : decode cX8_runJunction 149 = .ok (.if_icmp .ne 7, 3) := by decide +kernel
theorem dX8_runJunction_152 : decode cX8_runJunction 152 = .ok (.iconst 1, 1) := by decide +kernel
theorem dX8_runJunction_153 : decode cX8_runJunction 153 = .ok (.goto 4, 3) := by decide +kernel
theorem dX8_runJunction_156 : decode cX8_runJunction 156 = .ok (.iconst 0, 1) := by decide +kernel
theorem dX8_runJunction_157 : decode cX8_runJunction 157 = .ok (.invokevirtual 243, 3) := by decide +kernel
theorem dX8_runJunction_160 : decode cX8_runJunction 160 = .ok (.iinc 4 1, 3) := by decide +kernel
theorem dX8_runJunction_163 : decode cX8_runJunction 163 = .ok (.goto (-40), 3) := by decide +kernel
theorem dX8_runJunction_166 : decode cX8_runJunction 166 = .ok (.return_, 1) := by decide +kernel
theorem dX8_comes_0 : decode cX8_comes 0 = .ok (.aload_n 0, 1) := by decide +kernel
theorem dX8_comes_1 : decode cX8_comes 1 = .ok (.getfield 112, 3) := by decide +kernel
theorem dX8_comes_4 : decode cX8_comes 4 = .ok (.iload_n 1, 1) := by decide +kernel
theorem dX8_comes_5 : decode cX8_comes 5 = .ok (.dup2, 1) := by decide +kernel
theorem dX8_comes_6 : decode cX8_comes 6 = .ok (.laload, 1) := by decide +kernel
theorem dX8_comes_7 : decode cX8_comes 7 = .ok (.lconst 1, 1) := by decide +kernel
theorem dX8_comes_8 : decode cX8_comes 8 = .ok (.ladd, 1) := by decide +kernel
theorem dX8_comes_9 : decode cX8_comes 9 = .ok (.lastore, 1) := by decide +kernel
theorem dX8_comes_10 : decode cX8_comes 10 = .ok (.iload_n 2, 1) := by decide +kernel
theorem dX8_comes_11 : decode cX8_comes 11 = .ok (.ifCond .eq 14, 3) := by decide +kernel
theorem dX8_comes_14 : decode cX8_comes 14 = .ok (.aload_n 0, 1) := by decide +kernel
theorem dX8_comes_15 : decode cX8_comes 15 = .ok (.getfield 108, 3) := by decide +kernel
theorem dX8_comes_18 : decode cX8_comes 18 = .ok (.iload_n 1, 1) := by decide +kernel
theorem dX8_comes_19 : decode cX8_comes 19 = .ok (.laload, 1) := by decide +kernel
theorem dX8_comes_20 : decode cX8_comes 20 = .ok (.lconst 0, 1) := by decide +kernel
theorem dX8_comes_21 : decode cX8_comes 21 = .ok (.lcmp, 1) := by decide +kernel
theorem dX8_comes_22 : decode cX8_comes 22 = .ok (.ifCond .le 13, 3) := by decide +kernel
theorem dX8_comes_25 : decode cX8_comes 25 = .ok (.aload_n 0, 1) := by decide +kernel
theorem dX8_comes_26 : decode cX8_comes 26 = .ok (.getfield 121, 3) := by decide +kernel
theorem dX8_comes_29 : decode cX8_comes 29 = .ok (.iload_n 1, 1) := by decide +kernel
theorem dX8_comes_30 : decode cX8_comes 30 = .ok (.dup2, 1) := by decide +kernel
theorem dX8_comes_31 : decode cX8_comes 31 = .ok (.laload, 1) := by decide +kernel
theorem dX8_comes_32 : decode cX8_comes 32 = .ok (.lconst 1, 1) := by decide +kernel
theorem dX8_comes_33 : decode cX8_comes 33 = .ok (.ladd, 1) := by decide +kernel
theorem dX8_comes_34 : decode cX8_comes 34 = .ok (.lastore, 1) := by decide +kernel
theorem dX8_comes_35 : decode cX8_comes 35 = .ok (.aload_n 0, 1) := by decide +kernel
theorem dX8_comes_36 : decode cX8_comes 36 = .ok (.getfield 108, 3) := by decide +kernel
theorem dX8_comes_39 : decode cX8_comes 39 = .ok (.iload_n 1, 1) := by decide +kernel
theorem dX8_comes_40 : decode cX8_comes 40 = .ok (.dup2, 1) := by decide +kernel
theorem dX8_comes_41 : decode cX8_comes 41 = .ok (.laload, 1) := by decide +kernel
theorem dX8_comes_42 : decode cX8_comes 42 = .ok (.lconst 1, 1) := by decide +kernel
theorem dX8_comes_43 : decode cX8_comes 43 = .ok (.ladd, 1) := by decide +kernel
theorem dX8_comes_44 : decode cX8_comes 44 = .ok (.lastore, 1) := by decide +kernel
theorem dX8_comes_45 : decode cX8_comes 45 = .ok (.return_, 1) := by decide +kernel
theorem dX8_runStream_0 : decode cX8_runStream 0 = .ok (.aload_n 0, 1) := by decide +kernel
theorem dX8_runStream_1 : decode cX8_runStream 1 = .ok (.getfield 102, 3) := by decide +kernel
theorem dX8_runStream_4 : decode cX8_runStream 4 = .ok (.iload_n 1, 1) := by decide +kernel
theorem dX8_runStream_5 : decode cX8_runStream 5 = .ok (.dup2, 1) := by decide +kernel
theorem dX8_runStream_6 : decode cX8_runStream 6 = .ok (.iaload, 1) := by decide +kernel
theorem dX8_runStream_7 : decode cX8_runStream 7 = .ok (.aload_n 0, 1) := by decide +kernel
theorem dX8_runStream_8 : decode cX8_runStream 8 = .ok (.getfield 16, 3) := by decide +kernel
theorem dX8_runStream_11 : decode cX8_runStream 11 = .ok (.iload_n 1, 1) := by decide +kernel
theorem dX8_runStream_12 : decode cX8_runStream 12 = .ok (.iaload, 1) := by decide +kernel
theorem dX8_runStream_13 : decode cX8_runStream 13 = .ok (.iadd, 1) := by decide +kernel
theorem dX8_runStream_14 : decode cX8_runStream 14 = .ok (.iastore, 1) := by decide +kernel
theorem dX8_runStream_15 : decode cX8_runStream 15 = .ok (.aload_n 0, 1) := by decide +kernel
theorem dX8_runStream_16 : decode cX8_runStream 16 = .ok (.getfield 102, 3) := by decide +kernel
theorem dX8_runStream_19 : decode cX8_runStream 19 = .ok (.iload_n 1, 1) := by decide +kernel
theorem dX8_runStream_20 : decode cX8_runStream 20 = .ok (.iaload, 1) := by decide +kernel
theorem dX8_runStream_21 : decode cX8_runStream 21 = .ok (.sipush 3600, 3) := by decide +kernel
theorem dX8_runStream_24 : decode cX8_runStream 24 = .ok (.if_icmp .lt 21, 3) := by decide +kernel
theorem dX8_runStream_27 : decode cX8_runStream 27 = .ok (.aload_n 0, 1) := by decide +kernel
theorem dX8_runStream_28 : decode cX8_runStream 28 = .ok (.getfield 102, 3) := by decide +kernel
theorem dX8_runStream_31 : decode cX8_runStream 31 = .ok (.iload_n 1, 1) := by decide +kernel
theorem dX8_runStream_32 : decode cX8_runStream 32 = .ok (.dup2, 1) := by decide +kernel
theorem dX8_runStream_33 : decode cX8_runStream 33 = .ok (.iaload, 1) := by decide +kernel
theorem dX8_runStream_34 : decode cX8_runStream 34 = .ok (.sipush 3600, 3) := by decide +kernel
theorem dX8_runStream_37 : decode cX8_runStream 37 = .ok (.isub, 1) := by decide +kernel
theorem dX8_runStream_38 : decode cX8_runStream 38 = .ok (.iastore, 1) := by decide +kernel
theorem dX8_runStream_39 : decode cX8_runStream 39 = .ok (.aload_n 0, 1) := by decide +kernel
theorem dX8_runStream_40 : decode cX8_runStream 40 = .ok (.iload_n 1, 1) := by decide +kernel
theorem dX8_runStream_41 : decode cX8_runStream 41 = .ok (.iload_n 2, 1) := by decide +kernel
theorem dX8_runStream_42 : decode cX8_runStream 42 = .ok (.invokevirtual 247, 3) := by decide +kernel
theorem dX8_runStream_45 : decode cX8_runStream 45 = .ok (.iconst 0, 1) := by decide +kernel
theorem dX8_runStream_46 : decode cX8_runStream 46 = .ok (.istore_n 3, 1) := by decide +kernel
theorem dX8_runStream_47 : decode cX8_runStream 47 = .ok (.iload_n 3, 1) := by decide +kernel
theorem dX8_runStream_48 : decode cX8_runStream 48 = .ok (.bipush 64, 2) := by decide +kernel
theorem dX8_runStream_50 : decode cX8_runStream 50 = .ok (.if_icmp .ge 121, 3) := by decide +kernel
theorem dX8_runStream_53 : decode cX8_runStream 53 = .ok (.aload_n 0, 1) := by decide +kernel
theorem dX8_runStream_54 : decode cX8_runStream 54 = .ok (.getfield 84, 3) := by decide +kernel
theorem dX8_runStream_57 : decode cX8_runStream 57 = .ok (.iload_n 3, 1) := by decide +kernel
theorem dX8_runStream_58 : decode cX8_runStream 58 = .ok (.baload, 1) := by decide +kernel
theorem dX8_runStream_59 : decode cX8_runStream 59 = .ok (.ifCond .eq 106, 3) := by decide +kernel
theorem dX8_runStream_62 : decode cX8_runStream 62 = .ok (.aload_n 0, 1) := by decide +kernel
theorem dX8_runStream_63 : decode cX8_runStream 63 = .ok (.getfield 87, 3) := by decide +kernel
theorem dX8_runStream_66 : decode cX8_runStream 66 = .ok (.iload_n 3, 1) := by decide +kernel
theorem dX8_runStream_67 : decode cX8_runStream 67 = .ok (.iaload, 1) := by decide +kernel
theorem dX8_runStream_68 : decode cX8_runStream 68 = .ok (.iload_n 1, 1) := by decide +kernel
theorem dX8_runStream_69 : decode cX8_runStream 69 = .ok (.if_icmp .eq 6, 3) := by decide +kernel
theorem dX8_runStream_72 : decode cX8_runStream 72 = .ok (.goto 93, 3) := by decide +kernel
theorem dX8_runStream_75 : decode cX8_runStream 75 = .ok (.aload_n 0, 1) := by decide +kernel
theorem dX8_runStream_76 : decode cX8_runStream 76 = .ok (.getfield 96, 3) := by decide +kernel
theorem dX8_runStream_79 : decode cX8_runStream 79 = .ok (.iload_n 3, 1) := by decide +kernel
theorem dX8_runStream_80 : decode cX8_runStream 80 = .ok (.iaload, 1) := by decide +kernel
theorem dX8_runStream_81 : decode cX8_runStream 81 = .ok (.ifCond .le 84, 3) := by decide +kernel
theorem dX8_runStream_84 : decode cX8_runStream 84 = .ok (.aload_n 0, 1) := by decide +kernel
theorem dX8_runStream_85 : decode cX8_runStream 85 = .ok (.getfield 99, 3) := by decide +kernel
theorem dX8_runStream_88 : decode cX8_runStream 88 = .ok (.bipush 60, 2) := by decide +kernel
theorem dX8_runStream_90 : decode cX8_runStream 90 = .ok (.iload_n 3, 1) := by decide +kernel
theorem dX8_runStream_91 : decode cX8_runStream 91 = .ok (.imul, 1) := by decide +kernel
theorem dX8_runStream_92 : decode cX8_runStream 92 = .ok (.iaload, 1) := by decide +kernel
theorem dX8_runStream_93 : decode cX8_runStream 93 = .ok (.aload_n 0, 1) := by decide +kernel
theorem dX8_runStream_94 : decode cX8_runStream 94 = .ok (.getfield 146, 3) := by decide +kernel
theorem dX8_runStream_97 : decode cX8_runStream 97 = .ok (.if_icmp .gt 68, 3) := by decide +kernel
theorem dX8_runStream_100 : decode cX8_runStream 100 = .ok (.aload_n 0, 1) := by decide +kernel
theorem dX8_runStream_101 : decode cX8_runStream 101 = .ok (.getfield 96, 3) := by decide +kernel
theorem dX8_runStream_104 : decode cX8_runStream 104 = .ok (.iload_n 3, 1) := by decide +kernel
theorem dX8_runStream_105 : decode cX8_runStream 105 = .ok (.dup2, 1) := by decide +kernel
theorem dX8_runStream_106 : decode cX8_runStream 106 = .ok (.iaload, 1) := by decide +kernel
theorem dX8_runStream_107 : decode cX8_runStream 107 = .ok (.iconst 1, 1) := by decide +kernel
theorem dX8_runStream_108 : decode cX8_runStream 108 = .ok (.isub, 1) := by decide +kernel
theorem dX8_runStream_109 : decode cX8_runStream 109 = .ok (.iastore, 1) := by decide +kernel
theorem dX8_runStream_110 : decode cX8_runStream 110 = .ok (.iconst 0, 1) := by decide +kernel
theorem dX8_runStream_111 : decode cX8_runStream 111 = .ok (.istore 4, 2) := by decide +kernel
theorem dX8_runStream_113 : decode cX8_runStream 113 = .ok (.iload 4, 2) := by decide +kernel
theorem dX8_runStream_115 : decode cX8_runStream 115 = .ok (.aload_n 0, 1) := by decide +kernel
theorem dX8_runStream_116 : decode cX8_runStream 116 = .ok (.getfield 96, 3) := by decide +kernel
theorem dX8_runStream_119 : decode cX8_runStream 119 = .ok (.iload_n 3, 1) := by decide +kernel
theorem dX8_runStream_120 : decode cX8_runStream 120 = .ok (.iaload, 1) := by decide +kernel
theorem dX8_runStream_121 : decode cX8_runStream 121 = .ok (.if_icmp .ge 35, 3) := by decide +kernel
theorem dX8_runStream_124 : decode cX8_runStream 124 = .ok (.aload_n 0, 1) := by decide +kernel
theorem dX8_runStream_125 : decode cX8_runStream 125 = .ok (.getfield 99, 3) := by decide +kernel
theorem dX8_runStream_128 : decode cX8_runStream 128 = .ok (.bipush 60, 2) := by decide +kernel
theorem dX8_runStream_130 : decode cX8_runStream 130 = .ok (.iload_n 3, 1) := by decide +kernel
theorem dX8_runStream_131 : decode cX8_runStream 131 = .ok (.imul, 1) := by decide +kernel
theorem dX8_runStream_132 : decode cX8_runStream 132 = .ok (.iload 4, 2) := by decide +kernel
theorem dX8_runStream_134 : decode cX8_runStream 134 = .ok (.iadd, 1) := by decide +kernel
theorem dX8_runStream_135 : decode cX8_runStream 135 = .ok (.aload_n 0, 1) := by decide +kernel
theorem dX8_runStream_136 : decode cX8_runStream 136 = .ok (.getfield 99, 3) := by decide +kernel
theorem dX8_runStream_139 : decode cX8_runStream 139 = .ok (.bipush 60, 2) := by decide +kernel
theorem dX8_runStream_141 : decode cX8_runStream 141 = .ok (.iload_n 3, 1) := by decide +kernel
theorem dX8_runStream_142 : decode cX8_runStream 142 = .ok (.imul, 1) := by decide +kernel
theorem dX8_runStream_143 : decode cX8_runStream 143 = .ok (.iload 4, 2) := by decide +kernel
theorem dX8_runStream_145 : decode cX8_runStream 145 = .ok (.iadd, 1) := by decide +kernel
theorem dX8_runStream_146 : decode cX8_runStream 146 = .ok (.iconst 1, 1) := by decide +kernel
theorem dX8_runStream_147 : decode cX8_runStream 147 = .ok (.iadd, 1) := by decide +kernel
theorem dX8_runStream_148 : decode cX8_runStream 148 = .ok (.iaload, 1) := by decide +kernel
theorem dX8_runStream_149 : decode cX8_runStream 149 = .ok (.iastore, 1) := by decide +kernel
theorem dX8_runStream_150 : decode cX8_runStream 150 = .ok (.iinc 4 1, 3) := by decide +kernel
theorem dX8_runStream_153 : decode cX8_runStream 153 = .ok (.goto (-40), 3) := by decide +kernel
theorem dX8_runStream_156 : decode cX8_runStream 156 = .ok (.aload_n 0, 1) := by decide +kernel
theorem dX8_runStream_157 : decode cX8_runStream 157 = .ok (.iload_n 1, 1) := by decide +kernel
theorem dX8_runStream_158 : decode cX8_runStream 158 = .ok (.iload_n 2, 1) := by decide +kernel
theorem dX8_runStream_159 : decode cX8_runStream 159 = .ok (.invokevirtual 247, 3) := by decide +kernel
theorem dX8_runStream_162 : decode cX8_runStream 162 = .ok (.goto (-87), 3) := by decide +kernel
theorem dX8_runStream_165 : decode cX8_runStream 165 = .ok (.iinc 3 1, 3) := by decide +kernel
theorem dX8_runStream_168 : decode cX8_runStream 168 = .ok (.goto (-121), 3) := by decide +kernel
theorem dX8_runStream_171 : decode cX8_runStream 171 = .ok (.aload_n 0, 1) := by decide +kernel
theorem dX8_runStream_172 : decode cX8_runStream 172 = .ok (.getfield 105, 3) := by decide +kernel
theorem dX8_runStream_175 : decode cX8_runStream 175 = .ok (.iload_n 1, 1) := by decide +kernel
theorem dX8_runStream_176 : decode cX8_runStream 176 = .ok (.iload_n 2, 1) := by decide +kernel
theorem dX8_runStream_177 : decode cX8_runStream 177 = .ok (.ifCond .eq 19, 3) := by decide +kernel
theorem dX8_runStream_180 : decode cX8_runStream 180 = .ok (.aload_n 0, 1) := by decide +kernel
theorem dX8_runStream_181 : decode cX8_runStream 181 = .ok (.getfield 105, 3) := by decide +kernel
theorem dX8_runStream_184 : decode cX8_runStream 184 = .ok (.iload_n 1, 1) := by decide +kernel
theorem dX8_runStream_185 : decode cX8_runStream 185 = .ok (.iaload, 1) := by decide +kernel
theorem dX8_runStream_186 : decode cX8_runStream 186 = .ok (.aload_n 0, 1) := by decide +kernel
theorem dX8_runStream_187 : decode cX8_runStream 187 = .ok (.getfield 19, 3) := by decide +kernel
theorem dX8_runStream_190 : decode cX8_runStream 190 = .ok (.iload_n 1, 1) := by decide +kernel
theorem dX8_runStream_191 : decode cX8_runStream 191 = .ok (.iaload, 1) := by decide +kernel
theorem dX8_runStream_192 : decode cX8_runStream 192 = .ok (.iadd, 1) := by decide +kernel
theorem dX8_runStream_193 : decode cX8_runStream 193 = .ok (.goto 4, 3) := by decide +kernel
theorem dX8_runStream_196 : decode cX8_runStream 196 = .ok (.iconst 0, 1) := by decide +kernel
theorem dX8_runStream_197 : decode cX8_runStream 197 = .ok (.iastore, 1) := by decide +kernel
theorem dX8_runStream_198 : decode cX8_runStream 198 = .ok (.aload_n 0, 1) := by decide +kernel
theorem dX8_runStream_199 : decode cX8_runStream 199 = .ok (.getfield 105, 3) := by decide +kernel
theorem dX8_runStream_202 : decode cX8_runStream 202 = .ok (.iload_n 1, 1) := by decide +kernel
theorem dX8_runStream_203 : decode cX8_runStream 203 = .ok (.iaload, 1) := by decide +kernel
theorem dX8_runStream_204 : decode cX8_runStream 204 = .ok (.sipush 3600, 3) := by decide +kernel
theorem dX8_runStream_207 : decode cX8_runStream 207 = .ok (.if_icmp .lt 100, 3) := by decide +kernel
theorem dX8_runStream_210 : decode cX8_runStream 210 = .ok (.aload_n 0, 1) := by decide +kernel
theorem dX8_runStream_211 : decode cX8_runStream 211 = .ok (.getfield 108, 3) := by decide +kernel
theorem dX8_runStream_214 : decode cX8_runStream 214 = .ok (.iload_n 1, 1) := by decide +kernel
theorem dX8_runStream_215 : decode cX8_runStream 215 = .ok (.laload, 1) := by decide +kernel
theorem dX8_runStream_216 : decode cX8_runStream 216 = .ok (.lconst 0, 1) := by decide +kernel
theorem dX8_runStream_217 : decode cX8_runStream 217 = .ok (.lcmp, 1) := by decide +kernel
theorem dX8_runStream_218 : decode cX8_runStream 218 = .ok (.ifCond .le 89, 3) := by decide +kernel
theorem dX8_runStream_221 : decode cX8_runStream 221 = .ok (.aload_n 0, 1) := by decide +kernel
theorem dX8_runStream_222 : decode cX8_runStream 222 = .ok (.iload_n 1, 1) := by decide +kernel
theorem dX8_runStream_223 : decode cX8_runStream 223 = .ok (.invokevirtual 250, 3) := by decide +kernel
theorem dX8_runStream_226 : decode cX8_runStream 226 = .ok (.ifCond .ne 81, 3) := by decide +kernel
theorem dX8_runStream_229 : decode cX8_runStream 229 = .ok (.aload_n 0, 1) := by decide +kernel
theorem dX8_runStream_230 : decode cX8_runStream 230 = .ok (.getfield 105, 3) := by decide +kernel
theorem dX8_runStream_233 : decode cX8_runStream 233 = .ok (.iload_n 1, 1) := by decide +kernel
theorem dX8_runStream_234 : decode cX8_runStream 234 = .ok (.dup2, 1) := by decide +kernel
theorem dX8_runStream_235 : decode cX8_runStream 235 = .ok (.iaload, 1) := by decide +kernel
theorem dX8_runStream_236 : decode cX8_runStream 236 = .ok (.sipush 3600, 3) := by decide +kernel
theorem dX8_runStream_239 : decode cX8_runStream 239 = .ok (.isub, 1) := by decide +kernel
theorem dX8_runStream_240 : decode cX8_runStream 240 = .ok (.iastore, 1) := by decide +kernel
theorem dX8_runStream_241 : decode cX8_runStream 241 = .ok (.aload_n 0, 1) := by decide +kernel
theorem dX8_runStream_242 : decode cX8_runStream 242 = .ok (.getfield 108, 3) := by decide +kernel
theorem dX8_runStream_245 : decode cX8_runStream 245 = .ok (.iload_n 1, 1) := by decide +kernel
theorem dX8_runStream_246 : decode cX8_runStream 246 = .ok (.dup2, 1) := by decide +kernel
theorem dX8_runStream_247 : decode cX8_runStream 247 = .ok (.laload, 1) := by decide +kernel
theorem dX8_runStream_248 : decode cX8_runStream 248 = .ok (.lconst 1, 1) := by decide +kernel
theorem dX8_runStream_249 : decode cX8_runStream 249 = .ok (.lsub, 1) := by decide +kernel
theorem dX8_runStream_250 : decode cX8_runStream 250 = .ok (.lastore, 1) := by decide +kernel
theorem dX8_runStream_251 : decode cX8_runStream 251 = .ok (.aload_n 0, 1) := by decide +kernel
theorem dX8_runStream_252 : decode cX8_runStream 252 = .ok (.getfield 115, 3) := by decide +kernel
theorem dX8_runStream_255 : decode cX8_runStream 255 = .ok (.iload_n 1, 1) := by decide +kernel
theorem dX8_runStream_256 : decode cX8_runStream 256 = .ok (.dup2, 1) := by decide +kernel
theorem dX8_runStream_257 : decode cX8_runStream 257 = .ok (.laload, 1) := by decide +kernel
theorem dX8_runStream_258 : decode cX8_runStream 258 = .ok (.lconst 1, 1) := by decide +kernel
theorem dX8_runStream_259 : decode cX8_runStream 259 = .ok (.ladd, 1) := by decide +kernel
theorem dX8_runStream_260 : decode cX8_runStream 260 = .ok (.lastore, 1) := by decide +kernel
theorem dX8_runStream_261 : decode cX8_runStream 261 = .ok (.aload_n 0, 1) := by decide +kernel
theorem dX8_runStream_262 : decode cX8_runStream 262 = .ok (.getfield 84, 3) := by decide +kernel
theorem dX8_runStream_265 : decode cX8_runStream 265 = .ok (.iload_n 1, 1) := by decide +kernel
theorem dX8_runStream_266 : decode cX8_runStream 266 = .ok (.baload, 1) := by decide +kernel
theorem dX8_runStream_267 : decode cX8_runStream 267 = .ok (.ifCond .eq 40, 3) := by decide +kernel
theorem dX8_runStream_270 : decode cX8_runStream 270 = .ok (.aload_n 0, 1) := by decide +kernel
theorem dX8_runStream_271 : decode cX8_runStream 271 = .ok (.getfield 99, 3) := by decide +kernel
theorem dX8_runStream_274 : decode cX8_runStream 274 = .ok (.bipush 60, 2) := by decide +kernel
theorem dX8_runStream_276 : decode cX8_runStream 276 = .ok (.iload_n 1, 1) := by decide +kernel
theorem dX8_runStream_277 : decode cX8_runStream 277 = .ok (.imul, 1) := by decide +kernel
theorem dX8_runStream_278 : decode cX8_runStream 278 = .ok (.aload_n 0, 1) := by decide +kernel
theorem dX8_runStream_279 : decode cX8_runStream 279 = .ok (.getfield 96, 3) := by decide +kernel
theorem dX8_runStream_282 : decode cX8_runStream 282 = .ok (.iload_n 1, 1) := by decide +kernel
theorem dX8_runStream_283 : decode cX8_runStream 283 = .ok (.iaload, 1) := by decide +kernel
theorem dX8_runStream_284 : decode cX8_runStream 284 = .ok (.iadd, 1) := by decide +kernel
theorem dX8_runStream_285 : decode cX8_runStream 285 = .ok (.aload_n 0, 1) := by decide +kernel
theorem dX8_runStream_286 : decode cX8_runStream 286 = .ok (.getfield 146, 3) := by decide +kernel
theorem dX8_runStream_289 : decode cX8_runStream 289 = .ok (.aload_n 0, 1) := by decide +kernel
theorem dX8_runStream_290 : decode cX8_runStream 290 = .ok (.getfield 90, 3) := by decide +kernel
theorem dX8_runStream_293 : decode cX8_runStream 293 = .ok (.iload_n 1, 1) := by decide +kernel
theorem dX8_runStream_294 : decode cX8_runStream 294 = .ok (.iaload, 1) := by decide +kernel
theorem dX8_runStream_295 : decode cX8_runStream 295 = .ok (.iadd, 1) := by decide +kernel
theorem dX8_runStream_296 : decode cX8_runStream 296 = .ok (.iastore, 1) := by decide +kernel
theorem dX8_runStream_297 : decode cX8_runStream 297 = .ok (.aload_n 0, 1) := by decide +kernel
theorem dX8_runStream_298 : decode cX8_runStream 298 = .ok (.getfield 96, 3) := by decide +kernel
theorem dX8_runStream_301 : decode cX8_runStream 301 = .ok (.iload_n 1, 1) := by decide +kernel
theorem dX8_runStream_302 : decode cX8_runStream 302 = .ok (.dup2, 1) := by decide +kernel
theorem dX8_runStream_303 : decode cX8_runStream 303 = .ok (.iaload, 1) := by decide +kernel
theorem dX8_runStream_304 : decode cX8_runStream 304 = .ok (.iconst 1, 1) := by decide +kernel
theorem dX8_runStream_305 : decode cX8_runStream 305 = .ok (.iadd, 1) := by decide +kernel
theorem dX8_runStream_306 : decode cX8_runStream 306 = .ok (.iastore, 1) := by decide +kernel
theorem dX8_runStream_307 : decode cX8_runStream 307 = .ok (.aload_n 0, 1) := by decide +kernel
theorem dX8_runStream_308 : decode cX8_runStream 308 = .ok (.getfield 105, 3) := by decide +kernel
theorem dX8_runStream_311 : decode cX8_runStream 311 = .ok (.iload_n 1, 1) := by decide +kernel
theorem dX8_runStream_312 : decode cX8_runStream 312 = .ok (.aload_n 0, 1) := by decide +kernel
theorem dX8_runStream_313 : decode cX8_runStream 313 = .ok (.getfield 105, 3) := by decide +kernel
theorem dX8_runStream_316 : decode cX8_runStream 316 = .ok (.iload_n 1, 1) := by decide +kernel
theorem dX8_runStream_317 : decode cX8_runStream 317 = .ok (.iaload, 1) := by decide +kernel
theorem dX8_runStream_318 : decode cX8_runStream 318 = .ok (.sipush 3600, 3) := by decide +kernel
theorem dX8_runStream_321 : decode cX8_runStream 321 = .ok (.invokestatic 212, 3) := by decide +kernel
theorem dX8_runStream_324 : decode cX8_runStream 324 = .ok (.iastore, 1) := by decide +kernel
theorem dX8_runStream_325 : decode cX8_runStream 325 = .ok (.aload_n 0, 1) := by decide +kernel
theorem dX8_runStream_326 : decode cX8_runStream 326 = .ok (.getfield 118, 3) := by decide +kernel
theorem dX8_runStream_329 : decode cX8_runStream 329 = .ok (.iload_n 1, 1) := by decide +kernel
theorem dX8_runStream_330 : decode cX8_runStream 330 = .ok (.dup2, 1) := by decide +kernel
theorem dX8_runStream_331 : decode cX8_runStream 331 = .ok (.laload, 1) := by decide +kernel
theorem dX8_runStream_332 : decode cX8_runStream 332 = .ok (.aload_n 0, 1) := by decide +kernel
theorem dX8_runStream_333 : decode cX8_runStream 333 = .ok (.getfield 108, 3) := by decide +kernel
theorem dX8_runStream_336 : decode cX8_runStream 336 = .ok (.iload_n 1, 1) := by decide +kernel
theorem dX8_runStream_337 : decode cX8_runStream 337 = .ok (.laload, 1) := by decide +kernel
theorem dX8_runStream_338 : decode cX8_runStream 338 = .ok (.ladd, 1) := by decide +kernel
theorem dX8_runStream_339 : decode cX8_runStream 339 = .ok (.lastore, 1) := by decide +kernel
theorem dX8_runStream_340 : decode cX8_runStream 340 = .ok (.aload_n 0, 1) := by decide +kernel
theorem dX8_runStream_341 : decode cX8_runStream 341 = .ok (.getfield 124, 3) := by decide +kernel
theorem dX8_runStream_344 : decode cX8_runStream 344 = .ok (.iload_n 1, 1) := by decide +kernel
theorem dX8_runStream_345 : decode cX8_runStream 345 = .ok (.aload_n 0, 1) := by decide +kernel
theorem dX8_runStream_346 : decode cX8_runStream 346 = .ok (.getfield 124, 3) := by decide +kernel
theorem dX8_runStream_349 : decode cX8_runStream 349 = .ok (.iload_n 1, 1) := by decide +kernel
theorem dX8_runStream_350 : decode cX8_runStream 350 = .ok (.laload, 1) := by decide +kernel
theorem dX8_runStream_351 : decode cX8_runStream 351 = .ok (.aload_n 0, 1) := by decide +kernel
theorem dX8_runStream_352 : decode cX8_runStream 352 = .ok (.getfield 108, 3) := by decide +kernel
theorem dX8_runStream_355 : decode cX8_runStream 355 = .ok (.iload_n 1, 1) := by decide +kernel
theorem dX8_runStream_356 : decode cX8_runStream 356 = .ok (.laload, 1) := by decide +kernel
theorem dX8_runStream_357 : decode cX8_runStream 357 = .ok (.invokestatic 253, 3) := by decide +kernel
theorem dX8_runStream_360 : decode cX8_runStream 360 = .ok (.lastore, 1) := by decide +kernel
theorem dX8_runStream_361 : decode cX8_runStream 361 = .ok (.aload_n 0, 1) := by decide +kernel
theorem dX8_runStream_362 : decode cX8_runStream 362 = .ok (.getfield 127, 3) := by decide +kernel
theorem dX8_runStream_365 : decode cX8_runStream 365 = .ok (.iload_n 1, 1) := by decide +kernel
theorem dX8_runStream_366 : decode cX8_runStream 366 = .ok (.iload_n 2, 1) := by decide +kernel
theorem dX8_runStream_367 : decode cX8_runStream 367 = .ok (.bastore, 1) := by decide +kernel
theorem dX8_runStream_368 : decode cX8_runStream 368 = .ok (.return_, 1) := by decide +kernel
theorem dX8_isFull_0 : decode cX8_isFull 0 = .ok (.aload_n 0, 1) := by decide +kernel
theorem dX8_isFull_1 : decode cX8_isFull 1 = .ok (.getfield 84, 3) := by decide +kernel
theorem dX8_isFull_4 : decode cX8_isFull 4 = .ok (.iload_n 1, 1) := by decide +kernel
theorem dX8_isFull_5 : decode cX8_isFull 5 = .ok (.baload, 1) := by decide +kernel
theorem dX8_isFull_6 : decode cX8_isFull 6 = .ok (.ifCond .eq 37, 3) := by decide +kernel
theorem dX8_isFull_9 : decode cX8_isFull 9 = .ok (.aload_n 0, 1) := by decide +kernel
theorem dX8_isFull_10 : decode cX8_isFull 10 = .ok (.getfield 96, 3) := by decide +kernel
theorem dX8_isFull_13 : decode cX8_isFull 13 = .ok (.iload_n 1, 1) := by decide +kernel
theorem dX8_isFull_14 : decode cX8_isFull 14 = .ok (.iaload, 1) := by decide +kernel
theorem dX8_isFull_15 : decode cX8_isFull 15 = .ok (.i2l, 1) := by decide +kernel
theorem dX8_isFull_16 : decode cX8_isFull 16 = .ok (.aload_n 0, 1) := by decide +kernel
theorem dX8_isFull_17 : decode cX8_isFull 17 = .ok (.getfield 108, 3) := by decide +kernel
theorem dX8_isFull_20 : decode cX8_isFull 20 = .ok (.aload_n 0, 1) := by decide +kernel
theorem dX8_isFull_21 : decode cX8_isFull 21 = .ok (.getfield 87, 3) := by decide +kernel
theorem dX8_isFull_24 : decode cX8_isFull 24 = .ok (.iload_n 1, 1) := by decide +kernel
theorem dX8_isFull_25 : decode cX8_isFull 25 = .ok (.iaload, 1) := by decide +kernel
theorem dX8_isFull_26 : decode cX8_isFull 26 = .ok (.laload, 1) := by decide +kernel
theorem dX8_isFull_27 : decode cX8_isFull 27 = .ok (.ladd, 1) := by decide +kernel
theorem dX8_isFull_28 : decode cX8_isFull 28 = .ok (.aload_n 0, 1) := by decide +kernel
theorem dX8_isFull_29 : decode cX8_isFull 29 = .ok (.getfield 93, 3) := by decide +kernel
theorem dX8_isFull_32 : decode cX8_isFull 32 = .ok (.iload_n 1, 1) := by decide +kernel
theorem dX8_isFull_33 : decode cX8_isFull 33 = .ok (.iaload, 1) := by decide +kernel
theorem dX8_isFull_34 : decode cX8_isFull 34 = .ok (.i2l, 1) := by decide +kernel
theorem dX8_isFull_35 : decode cX8_isFull 35 = .ok (.lcmp, 1) := by decide +kernel
theorem dX8_isFull_36 : decode cX8_isFull 36 = .ok (.ifCond .lt 7, 3) := by decide +kernel
theorem dX8_isFull_39 : decode cX8_isFull 39 = .ok (.iconst 1, 1) := by decide +kernel
theorem dX8_isFull_40 : decode cX8_isFull 40 = .ok (.goto 4, 3) := by decide +kernel
theorem dX8_isFull_43 : decode cX8_isFull 43 = .ok (.iconst 0, 1) := by decide +kernel
theorem dX8_isFull_44 : decode cX8_isFull 44 = .ok (.ireturn, 1) := by decide +kernel
theorem dX8_queue_0 : decode cX8_queue 0 = .ok (.aload_n 0, 1) := by decide +kernel
theorem dX8_queue_1 : decode cX8_queue 1 = .ok (.iload_n 1, 1) := by decide +kernel
theorem dX8_queue_2 : decode cX8_queue 2 = .ok (.iload_n 2, 1) := by decide +kernel
theorem dX8_queue_3 : decode cX8_queue 3 = .ok (.invokevirtual 169, 3) := by decide +kernel
theorem dX8_queue_6 : decode cX8_queue 6 = .ok (.ifCond .ne 7, 3) := by decide +kernel
theorem dX8_queue_9 : decode cX8_queue 9 = .ok (.ldc2_w 256, 3) := by decide +kernel
theorem dX8_queue_12 : decode cX8_queue 12 = .ok (.lreturn, 1) := by decide +kernel
theorem dX8_queue_13 : decode cX8_queue 13 = .ok (.bipush 8, 2) := by decide +kernel
theorem dX8_queue_15 : decode cX8_queue 15 = .ok (.iload_n 1, 1) := by decide +kernel
theorem dX8_queue_16 : decode cX8_queue 16 = .ok (.imul, 1) := by decide +kernel
theorem dX8_queue_17 : decode cX8_queue 17 = .ok (.iload_n 2, 1) := by decide +kernel
theorem dX8_queue_18 : decode cX8_queue 18 = .ok (.iadd, 1) := by decide +kernel
theorem dX8_queue_19 : decode cX8_queue 19 = .ok (.istore 4, 2) := by decide +kernel
theorem dX8_queue_21 : decode cX8_queue 21 = .ok (.iload_n 3, 1) := by decide +kernel
theorem dX8_queue_22 : decode cX8_queue 22 = .ok (.tableswitch 187 0 11 #[62, 70, 78, 86, 94, 102, 110, 135, 144, 153, 162, 171], 62) := by decide +kernel
theorem dX8_queue_84 : decode cX8_queue 84 = .ok (.aload_n 0, 1) := by decide +kernel
theorem dX8_queue_85 : decode cX8_queue 85 = .ok (.getfield 108, 3) := by decide +kernel
theorem dX8_queue_88 : decode cX8_queue 88 = .ok (.iload 4, 2) := by decide +kernel
theorem dX8_queue_90 : decode cX8_queue 90 = .ok (.laload, 1) := by decide +kernel
theorem dX8_queue_91 : decode cX8_queue 91 = .ok (.lreturn, 1) := by decide +kernel
theorem dX8_queue_92 : decode cX8_queue 92 = .ok (.aload_n 0, 1) := by decide +kernel
theorem dX8_queue_93 : decode cX8_queue 93 = .ok (.getfield 112, 3) := by decide +kernel
theorem dX8_queue_96 : decode cX8_queue 96 = .ok (.iload 4, 2) := by decide +kernel
theorem dX8_queue_98 : decode cX8_queue 98 = .ok (.laload, 1) := by decide +kernel
theorem dX8_queue_99 : decode cX8_queue 99 = .ok (.lreturn, 1) := by decide +kernel
theorem dX8_queue_100 : decode cX8_queue 100 = .ok (.aload_n 0, 1) := by decide +kernel
theorem dX8_queue_101 : decode cX8_queue 101 = .ok (.getfield 115, 3) := by decide +kernel
theorem dX8_queue_104 : decode cX8_queue 104 = .ok (.iload 4, 2) := by decide +kernel
theorem dX8_queue_106 : decode cX8_queue 106 = .ok (.laload, 1) := by decide +kernel
theorem dX8_queue_107 : decode cX8_queue 107 = .ok (.lreturn, 1) := by decide +kernel
theorem dX8_queue_108 : decode cX8_queue 108 = .ok (.aload_n 0, 1) := by decide +kernel
theorem dX8_queue_109 : decode cX8_queue 109 = .ok (.getfield 118, 3) := by decide +kernel
theorem dX8_queue_112 : decode cX8_queue 112 = .ok (.iload 4, 2) := by decide +kernel
theorem dX8_queue_114 : decode cX8_queue 114 = .ok (.laload, 1) := by decide +kernel
theorem dX8_queue_115 : decode cX8_queue 115 = .ok (.lreturn, 1) := by decide +kernel
theorem dX8_queue_116 : decode cX8_queue 116 = .ok (.aload_n 0, 1) := by decide +kernel
theorem dX8_queue_117 : decode cX8_queue 117 = .ok (.getfield 121, 3) := by decide +kernel
theorem dX8_queue_120 : decode cX8_queue 120 = .ok (.iload 4, 2) := by decide +kernel
theorem dX8_queue_122 : decode cX8_queue 122 = .ok (.laload, 1) := by decide +kernel
theorem dX8_queue_123 : decode cX8_queue 123 = .ok (.lreturn, 1) := by decide +kernel
theorem dX8_queue_124 : decode cX8_queue 124 = .ok (.aload_n 0, 1) := by decide +kernel
theorem dX8_queue_125 : decode cX8_queue 125 = .ok (.getfield 124, 3) := by decide +kernel
theorem dX8_queue_128 : decode cX8_queue 128 = .ok (.iload 4, 2) := by decide +kernel
theorem dX8_queue_130 : decode cX8_queue 130 = .ok (.laload, 1) := by decide +kernel
theorem dX8_queue_131 : decode cX8_queue 131 = .ok (.lreturn, 1) := by decide +kernel
theorem dX8_queue_132 : decode cX8_queue 132 = .ok (.aload_n 0, 1) := by decide +kernel
theorem dX8_queue_133 : decode cX8_queue 133 = .ok (.getfield 84, 3) := by decide +kernel
theorem dX8_queue_136 : decode cX8_queue 136 = .ok (.iload 4, 2) := by decide +kernel
theorem dX8_queue_138 : decode cX8_queue 138 = .ok (.baload, 1) := by decide +kernel
theorem dX8_queue_139 : decode cX8_queue 139 = .ok (.ifCond .eq 14, 3) := by decide +kernel
theorem dX8_queue_142 : decode cX8_queue 142 = .ok (.aload_n 0, 1) := by decide +kernel
theorem dX8_queue_143 : decode cX8_queue 143 = .ok (.getfield 96, 3) := by decide +kernel
theorem dX8_queue_146 : decode cX8_queue 146 = .ok (.iload 4, 2) := by decide +kernel
theorem dX8_queue_148 : decode cX8_queue 148 = .ok (.iaload, 1) := by decide +kernel
theorem dX8_queue_149 : decode cX8_queue 149 = .ok (.i2l, 1) := by decide +kernel
theorem dX8_queue_150 : decode cX8_queue 150 = .ok (.goto 6, 3) := by decide +kernel
theorem dX8_queue_153 : decode cX8_queue 153 = .ok (.ldc2_w 256, 3) := by decide +kernel
theorem dX8_queue_156 : decode cX8_queue 156 = .ok (.lreturn, 1) := by decide +kernel
theorem dX8_queue_157 : decode cX8_queue 157 = .ok (.aload_n 0, 1) := by decide +kernel
theorem dX8_queue_158 : decode cX8_queue 158 = .ok (.getfield 13, 3) := by decide +kernel
theorem dX8_queue_161 : decode cX8_queue 161 = .ok (.iload 4, 2) := by decide +kernel
theorem dX8_queue_163 : decode cX8_queue 163 = .ok (.iaload, 1) := by decide +kernel
theorem dX8_queue_164 : decode cX8_queue 164 = .ok (.i2l, 1) := by decide +kernel
theorem dX8_queue_165 : decode cX8_queue 165 = .ok (.lreturn, 1) := by decide +kernel
theorem dX8_queue_166 : decode cX8_queue 166 = .ok (.aload_n 0, 1) := by decide +kernel
theorem dX8_queue_167 : decode cX8_queue 167 = .ok (.getfield 19, 3) := by decide +kernel
theorem dX8_queue_170 : decode cX8_queue 170 = .ok (.iload 4, 2) := by decide +kernel
theorem dX8_queue_172 : decode cX8_queue 172 = .ok (.iaload, 1) := by decide +kernel
theorem dX8_queue_173 : decode cX8_queue 173 = .ok (.i2l, 1) := by decide +kernel
theorem dX8_queue_174 : decode cX8_queue 174 = .ok (.lreturn, 1) := by decide +kernel
theorem dX8_queue_175 : decode cX8_queue 175 = .ok (.aload_n 0, 1) := by decide +kernel
theorem dX8_queue_176 : decode cX8_queue 176 = .ok (.getfield 22, 3) := by decide +kernel
theorem dX8_queue_179 : decode cX8_queue 179 = .ok (.iload 4, 2) := by decide +kernel
theorem dX8_queue_181 : decode cX8_queue 181 = .ok (.iaload, 1) := by decide +kernel
theorem dX8_queue_182 : decode cX8_queue 182 = .ok (.i2l, 1) := by decide +kernel
theorem dX8_queue_183 : decode cX8_queue 183 = .ok (.lreturn, 1) := by decide +kernel
theorem dX8_queue_184 : decode cX8_queue 184 = .ok (.aload_n 0, 1) := by decide +kernel
theorem dX8_queue_185 : decode cX8_queue 185 = .ok (.getfield 16, 3) := by decide +kernel
theorem dX8_queue_188 : decode cX8_queue 188 = .ok (.iload 4, 2) := by decide +kernel
theorem dX8_queue_190 : decode cX8_queue 190 = .ok (.iaload, 1) := by decide +kernel
theorem dX8_queue_191 : decode cX8_queue 191 = .ok (.i2l, 1) := by decide +kernel
theorem dX8_queue_192 : decode cX8_queue 192 = .ok (.lreturn, 1) := by decide +kernel
theorem dX8_queue_193 : decode cX8_queue 193 = .ok (.aload_n 0, 1) := by decide +kernel
theorem dX8_queue_194 : decode cX8_queue 194 = .ok (.getfield 127, 3) := by decide +kernel
theorem dX8_queue_197 : decode cX8_queue 197 = .ok (.iload 4, 2) := by decide +kernel
theorem dX8_queue_199 : decode cX8_queue 199 = .ok (.baload, 1) := by decide +kernel
theorem dX8_queue_200 : decode cX8_queue 200 = .ok (.ifCond .eq 7, 3) := by decide +kernel
theorem dX8_queue_203 : decode cX8_queue 203 = .ok (.lconst 1, 1) := by decide +kernel
theorem dX8_queue_204 : decode cX8_queue 204 = .ok (.goto 4, 3) := by decide +kernel
theorem dX8_queue_207 : decode cX8_queue 207 = .ok (.lconst 0, 1) := by decide +kernel
theorem dX8_queue_208 : decode cX8_queue 208 = .ok (.lreturn, 1) := by decide +kernel
theorem dX8_queue_209 : decode cX8_queue 209 = .ok (.ldc2_w 256, 3) := by decide +kernel
theorem dX8_queue_212 : decode cX8_queue 212 = .ok (.lreturn, 1) := by decide +kernel
theorem dX8_count_0 : decode cX8_count 0 = .ok (.iload_n 1, 1) := by decide +kernel
theorem dX8_count_1 : decode cX8_count 1 = .ok (.ifCond .ne 8, 3) := by decide +kernel
theorem dX8_count_4 : decode cX8_count 4 = .ok (.aload_n 0, 1) := by decide +kernel
theorem dX8_count_5 : decode cX8_count 5 = .ok (.getfield 139, 3) := by decide +kernel
theorem dX8_count_8 : decode cX8_count 8 = .ok (.ireturn, 1) := by decide +kernel
theorem dX8_count_9 : decode cX8_count 9 = .ok (.iload_n 1, 1) := by decide +kernel
theorem dX8_count_10 : decode cX8_count 10 = .ok (.iconst 1, 1) := by decide +kernel
theorem dX8_count_11 : decode cX8_count 11 = .ok (.if_icmp .ne 8, 3) := by decide +kernel
theorem dX8_count_14 : decode cX8_count 14 = .ok (.aload_n 0, 1) := by decide +kernel
theorem dX8_count_15 : decode cX8_count 15 = .ok (.getfield 146, 3) := by decide +kernel
theorem dX8_count_18 : decode cX8_count 18 = .ok (.ireturn, 1) := by decide +kernel
theorem dX8_count_19 : decode cX8_count 19 = .ok (.iload_n 1, 1) := by decide +kernel
theorem dX8_count_20 : decode cX8_count 20 = .ok (.iconst 2, 1) := by decide +kernel
theorem dX8_count_21 : decode cX8_count 21 = .ok (.if_icmp .eq 5, 3) := by decide +kernel
theorem dX8_count_24 : decode cX8_count 24 = .ok (.iconst (-1), 1) := by decide +kernel
theorem dX8_count_25 : decode cX8_count 25 = .ok (.ireturn, 1) := by decide +kernel
theorem dX8_count_26 : decode cX8_count 26 = .ok (.iconst 0, 1) := by decide +kernel
theorem dX8_count_27 : decode cX8_count 27 = .ok (.istore_n 2, 1) := by decide +kernel
theorem dX8_count_28 : decode cX8_count 28 = .ok (.iconst 0, 1) := by decide +kernel
theorem dX8_count_29 : decode cX8_count 29 = .ok (.istore_n 3, 1) := by decide +kernel
theorem dX8_count_30 : decode cX8_count 30 = .ok (.iload_n 3, 1) := by decide +kernel
theorem dX8_count_31 : decode cX8_count 31 = .ok (.aload_n 0, 1) := by decide +kernel
theorem dX8_count_32 : decode cX8_count 32 = .ok (.getfield 139, 3) := by decide +kernel
theorem dX8_count_35 : decode cX8_count 35 = .ok (.if_icmp .ge 26, 3) := by decide +kernel
theorem dX8_count_38 : decode cX8_count 38 = .ok (.iload_n 2, 1) := by decide +kernel
theorem dX8_count_39 : decode cX8_count 39 = .ok (.aload_n 0, 1) := by decide +kernel
theorem dX8_count_40 : decode cX8_count 40 = .ok (.getfield 56, 3) := by decide +kernel
theorem dX8_count_43 : decode cX8_count 43 = .ok (.iload_n 3, 1) := by decide +kernel
theorem dX8_count_44 : decode cX8_count 44 = .ok (.baload, 1) := by decide +kernel
theorem dX8_count_45 : decode cX8_count 45 = .ok (.ifCond .eq 7, 3) := by decide +kernel
theorem dX8_count_48 : decode cX8_count 48 = .ok (.iconst 1, 1) := by decide +kernel
theorem dX8_count_49 : decode cX8_count 49 = .ok (.goto 4, 3) := by decide +kernel
theorem dX8_count_52 : decode cX8_count 52 = .ok (.iconst 0, 1) := by decide +kernel
theorem dX8_count_53 : decode cX8_count 53 = .ok (.iadd, 1) := by decide +kernel
theorem dX8_count_54 : decode cX8_count 54 = .ok (.istore_n 2, 1) := by decide +kernel
theorem dX8_count_55 : decode cX8_count 55 = .ok (.iinc 3 1, 3) := by decide +kernel
theorem dX8_count_58 : decode cX8_count 58 = .ok (.goto (-28), 3) := by decide +kernel
theorem dX8_count_61 : decode cX8_count 61 = .ok (.iload_n 2, 1) := by decide +kernel
theorem dX8_count_62 : decode cX8_count 62 = .ok (.ireturn, 1) := by decide +kernel
theorem dX8_flashes_0 : decode cX8_flashes 0 = .ok (.aload_n 0, 1) := by decide +kernel
theorem dX8_flashes_1 : decode cX8_flashes 1 = .ok (.iload_n 1, 1) := by decide +kernel
theorem dX8_flashes_2 : decode cX8_flashes 2 = .ok (.invokevirtual 142, 3) := by decide +kernel
theorem dX8_flashes_5 : decode cX8_flashes 5 = .ok (.ifCond .eq 16, 3) := by decide +kernel
theorem dX8_flashes_8 : decode cX8_flashes 8 = .ok (.aload_n 0, 1) := by decide +kernel
theorem dX8_flashes_9 : decode cX8_flashes 9 = .ok (.getfield 56, 3) := by decide +kernel
theorem dX8_flashes_12 : decode cX8_flashes 12 = .ok (.iload_n 1, 1) := by decide +kernel
theorem dX8_flashes_13 : decode cX8_flashes 13 = .ok (.baload, 1) := by decide +kernel
theorem dX8_flashes_14 : decode cX8_flashes 14 = .ok (.ifCond .eq 7, 3) := by decide +kernel
theorem dX8_flashes_17 : decode cX8_flashes 17 = .ok (.iconst 1, 1) := by decide +kernel
theorem dX8_flashes_18 : decode cX8_flashes 18 = .ok (.goto 4, 3) := by decide +kernel
theorem dX8_flashes_21 : decode cX8_flashes 21 = .ok (.iconst 0, 1) := by decide +kernel
theorem dX8_flashes_22 : decode cX8_flashes 22 = .ok (.ireturn, 1) := by decide +kernel
theorem dX8_isWay_0 : decode cX8_isWay 0 = .ok (.aload_n 0, 1) := by decide +kernel
theorem dX8_isWay_1 : decode cX8_isWay 1 = .ok (.iload_n 3, 1) := by decide +kernel
theorem dX8_isWay_2 : decode cX8_isWay 2 = .ok (.iconst (-1), 1) := by decide +kernel
theorem dX8_isWay_3 : decode cX8_isWay 3 = .ok (.if_icmp .ne 7, 3) := by decide +kernel
theorem dX8_isWay_6 : decode cX8_isWay 6 = .ok (.iconst 2, 1) := by decide +kernel
theorem dX8_isWay_7 : decode cX8_isWay 7 = .ok (.goto 4, 3) := by decide +kernel
theorem dX8_isWay_10 : decode cX8_isWay 10 = .ok (.iconst 3, 1) := by decide +kernel
theorem dX8_isWay_11 : decode cX8_isWay 11 = .ok (.putfield 258, 3) := by decide +kernel
theorem dX8_isWay_14 : decode cX8_isWay 14 = .ok (.aload_n 0, 1) := by decide +kernel
theorem dX8_isWay_15 : decode cX8_isWay 15 = .ok (.getfield 133, 3) := by decide +kernel
theorem dX8_isWay_18 : decode cX8_isWay 18 = .ok (.iconst 0, 1) := by decide +kernel
theorem dX8_isWay_19 : decode cX8_isWay 19 = .ok (.iload_n 1, 1) := by decide +kernel
theorem dX8_isWay_20 : decode cX8_isWay 20 = .ok (.iastore, 1) := by decide +kernel
theorem dX8_isWay_21 : decode cX8_isWay 21 = .ok (.aload_n 0, 1) := by decide +kernel
theorem dX8_isWay_22 : decode cX8_isWay 22 = .ok (.getfield 133, 3) := by decide +kernel
theorem dX8_isWay_25 : decode cX8_isWay 25 = .ok (.iconst 1, 1) := by decide +kernel
theorem dX8_isWay_26 : decode cX8_isWay 26 = .ok (.iload_n 2, 1) := by decide +kernel
theorem dX8_isWay_27 : decode cX8_isWay 27 = .ok (.iastore, 1) := by decide +kernel
theorem dX8_isWay_28 : decode cX8_isWay 28 = .ok (.aload_n 0, 1) := by decide +kernel
theorem dX8_isWay_29 : decode cX8_isWay 29 = .ok (.getfield 133, 3) := by decide +kernel
theorem dX8_isWay_32 : decode cX8_isWay 32 = .ok (.iconst 2, 1) := by decide +kernel
theorem dX8_isWay_33 : decode cX8_isWay 33 = .ok (.iload_n 3, 1) := by decide +kernel
theorem dX8_isWay_34 : decode cX8_isWay 34 = .ok (.iastore, 1) := by decide +kernel
theorem dX8_isWay_35 : decode cX8_isWay 35 = .ok (.iload 4, 2) := by decide +kernel
theorem dX8_isWay_37 : decode cX8_isWay 37 = .ok (.ifCond .lt 43, 3) := by decide +kernel
theorem dX8_isWay_40 : decode cX8_isWay 40 = .ok (.iload 5, 2) := by decide +kernel
theorem dX8_isWay_42 : decode cX8_isWay 42 = .ok (.ifCond .lt 38, 3) := by decide +kernel
theorem dX8_isWay_45 : decode cX8_isWay 45 = .ok (.iload 6, 2) := by decide +kernel
theorem dX8_isWay_47 : decode cX8_isWay 47 = .ok (.iconst 0, 1) := by decide +kernel
theorem dX8_isWay_48 : decode cX8_isWay 48 = .ok (.bipush 120, 2) := by decide +kernel
theorem dX8_isWay_50 : decode cX8_isWay 50 = .ok (.invokestatic 149, 3) := by decide +kernel
theorem dX8_isWay_53 : decode cX8_isWay 53 = .ok (.ifCond .eq 27, 3) := by decide +kernel
theorem dX8_isWay_56 : decode cX8_isWay 56 = .ok (.iload 7, 2) := by decide +kernel
theorem dX8_isWay_58 : decode cX8_isWay 58 = .ok (.iconst 0, 1) := by decide +kernel
theorem dX8_isWay_59 : decode cX8_isWay 59 = .ok (.bipush 120, 2) := by decide +kernel
theorem dX8_isWay_61 : decode cX8_isWay 61 = .ok (.invokestatic 149, 3) := by decide +kernel
theorem dX8_isWay_64 : decode cX8_isWay 64 = .ok (.ifCond .eq 16, 3) := by decide +kernel
theorem dX8_isWay_67 : decode cX8_isWay 67 = .ok (.aload_n 0, 1) := by decide +kernel
theorem dX8_isWay_68 : decode cX8_isWay 68 = .ok (.getfield 258, 3) := by decide +kernel
theorem dX8_isWay_71 : decode cX8_isWay 71 = .ok (.iconst 2, 1) := by decide +kernel
theorem dX8_isWay_72 : decode cX8_isWay 72 = .ok (.if_icmp .ne 10, 3) := by decide +kernel
theorem dX8_isWay_75 : decode cX8_isWay 75 = .ok (.iload 7, 2) := by decide +kernel
theorem dX8_isWay_77 : decode cX8_isWay 77 = .ok (.ifCond .eq 5, 3) := by decide +kernel
theorem dX8_isWay_80 : decode cX8_isWay 80 = .ok (.iconst 0, 1) := by decide +kernel
theorem dX8_isWay_81 : decode cX8_isWay 81 = .ok (.ireturn, 1) := by decide +kernel
theorem dX8_isWay_82 : decode cX8_isWay 82 = .ok (.iload_n 1, 1) := by decide +kernel
theorem dX8_isWay_83 : decode cX8_isWay 83 = .ok (.iload_n 2, 1) := by decide +kernel
theorem dX8_isWay_84 : decode cX8_isWay 84 = .ok (.if_icmp .eq 21, 3) := by decide +kernel
theorem dX8_isWay_87 : decode cX8_isWay 87 = .ok (.aload_n 0, 1) := by decide +kernel
theorem dX8_isWay_88 : decode cX8_isWay 88 = .ok (.getfield 258, 3) := by decide +kernel
theorem dX8_isWay_91 : decode cX8_isWay 91 = .ok (.iconst 3, 1) := by decide +kernel
theorem dX8_isWay_92 : decode cX8_isWay 92 = .ok (.if_icmp .ne 15, 3) := by decide +kernel
theorem dX8_isWay_95 : decode cX8_isWay 95 = .ok (.iload_n 1, 1) := by decide +kernel
theorem dX8_isWay_96 : decode cX8_isWay 96 = .ok (.iload_n 3, 1) := by decide +kernel
theorem dX8_isWay_97 : decode cX8_isWay 97 = .ok (.if_icmp .eq 8, 3) := by decide +kernel
theorem dX8_isWay_100 : decode cX8_isWay 100 = .ok (.iload_n 2, 1) := by decide +kernel
theorem dX8_isWay_101 : decode cX8_isWay 101 = .ok (.iload_n 3, 1) := by decide +kernel
theorem dX8_isWay_102 : decode cX8_isWay 102 = .ok (.if_icmp .ne 5, 3) := by decide +kernel
theorem dX8_isWay_105 : decode cX8_isWay 105 = .ok (.iconst 0, 1) := by decide +kernel
theorem dX8_isWay_106 : decode cX8_isWay 106 = .ok (.ireturn, 1) := by decide +kernel
theorem dX8_isWay_107 : decode cX8_isWay 107 = .ok (.iload 4, 2) := by decide +kernel
theorem dX8_isWay_109 : decode cX8_isWay 109 = .ok (.istore 8, 2) := by decide +kernel
theorem dX8_isWay_111 : decode cX8_isWay 111 = .ok (.iload 5, 2) := by decide +kernel
theorem dX8_isWay_113 : decode cX8_isWay 113 = .ok (.istore 9, 2) := by decide +kernel
theorem dX8_isWay_115 : decode cX8_isWay 115 = .ok (.iconst 0, 1) := by decide +kernel
theorem dX8_isWay_116 : decode cX8_isWay 116 = .ok (.istore 10, 2) := by decide +kernel
theorem dX8_isWay_118 : decode cX8_isWay 118 = .ok (.iload 10, 2) := by decide +kernel
theorem dX8_isWay_120 : decode cX8_isWay 120 = .ok (.aload_n 0, 1) := by decide +kernel
theorem dX8_isWay_121 : decode cX8_isWay 121 = .ok (.getfield 258, 3) := by decide +kernel
theorem dX8_isWay_124 : decode cX8_isWay 124 = .ok (.if_icmp .ge 130, 3) := by decide +kernel
theorem dX8_isWay_127 : decode cX8_isWay 127 = .ok (.aload_n 0, 1) := by decide +kernel
theorem dX8_isWay_128 : decode cX8_isWay 128 = .ok (.aload_n 0, 1) := by decide +kernel
theorem dX8_isWay_129 : decode cX8_isWay 129 = .ok (.getfield 133, 3) := by decide +kernel
theorem dX8_isWay_132 : decode cX8_isWay 132 = .ok (.iload 10, 2) := by decide +kernel
theorem dX8_isWay_134 : decode cX8_isWay 134 = .ok (.iaload, 1) := by decide +kernel
theorem dX8_isWay_135 : decode cX8_isWay 135 = .ok (.iload 8, 2) := by decide +kernel
theorem dX8_isWay_137 : decode cX8_isWay 137 = .ok (.bipush 10, 2) := by decide +kernel
theorem dX8_isWay_139 : decode cX8_isWay 139 = .ok (.irem, 1) := by decide +kernel
theorem dX8_isWay_140 : decode cX8_isWay 140 = .ok (.invokevirtual 169, 3) := by decide +kernel
theorem dX8_isWay_143 : decode cX8_isWay 143 = .ok (.ifCond .eq 67, 3) := by decide +kernel
theorem dX8_isWay_146 : decode cX8_isWay 146 = .ok (.aload_n 0, 1) := by decide +kernel
theorem dX8_isWay_147 : decode cX8_isWay 147 = .ok (.aload_n 0, 1) := by decide +kernel
theorem dX8_isWay_148 : decode cX8_isWay 148 = .ok (.getfield 133, 3) := by decide +kernel
theorem dX8_isWay_151 : decode cX8_isWay 151 = .ok (.iload 10, 2) := by decide +kernel
theorem dX8_isWay_153 : decode cX8_isWay 153 = .ok (.iaload, 1) := by decide +kernel
theorem dX8_isWay_154 : decode cX8_isWay 154 = .ok (.iload 9, 2) := by decide +kernel
theorem dX8_isWay_156 : decode cX8_isWay 156 = .ok (.bipush 10, 2) := by decide +kernel
theorem dX8_isWay_158 : decode cX8_isWay 158 = .ok (.irem, 1) := by decide +kernel
theorem dX8_isWay_159 : decode cX8_isWay 159 = .ok (.invokevirtual 169, 3) := by decide +kernel
theorem dX8_isWay_162 : decode cX8_isWay 162 = .ok (.ifCond .eq 48, 3) := by decide +kernel
theorem dX8_isWay_165 : decode cX8_isWay 165 = .ok (.aload_n 0, 1) := by decide +kernel
theorem dX8_isWay_166 : decode cX8_isWay 166 = .ok (.getfield 32, 3) := by decide +kernel
theorem dX8_isWay_169 : decode cX8_isWay 169 = .ok (.bipush 8, 2) := by decide +kernel
theorem dX8_isWay_171 : decode cX8_isWay 171 = .ok (.aload_n 0, 1) := by decide +kernel
theorem dX8_isWay_172 : decode cX8_isWay 172 = .ok (.getfield 133, 3) := by decide +kernel
theorem dX8_isWay_175 : decode cX8_isWay 175 = .ok (.iload 10, 2) := by decide +kernel
theorem dX8_isWay_177 : decode cX8_isWay 177 = .ok (.iaload, 1) := by decide +kernel
theorem dX8_isWay_178 : decode cX8_isWay 178 = .ok (.iadd, 1) := by decide +kernel
theorem dX8_isWay_179 : decode cX8_isWay 179 = .ok (.baload, 1) := by decide +kernel
theorem dX8_isWay_180 : decode cX8_isWay 180 = .ok (.ifCond .eq 30, 3) := by decide +kernel
theorem dX8_isWay_183 : decode cX8_isWay 183 = .ok (.aload_n 0, 1) := by decide +kernel
theorem dX8_isWay_184 : decode cX8_isWay 184 = .ok (.getfield 35, 3) := by decide +kernel
theorem dX8_isWay_187 : decode cX8_isWay 187 = .ok (.bipush 8, 2) := by decide +kernel
theorem dX8_isWay_189 : decode cX8_isWay 189 = .ok (.aload_n 0, 1) := by decide +kernel
theorem dX8_isWay_190 : decode cX8_isWay 190 = .ok (.getfield 133, 3) := by decide +kernel
theorem dX8_isWay_193 : decode cX8_isWay 193 = .ok (.iload 10, 2) := by decide +kernel
theorem dX8_isWay_195 : decode cX8_isWay 195 = .ok (.iaload, 1) := by decide +kernel
theorem dX8_isWay_196 : decode cX8_isWay 196 = .ok (.iadd, 1) := by decide +kernel
theorem dX8_isWay_197 : decode cX8_isWay 197 = .ok (.iaload, 1) := by decide +kernel
theorem dX8_isWay_198 : decode cX8_isWay 198 = .ok (.aload_n 0, 1) := by decide +kernel
end
section
theorem dX8_isWay_199 : decode cX8_isWay 199 = .ok (.getfield 35, 3) := by decide +kernel
theorem dX8_isWay_202 : decode cX8_isWay 202 = .ok (.bipush 8, 2) := by decide +kernel
theorem dX8_isWay_204 : decode cX8_isWay 204 = .ok (.iload_n 1, 1) := by decide +kernel
theorem dX8_isWay_205 : decode cX8_isWay 205 = .ok (.iadd, 1) := by decide +kernel
theorem dX8_isWay_206 : decode cX8_isWay 206 = .ok (.iaload, 1) := by decide +kernel
theorem dX8_isWay_207 : decode cX8_isWay 207 = .ok (.if_icmp .eq 5, 3) := by decide +kernel
theorem dX8_isWay_210 : decode cX8_isWay 210 = .ok (.iconst 0, 1) := by decide +kernel
theorem dX8_isWay_211 : decode cX8_isWay 211 = .ok (.ireturn, 1) := by decide +kernel
theorem dX8_isWay_212 : decode cX8_isWay 212 = .ok (.iload 8, 2) := by decide +kernel
theorem dX8_isWay_214 : decode cX8_isWay 214 = .ok (.bipush 10, 2) := by decide +kernel
theorem dX8_isWay_216 : decode cX8_isWay 216 = .ok (.idiv, 1) := by decide +kernel
theorem dX8_isWay_217 : decode cX8_isWay 217 = .ok (.istore 8, 2) := by decide +kernel
theorem dX8_isWay_219 : decode cX8_isWay 219 = .ok (.iload 9, 2) := by decide +kernel
theorem dX8_isWay_221 : decode cX8_isWay 221 = .ok (.bipush 10, 2) := by decide +kernel
theorem dX8_isWay_223 : decode cX8_isWay 223 = .ok (.idiv, 1) := by decide +kernel
theorem dX8_isWay_224 : decode cX8_isWay 224 = .ok (.istore 9, 2) := by decide +kernel
theorem dX8_isWay_226 : decode cX8_isWay 226 = .ok (.aload_n 0, 1) := by decide +kernel
theorem dX8_isWay_227 : decode cX8_isWay 227 = .ok (.getfield 136, 3) := by decide +kernel
theorem dX8_isWay_230 : decode cX8_isWay 230 = .ok (.iload 10, 2) := by decide +kernel
theorem dX8_isWay_232 : decode cX8_isWay 232 = .ok (.aload_n 0, 1) := by decide +kernel
theorem dX8_isWay_233 : decode cX8_isWay 233 = .ok (.getfield 47, 3) := by decide +kernel
theorem dX8_isWay_236 : decode cX8_isWay 236 = .ok (.bipush 8, 2) := by decide +kernel
theorem dX8_isWay_238 : decode cX8_isWay 238 = .ok (.aload_n 0, 1) := by decide +kernel
theorem dX8_isWay_239 : decode cX8_isWay 239 = .ok (.getfield 133, 3) := by decide +kernel
theorem dX8_isWay_242 : decode cX8_isWay 242 = .ok (.iload 10, 2) := by decide +kernel
theorem dX8_isWay_244 : decode cX8_isWay 244 = .ok (.iaload, 1) := by decide +kernel
theorem dX8_isWay_245 : decode cX8_isWay 245 = .ok (.iadd, 1) := by decide +kernel
theorem dX8_isWay_246 : decode cX8_isWay 246 = .ok (.iaload, 1) := by decide +kernel
theorem dX8_isWay_247 : decode cX8_isWay 247 = .ok (.iastore, 1) := by decide +kernel
theorem dX8_isWay_248 : decode cX8_isWay 248 = .ok (.iinc 10 1, 3) := by decide +kernel
theorem dX8_isWay_251 : decode cX8_isWay 251 = .ok (.goto (-133), 3) := by decide +kernel
theorem dX8_isWay_254 : decode cX8_isWay 254 = .ok (.iload 8, 2) := by decide +kernel
theorem dX8_isWay_256 : decode cX8_isWay 256 = .ok (.ifCond .ne 12, 3) := by decide +kernel
theorem dX8_isWay_259 : decode cX8_isWay 259 = .ok (.iload 9, 2) := by decide +kernel
theorem dX8_isWay_261 : decode cX8_isWay 261 = .ok (.ifCond .ne 7, 3) := by decide +kernel
theorem dX8_isWay_264 : decode cX8_isWay 264 = .ok (.iconst 1, 1) := by decide +kernel
theorem dX8_isWay_265 : decode cX8_isWay 265 = .ok (.goto 4, 3) := by decide +kernel
theorem dX8_isWay_268 : decode cX8_isWay 268 = .ok (.iconst 0, 1) := by decide +kernel
theorem dX8_isWay_269 : decode cX8_isWay 269 = .ok (.ireturn, 1) := by decide +kernel
theorem dX8_digit_0 : decode cX8_digit 0 = .ok (.iload_n 1, 1) := by decide +kernel
theorem dX8_digit_1 : decode cX8_digit 1 = .ok (.ifCond .ne 10, 3) := by decide +kernel
theorem dX8_digit_4 : decode cX8_digit 4 = .ok (.iload_n 0, 1) := by decide +kernel
theorem dX8_digit_5 : decode cX8_digit 5 = .ok (.bipush 10, 2) := by decide +kernel
theorem dX8_digit_7 : decode cX8_digit 7 = .ok (.irem, 1) := by decide +kernel
theorem dX8_digit_8 : decode cX8_digit 8 = .ok (.goto 22, 3) := by decide +kernel
theorem dX8_digit_11 : decode cX8_digit 11 = .ok (.iload_n 1, 1) := by decide +kernel
theorem dX8_digit_12 : decode cX8_digit 12 = .ok (.iconst 1, 1) := by decide +kernel
theorem dX8_digit_13 : decode cX8_digit 13 = .ok (.if_icmp .ne 13, 3) := by decide +kernel
theorem dX8_digit_16 : decode cX8_digit 16 = .ok (.iload_n 0, 1) := by decide +kernel
theorem dX8_digit_17 : decode cX8_digit 17 = .ok (.bipush 10, 2) := by decide +kernel
theorem dX8_digit_19 : decode cX8_digit 19 = .ok (.idiv, 1) := by decide +kernel
theorem dX8_digit_20 : decode cX8_digit 20 = .ok (.bipush 10, 2) := by decide +kernel
theorem dX8_digit_22 : decode cX8_digit 22 = .ok (.irem, 1) := by decide +kernel
theorem dX8_digit_23 : decode cX8_digit 23 = .ok (.goto 7, 3) := by decide +kernel
theorem dX8_digit_26 : decode cX8_digit 26 = .ok (.iload_n 0, 1) := by decide +kernel
theorem dX8_digit_27 : decode cX8_digit 27 = .ok (.bipush 100, 2) := by decide +kernel
theorem dX8_digit_29 : decode cX8_digit 29 = .ok (.idiv, 1) := by decide +kernel
theorem dX8_digit_30 : decode cX8_digit 30 = .ok (.ireturn, 1) := by decide +kernel
theorem dX8_passing_0 : decode cX8_passing 0 = .ok (.iconst 0, 1) := by decide +kernel
theorem dX8_passing_1 : decode cX8_passing 1 = .ok (.istore 5, 2) := by decide +kernel
theorem dX8_passing_3 : decode cX8_passing 3 = .ok (.iconst 0, 1) := by decide +kernel
theorem dX8_passing_4 : decode cX8_passing 4 = .ok (.istore 6, 2) := by decide +kernel
theorem dX8_passing_6 : decode cX8_passing 6 = .ok (.iload 6, 2) := by decide +kernel
theorem dX8_passing_8 : decode cX8_passing 8 = .ok (.aload_n 0, 1) := by decide +kernel
theorem dX8_passing_9 : decode cX8_passing 9 = .ok (.getfield 35, 3) := by decide +kernel
theorem dX8_passing_12 : decode cX8_passing 12 = .ok (.bipush 8, 2) := by decide +kernel
theorem dX8_passing_14 : decode cX8_passing 14 = .ok (.aload_n 0, 1) := by decide +kernel
theorem dX8_passing_15 : decode cX8_passing 15 = .ok (.getfield 133, 3) := by decide +kernel
theorem dX8_passing_18 : decode cX8_passing 18 = .ok (.iconst 0, 1) := by decide +kernel
theorem dX8_passing_19 : decode cX8_passing 19 = .ok (.iaload, 1) := by decide +kernel
theorem dX8_passing_20 : decode cX8_passing 20 = .ok (.iadd, 1) := by decide +kernel
theorem dX8_passing_21 : decode cX8_passing 21 = .ok (.iaload, 1) := by decide +kernel
theorem dX8_passing_22 : decode cX8_passing 22 = .ok (.if_icmp .ge 157, 3) := by decide +kernel
theorem dX8_passing_25 : decode cX8_passing 25 = .ok (.iconst 1, 1) := by decide +kernel
theorem dX8_passing_26 : decode cX8_passing 26 = .ok (.istore 7, 2) := by decide +kernel
theorem dX8_passing_28 : decode cX8_passing 28 = .ok (.iconst 0, 1) := by decide +kernel
theorem dX8_passing_29 : decode cX8_passing 29 = .ok (.istore 8, 2) := by decide +kernel
theorem dX8_passing_31 : decode cX8_passing 31 = .ok (.iload 8, 2) := by decide +kernel
theorem dX8_passing_33 : decode cX8_passing 33 = .ok (.aload_n 0, 1) := by decide +kernel
theorem dX8_passing_34 : decode cX8_passing 34 = .ok (.getfield 258, 3) := by decide +kernel
theorem dX8_passing_37 : decode cX8_passing 37 = .ok (.if_icmp .ge 121, 3) := by decide +kernel
theorem dX8_passing_40 : decode cX8_passing 40 = .ok (.iload 7, 2) := by decide +kernel
theorem dX8_passing_42 : decode cX8_passing 42 = .ok (.ifCond .eq 116, 3) := by decide +kernel
theorem dX8_passing_45 : decode cX8_passing 45 = .ok (.iload 4, 2) := by decide +kernel
theorem dX8_passing_47 : decode cX8_passing 47 = .ok (.ifCond .eq 46, 3) := by decide +kernel
theorem dX8_passing_50 : decode cX8_passing 50 = .ok (.iload 8, 2) := by decide +kernel
theorem dX8_passing_52 : decode cX8_passing 52 = .ok (.aload_n 0, 1) := by decide +kernel
theorem dX8_passing_53 : decode cX8_passing 53 = .ok (.getfield 258, 3) := by decide +kernel
theorem dX8_passing_56 : decode cX8_passing 56 = .ok (.iconst 1, 1) := by decide +kernel
theorem dX8_passing_57 : decode cX8_passing 57 = .ok (.isub, 1) := by decide +kernel
theorem dX8_passing_58 : decode cX8_passing 58 = .ok (.if_icmp .ne 7, 3) := by decide +kernel
theorem dX8_passing_61 : decode cX8_passing 61 = .ok (.iconst 0, 1) := by decide +kernel
theorem dX8_passing_62 : decode cX8_passing 62 = .ok (.goto 53, 3) := by decide +kernel
theorem dX8_passing_65 : decode cX8_passing 65 = .ok (.iload 8, 2) := by decide +kernel
theorem dX8_passing_67 : decode cX8_passing 67 = .ok (.iconst 1, 1) := by decide +kernel
theorem dX8_passing_68 : decode cX8_passing 68 = .ok (.if_icmp .ne 7, 3) := by decide +kernel
theorem dX8_passing_71 : decode cX8_passing 71 = .ok (.iload_n 3, 1) := by decide +kernel
theorem dX8_passing_72 : decode cX8_passing 72 = .ok (.goto 43, 3) := by decide +kernel
theorem dX8_passing_75 : decode cX8_passing 75 = .ok (.aload_n 0, 1) := by decide +kernel
theorem dX8_passing_76 : decode cX8_passing 76 = .ok (.getfield 258, 3) := by decide +kernel
theorem dX8_passing_79 : decode cX8_passing 79 = .ok (.iconst 2, 1) := by decide +kernel
theorem dX8_passing_80 : decode cX8_passing 80 = .ok (.if_icmp .ne 7, 3) := by decide +kernel
theorem dX8_passing_83 : decode cX8_passing 83 = .ok (.iload_n 2, 1) := by decide +kernel
theorem dX8_passing_84 : decode cX8_passing 84 = .ok (.goto 31, 3) := by decide +kernel
theorem dX8_passing_87 : decode cX8_passing 87 = .ok (.iload_n 3, 1) := by decide +kernel
theorem dX8_passing_88 : decode cX8_passing 88 = .ok (.iload_n 2, 1) := by decide +kernel
theorem dX8_passing_89 : decode cX8_passing 89 = .ok (.iadd, 1) := by decide +kernel
theorem dX8_passing_90 : decode cX8_passing 90 = .ok (.goto 25, 3) := by decide +kernel
theorem dX8_passing_93 : decode cX8_passing 93 = .ok (.iload 8, 2) := by decide +kernel
theorem dX8_passing_95 : decode cX8_passing 95 = .ok (.ifCond .ne 7, 3) := by decide +kernel
theorem dX8_passing_98 : decode cX8_passing 98 = .ok (.iconst 0, 1) := by decide +kernel
theorem dX8_passing_99 : decode cX8_passing 99 = .ok (.goto 16, 3) := by decide +kernel
theorem dX8_passing_102 : decode cX8_passing 102 = .ok (.iload 8, 2) := by decide +kernel
theorem dX8_passing_104 : decode cX8_passing 104 = .ok (.iconst 1, 1) := by decide +kernel
theorem dX8_passing_105 : decode cX8_passing 105 = .ok (.if_icmp .ne 7, 3) := by decide +kernel
theorem dX8_passing_108 : decode cX8_passing 108 = .ok (.iload_n 2, 1) := by decide +kernel
theorem dX8_passing_109 : decode cX8_passing 109 = .ok (.goto 6, 3) := by decide +kernel
theorem dX8_passing_112 : decode cX8_passing 112 = .ok (.iload_n 2, 1) := by decide +kernel
theorem dX8_passing_113 : decode cX8_passing 113 = .ok (.iload_n 3, 1) := by decide +kernel
theorem dX8_passing_114 : decode cX8_passing 114 = .ok (.iadd, 1) := by decide +kernel
theorem dX8_passing_115 : decode cX8_passing 115 = .ok (.istore 9, 2) := by decide +kernel
theorem dX8_passing_117 : decode cX8_passing 117 = .ok (.aload_n 0, 1) := by decide +kernel
theorem dX8_passing_118 : decode cX8_passing 118 = .ok (.bipush 8, 2) := by decide +kernel
theorem dX8_passing_120 : decode cX8_passing 120 = .ok (.aload_n 0, 1) := by decide +kernel
theorem dX8_passing_121 : decode cX8_passing 121 = .ok (.getfield 133, 3) := by decide +kernel
theorem dX8_passing_124 : decode cX8_passing 124 = .ok (.iload 8, 2) := by decide +kernel
theorem dX8_passing_126 : decode cX8_passing 126 = .ok (.iaload, 1) := by decide +kernel
theorem dX8_passing_127 : decode cX8_passing 127 = .ok (.iadd, 1) := by decide +kernel
theorem dX8_passing_128 : decode cX8_passing 128 = .ok (.iload_n 1, 1) := by decide +kernel
theorem dX8_passing_129 : decode cX8_passing 129 = .ok (.iload 8, 2) := by decide +kernel
theorem dX8_passing_131 : decode cX8_passing 131 = .ok (.invokestatic 261, 3) := by decide +kernel
theorem dX8_passing_134 : decode cX8_passing 134 = .ok (.iload 6, 2) := by decide +kernel
theorem dX8_passing_136 : decode cX8_passing 136 = .ok (.iload 9, 2) := by decide +kernel
theorem dX8_passing_138 : decode cX8_passing 138 = .ok (.iadd, 1) := by decide +kernel
theorem dX8_passing_139 : decode cX8_passing 139 = .ok (.aload_n 0, 1) := by decide +kernel
theorem dX8_passing_140 : decode cX8_passing 140 = .ok (.getfield 136, 3) := by decide +kernel
theorem dX8_passing_143 : decode cX8_passing 143 = .ok (.iload 8, 2) := by decide +kernel
theorem dX8_passing_145 : decode cX8_passing 145 = .ok (.iaload, 1) := by decide +kernel
theorem dX8_passing_146 : decode cX8_passing 146 = .ok (.isub, 1) := by decide +kernel
theorem dX8_passing_147 : decode cX8_passing 147 = .ok (.invokevirtual 205, 3) := by decide +kernel
theorem dX8_passing_150 : decode cX8_passing 150 = .ok (.istore 7, 2) := by decide +kernel
theorem dX8_passing_152 : decode cX8_passing 152 = .ok (.iinc 8 1, 3) := by decide +kernel
theorem dX8_passing_155 : decode cX8_passing 155 = .ok (.goto (-124), 3) := by decide +kernel
theorem dX8_passing_158 : decode cX8_passing 158 = .ok (.iload 5, 2) := by decide +kernel
theorem dX8_passing_160 : decode cX8_passing 160 = .ok (.iload 7, 2) := by decide +kernel
theorem dX8_passing_162 : decode cX8_passing 162 = .ok (.ifCond .eq 7, 3) := by decide +kernel
theorem dX8_passing_165 : decode cX8_passing 165 = .ok (.iconst 1, 1) := by decide +kernel
theorem dX8_passing_166 : decode cX8_passing 166 = .ok (.goto 4, 3) := by decide +kernel
theorem dX8_passing_169 : decode cX8_passing 169 = .ok (.iconst 0, 1) := by decide +kernel
theorem dX8_passing_170 : decode cX8_passing 170 = .ok (.iadd, 1) := by decide +kernel
theorem dX8_passing_171 : decode cX8_passing 171 = .ok (.istore 5, 2) := by decide +kernel
theorem dX8_passing_173 : decode cX8_passing 173 = .ok (.iinc 6 1, 3) := by decide +kernel
theorem dX8_passing_176 : decode cX8_passing 176 = .ok (.goto (-170), 3) := by decide +kernel
theorem dX8_passing_179 : decode cX8_passing 179 = .ok (.iload 5, 2) := by decide +kernel
theorem dX8_passing_181 : decode cX8_passing 181 = .ok (.ireturn, 1) := by decide +kernel
theorem dX8_width_0 : decode cX8_width 0 = .ok (.iload 8, 2) := by decide +kernel
theorem dX8_width_2 : decode cX8_width 2 = .ok (.iconst 0, 1) := by decide +kernel
theorem dX8_width_3 : decode cX8_width 3 = .ok (.iconst 1, 1) := by decide +kernel
theorem dX8_width_4 : decode cX8_width 4 = .ok (.invokestatic 149, 3) := by decide +kernel
theorem dX8_width_7 : decode cX8_width 7 = .ok (.ifCond .eq 21, 3) := by decide +kernel
theorem dX8_width_10 : decode cX8_width 10 = .ok (.aload_n 0, 1) := by decide +kernel
theorem dX8_width_11 : decode cX8_width 11 = .ok (.iload_n 1, 1) := by decide +kernel
theorem dX8_width_12 : decode cX8_width 12 = .ok (.iload_n 2, 1) := by decide +kernel
theorem dX8_width_13 : decode cX8_width 13 = .ok (.iload_n 3, 1) := by decide +kernel
theorem dX8_width_14 : decode cX8_width 14 = .ok (.iload 4, 2) := by decide +kernel
theorem dX8_width_16 : decode cX8_width 16 = .ok (.iload 5, 2) := by decide +kernel
theorem dX8_width_18 : decode cX8_width 18 = .ok (.iload 6, 2) := by decide +kernel
theorem dX8_width_20 : decode cX8_width 20 = .ok (.iload 7, 2) := by decide +kernel
theorem dX8_width_22 : decode cX8_width 22 = .ok (.invokevirtual 264, 3) := by decide +kernel
theorem dX8_width_25 : decode cX8_width 25 = .ok (.ifCond .ne 7, 3) := by decide +kernel
theorem dX8_width_28 : decode cX8_width 28 = .ok (.iconst (-1), 1) := by decide +kernel
theorem dX8_width_29 : decode cX8_width 29 = .ok (.goto 34, 3) := by decide +kernel
theorem dX8_width_32 : decode cX8_width 32 = .ok (.aload_n 0, 1) := by decide +kernel
theorem dX8_width_33 : decode cX8_width 33 = .ok (.iload 8, 2) := by decide +kernel
theorem dX8_width_35 : decode cX8_width 35 = .ok (.ifCond .ne 8, 3) := by decide +kernel
theorem dX8_width_38 : decode cX8_width 38 = .ok (.iload 4, 2) := by decide +kernel
theorem dX8_width_40 : decode cX8_width 40 = .ok (.goto 5, 3) := by decide +kernel
theorem dX8_width_43 : decode cX8_width 43 = .ok (.iload 5, 2) := by decide +kernel
theorem dX8_width_45 : decode cX8_width 45 = .ok (.iload 6, 2) := by decide +kernel
theorem dX8_width_47 : decode cX8_width 47 = .ok (.iload 7, 2) := by decide +kernel
theorem dX8_width_49 : decode cX8_width 49 = .ok (.iload 8, 2) := by decide +kernel
theorem dX8_width_51 : decode cX8_width 51 = .ok (.iconst 1, 1) := by decide +kernel
theorem dX8_width_52 : decode cX8_width 52 = .ok (.if_icmp .ne 7, 3) := by decide +kernel
theorem dX8_width_55 : decode cX8_width 55 = .ok (.iconst 1, 1) := by decide +kernel
theorem dX8_width_56 : decode cX8_width 56 = .ok (.goto 4, 3) := by decide +kernel
theorem dX8_width_59 : decode cX8_width 59 = .ok (.iconst 0, 1) := by decide +kernel
theorem dX8_width_60 : decode cX8_width 60 = .ok (.invokevirtual 268, 3) := by decide +kernel
theorem dX8_width_63 : decode cX8_width 63 = .ok (.ireturn, 1) := by decide +kernel
theorem dX8_wave_0 : decode cX8_wave 0 = .ok (.iload 8, 2) := by decide +kernel
theorem dX8_wave_2 : decode cX8_wave 2 = .ok (.iconst 0, 1) := by decide +kernel
theorem dX8_wave_3 : decode cX8_wave 3 = .ok (.iconst 2, 1) := by decide +kernel
theorem dX8_wave_4 : decode cX8_wave 4 = .ok (.invokestatic 149, 3) := by decide +kernel
theorem dX8_wave_7 : decode cX8_wave 7 = .ok (.ifCond .eq 21, 3) := by decide +kernel
theorem dX8_wave_10 : decode cX8_wave 10 = .ok (.aload_n 0, 1) := by decide +kernel
theorem dX8_wave_11 : decode cX8_wave 11 = .ok (.iload_n 1, 1) := by decide +kernel
theorem dX8_wave_12 : decode cX8_wave 12 = .ok (.iload_n 2, 1) := by decide +kernel
theorem dX8_wave_13 : decode cX8_wave 13 = .ok (.iload_n 3, 1) := by decide +kernel
theorem dX8_wave_14 : decode cX8_wave 14 = .ok (.iload 4, 2) := by decide +kernel
theorem dX8_wave_16 : decode cX8_wave 16 = .ok (.iload 5, 2) := by decide +kernel
theorem dX8_wave_18 : decode cX8_wave 18 = .ok (.iload 6, 2) := by decide +kernel
theorem dX8_wave_20 : decode cX8_wave 20 = .ok (.iload 7, 2) := by decide +kernel
theorem dX8_wave_22 : decode cX8_wave 22 = .ok (.invokevirtual 264, 3) := by decide +kernel
theorem dX8_wave_25 : decode cX8_wave 25 = .ok (.ifCond .ne 5, 3) := by decide +kernel
theorem dX8_wave_28 : decode cX8_wave 28 = .ok (.iconst (-1), 1) := by decide +kernel
theorem dX8_wave_29 : decode cX8_wave 29 = .ok (.ireturn, 1) := by decide +kernel
theorem dX8_wave_30 : decode cX8_wave 30 = .ok (.aload_n 0, 1) := by decide +kernel
theorem dX8_wave_31 : decode cX8_wave 31 = .ok (.getfield 35, 3) := by decide +kernel
theorem dX8_wave_34 : decode cX8_wave 34 = .ok (.bipush 8, 2) := by decide +kernel
theorem dX8_wave_36 : decode cX8_wave 36 = .ok (.iload_n 1, 1) := by decide +kernel
theorem dX8_wave_37 : decode cX8_wave 37 = .ok (.iadd, 1) := by decide +kernel
theorem dX8_wave_38 : decode cX8_wave 38 = .ok (.iaload, 1) := by decide +kernel
theorem dX8_wave_39 : decode cX8_wave 39 = .ok (.istore 9, 2) := by decide +kernel
theorem dX8_wave_41 : decode cX8_wave 41 = .ok (.iconst (-1), 1) := by decide +kernel
theorem dX8_wave_42 : decode cX8_wave 42 = .ok (.istore 10, 2) := by decide +kernel
theorem dX8_wave_44 : decode cX8_wave 44 = .ok (.iconst 0, 1) := by decide +kernel
theorem dX8_wave_45 : decode cX8_wave 45 = .ok (.istore 11, 2) := by decide +kernel
theorem dX8_wave_47 : decode cX8_wave 47 = .ok (.iconst 0, 1) := by decide +kernel
theorem dX8_wave_48 : decode cX8_wave 48 = .ok (.istore 12, 2) := by decide +kernel
theorem dX8_wave_50 : decode cX8_wave 50 = .ok (.iconst (-1), 1) := by decide +kernel
theorem dX8_wave_51 : decode cX8_wave 51 = .ok (.istore 13, 2) := by decide +kernel
theorem dX8_wave_53 : decode cX8_wave 53 = .ok (.iconst 0, 1) := by decide +kernel
theorem dX8_wave_54 : decode cX8_wave 54 = .ok (.istore 14, 2) := by decide +kernel
theorem dX8_wave_56 : decode cX8_wave 56 = .ok (.iload 14, 2) := by decide +kernel
theorem dX8_wave_58 : decode cX8_wave 58 = .ok (.iload 9, 2) := by decide +kernel
theorem dX8_wave_60 : decode cX8_wave 60 = .ok (.if_icmp .ge 146, 3) := by decide +kernel
theorem dX8_wave_63 : decode cX8_wave 63 = .ok (.iconst 0, 1) := by decide +kernel
theorem dX8_wave_64 : decode cX8_wave 64 = .ok (.istore 15, 2) := by decide +kernel
theorem dX8_wave_66 : decode cX8_wave 66 = .ok (.iload 15, 2) := by decide +kernel
theorem dX8_wave_68 : decode cX8_wave 68 = .ok (.aload_n 0, 1) := by decide +kernel
theorem dX8_wave_69 : decode cX8_wave 69 = .ok (.getfield 258, 3) := by decide +kernel
theorem dX8_wave_72 : decode cX8_wave 72 = .ok (.iconst 3, 1) := by decide +kernel
theorem dX8_wave_73 : decode cX8_wave 73 = .ok (.if_icmp .ne 8, 3) := by decide +kernel
theorem dX8_wave_76 : decode cX8_wave 76 = .ok (.iload 9, 2) := by decide +kernel
theorem dX8_wave_78 : decode cX8_wave 78 = .ok (.goto 4, 3) := by decide +kernel
theorem dX8_wave_81 : decode cX8_wave 81 = .ok (.iconst 1, 1) := by decide +kernel
theorem dX8_wave_82 : decode cX8_wave 82 = .ok (.if_icmp .ge 118, 3) := by decide +kernel
theorem dX8_wave_85 : decode cX8_wave 85 = .ok (.aload_n 0, 1) := by decide +kernel
theorem dX8_wave_86 : decode cX8_wave 86 = .ok (.getfield 136, 3) := by decide +kernel
theorem dX8_wave_89 : decode cX8_wave 89 = .ok (.iconst 1, 1) := by decide +kernel
theorem dX8_wave_90 : decode cX8_wave 90 = .ok (.iload 14, 2) := by decide +kernel
theorem dX8_wave_92 : decode cX8_wave 92 = .ok (.iastore, 1) := by decide +kernel
theorem dX8_wave_93 : decode cX8_wave 93 = .ok (.aload_n 0, 1) := by decide +kernel
theorem dX8_wave_94 : decode cX8_wave 94 = .ok (.getfield 136, 3) := by decide +kernel
theorem dX8_wave_97 : decode cX8_wave 97 = .ok (.iconst 2, 1) := by decide +kernel
theorem dX8_wave_98 : decode cX8_wave 98 = .ok (.iload 15, 2) := by decide +kernel
theorem dX8_wave_100 : decode cX8_wave 100 = .ok (.iastore, 1) := by decide +kernel
theorem dX8_wave_101 : decode cX8_wave 101 = .ok (.aload_n 0, 1) := by decide +kernel
theorem dX8_wave_102 : decode cX8_wave 102 = .ok (.iload 4, 2) := by decide +kernel
theorem dX8_wave_104 : decode cX8_wave 104 = .ok (.iload 6, 2) := by decide +kernel
theorem dX8_wave_106 : decode cX8_wave 106 = .ok (.iload 7, 2) := by decide +kernel
theorem dX8_wave_108 : decode cX8_wave 108 = .ok (.iconst 0, 1) := by decide +kernel
theorem dX8_wave_109 : decode cX8_wave 109 = .ok (.invokevirtual 268, 3) := by decide +kernel
theorem dX8_wave_112 : decode cX8_wave 112 = .ok (.istore 16, 2) := by decide +kernel
theorem dX8_wave_114 : decode cX8_wave 114 = .ok (.aload_n 0, 1) := by decide +kernel
theorem dX8_wave_115 : decode cX8_wave 115 = .ok (.iload 5, 2) := by decide +kernel
theorem dX8_wave_117 : decode cX8_wave 117 = .ok (.iload 6, 2) := by decide +kernel
theorem dX8_wave_119 : decode cX8_wave 119 = .ok (.iload 7, 2) := by decide +kernel
theorem dX8_wave_121 : decode cX8_wave 121 = .ok (.iconst 1, 1) := by decide +kernel
theorem dX8_wave_122 : decode cX8_wave 122 = .ok (.invokevirtual 268, 3) := by decide +kernel
theorem dX8_wave_125 : decode cX8_wave 125 = .ok (.istore 17, 2) := by decide +kernel
theorem dX8_wave_127 : decode cX8_wave 127 = .ok (.iload 16, 2) := by decide +kernel
theorem dX8_wave_129 : decode cX8_wave 129 = .ok (.iload 17, 2) := by decide +kernel
theorem dX8_wave_131 : decode cX8_wave 131 = .ok (.invokestatic 212, 3) := by decide +kernel
theorem dX8_wave_134 : decode cX8_wave 134 = .ok (.istore 18, 2) := by decide +kernel
theorem dX8_wave_136 : decode cX8_wave 136 = .ok (.iload 18, 2) := by decide +kernel
theorem dX8_wave_138 : decode cX8_wave 138 = .ok (.iload 10, 2) := by decide +kernel
theorem dX8_wave_140 : decode cX8_wave 140 = .ok (.if_icmp .lt 54, 3) := by decide +kernel
theorem dX8_wave_143 : decode cX8_wave 143 = .ok (.iload 18, 2) := by decide +kernel
theorem dX8_wave_145 : decode cX8_wave 145 = .ok (.iload 10, 2) := by decide +kernel
theorem dX8_wave_147 : decode cX8_wave 147 = .ok (.if_icmp .ne 16, 3) := by decide +kernel
theorem dX8_wave_150 : decode cX8_wave 150 = .ok (.iload 16, 2) := by decide +kernel
theorem dX8_wave_152 : decode cX8_wave 152 = .ok (.iload 17, 2) := by decide +kernel
theorem dX8_wave_154 : decode cX8_wave 154 = .ok (.iadd, 1) := by decide +kernel
theorem dX8_wave_155 : decode cX8_wave 155 = .ok (.iload 11, 2) := by decide +kernel
theorem dX8_wave_157 : decode cX8_wave 157 = .ok (.if_icmp .gt 6, 3) := by decide +kernel
theorem dX8_wave_160 : decode cX8_wave 160 = .ok (.goto 34, 3) := by decide +kernel
theorem dX8_wave_163 : decode cX8_wave 163 = .ok (.iload 18, 2) := by decide +kernel
theorem dX8_wave_165 : decode cX8_wave 165 = .ok (.istore 10, 2) := by decide +kernel
theorem dX8_wave_167 : decode cX8_wave 167 = .ok (.iload 16, 2) := by decide +kernel
theorem dX8_wave_169 : decode cX8_wave 169 = .ok (.iload 17, 2) := by decide +kernel
theorem dX8_wave_171 : decode cX8_wave 171 = .ok (.iadd, 1) := by decide +kernel
theorem dX8_wave_172 : decode cX8_wave 172 = .ok (.istore 11, 2) := by decide +kernel
theorem dX8_wave_174 : decode cX8_wave 174 = .ok (.iload 14, 2) := by decide +kernel
theorem dX8_wave_176 : decode cX8_wave 176 = .ok (.istore 12, 2) := by decide +kernel
theorem dX8_wave_178 : decode cX8_wave 178 = .ok (.aload_n 0, 1) := by decide +kernel
theorem dX8_wave_179 : decode cX8_wave 179 = .ok (.getfield 258, 3) := by decide +kernel
theorem dX8_wave_182 : decode cX8_wave 182 = .ok (.iconst 3, 1) := by decide +kernel
theorem dX8_wave_183 : decode cX8_wave 183 = .ok (.if_icmp .ne 8, 3) := by decide +kernel
theorem dX8_wave_186 : decode cX8_wave 186 = .ok (.iload 15, 2) := by decide +kernel
theorem dX8_wave_188 : decode cX8_wave 188 = .ok (.goto 4, 3) := by decide +kernel
theorem dX8_wave_191 : decode cX8_wave 191 = .ok (.iconst (-1), 1) := by decide +kernel
theorem dX8_wave_192 : decode cX8_wave 192 = .ok (.istore 13, 2) := by decide +kernel
theorem dX8_wave_194 : decode cX8_wave 194 = .ok (.iinc 15 1, 3) := by decide +kernel
theorem dX8_wave_197 : decode cX8_wave 197 = .ok (.goto (-131), 3) := by decide +kernel
theorem dX8_wave_200 : decode cX8_wave 200 = .ok (.iinc 14 1, 3) := by decide +kernel
theorem dX8_wave_203 : decode cX8_wave 203 = .ok (.goto (-147), 3) := by decide +kernel
theorem dX8_wave_206 : decode cX8_wave 206 = .ok (.iload 8, 2) := by decide +kernel
theorem dX8_wave_208 : decode cX8_wave 208 = .ok (.ifCond .ne 8, 3) := by decide +kernel
theorem dX8_wave_211 : decode cX8_wave 211 = .ok (.iload 10, 2) := by decide +kernel
theorem dX8_wave_213 : decode cX8_wave 213 = .ok (.goto 16, 3) := by decide +kernel
theorem dX8_wave_216 : decode cX8_wave 216 = .ok (.iload 8, 2) := by decide +kernel
theorem dX8_wave_218 : decode cX8_wave 218 = .ok (.iconst 1, 1) := by decide +kernel
theorem dX8_wave_219 : decode cX8_wave 219 = .ok (.if_icmp .ne 8, 3) := by decide +kernel
theorem dX8_wave_222 : decode cX8_wave 222 = .ok (.iload 12, 2) := by decide +kernel
theorem dX8_wave_224 : decode cX8_wave 224 = .ok (.goto 5, 3) := by decide +kernel
theorem dX8_wave_227 : decode cX8_wave 227 = .ok (.iload 13, 2) := by decide +kernel
theorem dX8_wave_229 : decode cX8_wave 229 = .ok (.ireturn, 1) := by decide +kernel
theorem dX8_check_0 : decode cX8_check 0 = .ok (.aload_n 0, 1) := by decide +kernel
theorem dX8_check_1 : decode cX8_check 1 = .ok (.iload_n 1, 1) := by decide +kernel
theorem dX8_check_2 : decode cX8_check 2 = .ok (.invokevirtual 142, 3) := by decide +kernel
theorem dX8_check_5 : decode cX8_check 5 = .ok (.ifCond .ne 6, 3) := by decide +kernel
theorem dX8_check_8 : decode cX8_check 8 = .ok (.bipush (-2), 2) := by decide +kernel
theorem dX8_check_10 : decode cX8_check 10 = .ok (.ireturn, 1) := by decide +kernel
theorem dX8_check_11 : decode cX8_check 11 = .ok (.iconst 0, 1) := by decide +kernel
theorem dX8_check_12 : decode cX8_check 12 = .ok (.aload_n 0, 1) := by decide +kernel
theorem dX8_check_13 : decode cX8_check 13 = .ok (.getfield 146, 3) := by decide +kernel
theorem dX8_check_16 : decode cX8_check 16 = .ok (.sipush 200, 3) := by decide +kernel
theorem dX8_check_19 : decode cX8_check 19 = .ok (.isub, 1) := by decide +kernel
theorem dX8_check_20 : decode cX8_check 20 = .ok (.invokestatic 156, 3) := by decide +kernel
theorem dX8_check_23 : decode cX8_check 23 = .ok (.istore 4, 2) := by decide +kernel
theorem dX8_check_25 : decode cX8_check 25 = .ok (.iload_n 3, 1) := by decide +kernel
theorem dX8_check_26 : decode cX8_check 26 = .ok (.iconst (-1), 1) := by decide +kernel
theorem dX8_check_27 : decode cX8_check 27 = .ok (.if_icmp .eq 7, 3) := by decide +kernel
theorem dX8_check_30 : decode cX8_check 30 = .ok (.iconst 1, 1) := by decide +kernel
theorem dX8_check_31 : decode cX8_check 31 = .ok (.goto 4, 3) := by decide +kernel
theorem dX8_check_34 : decode cX8_check 34 = .ok (.iconst 0, 1) := by decide +kernel
theorem dX8_check_35 : decode cX8_check 35 = .ok (.istore 5, 2) := by decide +kernel
theorem dX8_check_37 : decode cX8_check 37 = .ok (.iload 5, 2) := by decide +kernel
theorem dX8_check_39 : decode cX8_check 39 = .ok (.ifCond .eq 30, 3) := by decide +kernel
theorem dX8_check_42 : decode cX8_check 42 = .ok (.aload_n 0, 1) := by decide +kernel
theorem dX8_check_43 : decode cX8_check 43 = .ok (.iload_n 1, 1) := by decide +kernel
theorem dX8_check_44 : decode cX8_check 44 = .ok (.iload_n 2, 1) := by decide +kernel
theorem dX8_check_45 : decode cX8_check 45 = .ok (.invokevirtual 169, 3) := by decide +kernel
theorem dX8_check_48 : decode cX8_check 48 = .ok (.ifCond .eq 18, 3) := by decide +kernel
theorem dX8_check_51 : decode cX8_check 51 = .ok (.iload_n 3, 1) := by decide +kernel
theorem dX8_check_52 : decode cX8_check 52 = .ok (.iload 4, 2) := by decide +kernel
theorem dX8_check_54 : decode cX8_check 54 = .ok (.aload_n 0, 1) := by decide +kernel
theorem dX8_check_55 : decode cX8_check 55 = .ok (.getfield 146, 3) := by decide +kernel
theorem dX8_check_58 : decode cX8_check 58 = .ok (.iconst 1, 1) := by decide +kernel
theorem dX8_check_59 : decode cX8_check 59 = .ok (.isub, 1) := by decide +kernel
theorem dX8_check_60 : decode cX8_check 60 = .ok (.invokestatic 149, 3) := by decide +kernel
theorem dX8_check_63 : decode cX8_check 63 = .ok (.ifCond .ne 6, 3) := by decide +kernel
theorem dX8_check_66 : decode cX8_check 66 = .ok (.bipush (-2), 2) := by decide +kernel
theorem dX8_check_68 : decode cX8_check 68 = .ok (.ireturn, 1) := by decide +kernel
theorem dX8_check_69 : decode cX8_check 69 = .ok (.iload 4, 2) := by decide +kernel
theorem dX8_check_71 : decode cX8_check 71 = .ok (.istore 6, 2) := by decide +kernel
theorem dX8_check_73 : decode cX8_check 73 = .ok (.iload 6, 2) := by decide +kernel
theorem dX8_check_75 : decode cX8_check 75 = .ok (.aload_n 0, 1) := by decide +kernel
theorem dX8_check_76 : decode cX8_check 76 = .ok (.getfield 146, 3) := by decide +kernel
theorem dX8_check_79 : decode cX8_check 79 = .ok (.if_icmp .ge 128, 3) := by decide +kernel
theorem dX8_check_82 : decode cX8_check 82 = .ok (.iconst 0, 1) := by decide +kernel
theorem dX8_check_83 : decode cX8_check 83 = .ok (.istore 7, 2) := by decide +kernel
theorem dX8_check_85 : decode cX8_check 85 = .ok (.iload 7, 2) := by decide +kernel
theorem dX8_check_87 : decode cX8_check 87 = .ok (.aload_n 0, 1) := by decide +kernel
theorem dX8_check_88 : decode cX8_check 88 = .ok (.getfield 7, 3) := by decide +kernel
theorem dX8_check_91 : decode cX8_check 91 = .ok (.iload_n 1, 1) := by decide +kernel
theorem dX8_check_92 : decode cX8_check 92 = .ok (.iaload, 1) := by decide +kernel
theorem dX8_check_93 : decode cX8_check 93 = .ok (.if_icmp .ge 108, 3) := by decide +kernel
theorem dX8_check_96 : decode cX8_check 96 = .ok (.aload_n 0, 1) := by decide +kernel
theorem dX8_check_97 : decode cX8_check 97 = .ok (.iload_n 1, 1) := by decide +kernel
theorem dX8_check_98 : decode cX8_check 98 = .ok (.iload 7, 2) := by decide +kernel
theorem dX8_check_100 : decode cX8_check 100 = .ok (.iload 6, 2) := by decide +kernel
theorem dX8_check_102 : decode cX8_check 102 = .ok (.iload_n 2, 1) := by decide +kernel
theorem dX8_check_103 : decode cX8_check 103 = .ok (.iload_n 3, 1) := by decide +kernel
theorem dX8_check_104 : decode cX8_check 104 = .ok (.invokevirtual 272, 3) := by decide +kernel
theorem dX8_check_107 : decode cX8_check 107 = .ok (.ifCond .ne 6, 3) := by decide +kernel
theorem dX8_check_110 : decode cX8_check 110 = .ok (.goto 85, 3) := by decide +kernel
theorem dX8_check_113 : decode cX8_check 113 = .ok (.iconst 0, 1) := by decide +kernel
theorem dX8_check_114 : decode cX8_check 114 = .ok (.istore 8, 2) := by decide +kernel
theorem dX8_check_116 : decode cX8_check 116 = .ok (.iload 8, 2) := by decide +kernel
theorem dX8_check_118 : decode cX8_check 118 = .ok (.aload_n 0, 1) := by decide +kernel
theorem dX8_check_119 : decode cX8_check 119 = .ok (.getfield 7, 3) := by decide +kernel
theorem dX8_check_122 : decode cX8_check 122 = .ok (.iload_n 1, 1) := by decide +kernel
theorem dX8_check_123 : decode cX8_check 123 = .ok (.iaload, 1) := by decide +kernel
theorem dX8_check_124 : decode cX8_check 124 = .ok (.if_icmp .ge 71, 3) := by decide +kernel
theorem dX8_check_127 : decode cX8_check 127 = .ok (.aload_n 0, 1) := by decide +kernel
theorem dX8_check_128 : decode cX8_check 128 = .ok (.iload_n 1, 1) := by decide +kernel
theorem dX8_check_129 : decode cX8_check 129 = .ok (.iload 8, 2) := by decide +kernel
theorem dX8_check_131 : decode cX8_check 131 = .ok (.iload 7, 2) := by decide +kernel
theorem dX8_check_133 : decode cX8_check 133 = .ok (.invokevirtual 173, 3) := by decide +kernel
theorem dX8_check_136 : decode cX8_check 136 = .ok (.istore 9, 2) := by decide +kernel
theorem dX8_check_138 : decode cX8_check 138 = .ok (.iconst 0, 1) := by decide +kernel
theorem dX8_check_139 : decode cX8_check 139 = .ok (.istore 10, 2) := by decide +kernel
theorem dX8_check_141 : decode cX8_check 141 = .ok (.iload 10, 2) := by decide +kernel
theorem dX8_check_143 : decode cX8_check 143 = .ok (.iload 9, 2) := by decide +kernel
theorem dX8_check_145 : decode cX8_check 145 = .ok (.if_icmp .gt 44, 3) := by decide +kernel
theorem dX8_check_148 : decode cX8_check 148 = .ok (.iload 9, 2) := by decide +kernel
theorem dX8_check_150 : decode cX8_check 150 = .ok (.ifCond .le 39, 3) := by decide +kernel
theorem dX8_check_153 : decode cX8_check 153 = .ok (.iload 6, 2) := by decide +kernel
theorem dX8_check_155 : decode cX8_check 155 = .ok (.iload 10, 2) := by decide +kernel
theorem dX8_check_157 : decode cX8_check 157 = .ok (.isub, 1) := by decide +kernel
theorem dX8_check_158 : decode cX8_check 158 = .ok (.iload 4, 2) := by decide +kernel
theorem dX8_check_160 : decode cX8_check 160 = .ok (.if_icmp .lt 29, 3) := by decide +kernel
theorem dX8_check_163 : decode cX8_check 163 = .ok (.aload_n 0, 1) := by decide +kernel
theorem dX8_check_164 : decode cX8_check 164 = .ok (.iload_n 1, 1) := by decide +kernel
theorem dX8_check_165 : decode cX8_check 165 = .ok (.iload 8, 2) := by decide +kernel
theorem dX8_check_167 : decode cX8_check 167 = .ok (.iload 6, 2) := by decide +kernel
theorem dX8_check_169 : decode cX8_check 169 = .ok (.iload 10, 2) := by decide +kernel
theorem dX8_check_171 : decode cX8_check 171 = .ok (.isub, 1) := by decide +kernel
theorem dX8_check_172 : decode cX8_check 172 = .ok (.iload_n 2, 1) := by decide +kernel
theorem dX8_check_173 : decode cX8_check 173 = .ok (.iload_n 3, 1) := by decide +kernel
theorem dX8_check_174 : decode cX8_check 174 = .ok (.invokevirtual 272, 3) := by decide +kernel
theorem dX8_check_177 : decode cX8_check 177 = .ok (.ifCond .eq 6, 3) := by decide +kernel
theorem dX8_check_180 : decode cX8_check 180 = .ok (.iload 6, 2) := by decide +kernel
theorem dX8_check_182 : decode cX8_check 182 = .ok (.ireturn, 1) := by decide +kernel
theorem dX8_check_183 : decode cX8_check 183 = .ok (.iinc 10 1, 3) := by decide +kernel
theorem dX8_check_186 : decode cX8_check 186 = .ok (.goto (-45), 3) := by decide +kernel
theorem dX8_check_189 : decode cX8_check 189 = .ok (.iinc 8 1, 3) := by decide +kernel
theorem dX8_check_192 : decode cX8_check 192 = .ok (.goto (-76), 3) := by decide +kernel
theorem dX8_check_195 : decode cX8_check 195 = .ok (.iinc 7 1, 3) := by decide +kernel
theorem dX8_check_198 : decode cX8_check 198 = .ok (.goto (-113), 3) := by decide +kernel
theorem dX8_check_201 : decode cX8_check 201 = .ok (.iinc 6 1, 3) := by decide +kernel
theorem dX8_check_204 : decode cX8_check 204 = .ok (.goto (-131), 3) := by decide +kernel
theorem dX8_check_207 : decode cX8_check 207 = .ok (.iconst (-1), 1) := by decide +kernel
theorem dX8_check_208 : decode cX8_check 208 = .ok (.ireturn, 1) := by decide +kernel
theorem dX8_wasLit_0 : decode cX8_wasLit 0 = .ok (.aload_n 0, 1) := by decide +kernel
theorem dX8_wasLit_1 : decode cX8_wasLit 1 = .ok (.getfield 130, 3) := by decide +kernel
theorem dX8_wasLit_4 : decode cX8_wasLit 4 = .ok (.sipush 200, 3) := by decide +kernel
theorem dX8_wasLit_7 : decode cX8_wasLit 7 = .ok (.iload_n 1, 1) := by decide +kernel
theorem dX8_wasLit_8 : decode cX8_wasLit 8 = .ok (.imul, 1) := by decide +kernel
theorem dX8_wasLit_9 : decode cX8_wasLit 9 = .ok (.iload_n 3, 1) := by decide +kernel
theorem dX8_wasLit_10 : decode cX8_wasLit 10 = .ok (.sipush 200, 3) := by decide +kernel
theorem dX8_wasLit_13 : decode cX8_wasLit 13 = .ok (.irem, 1) := by decide +kernel
theorem dX8_wasLit_14 : decode cX8_wasLit 14 = .ok (.iadd, 1) := by decide +kernel
theorem dX8_wasLit_15 : decode cX8_wasLit 15 = .ok (.iaload, 1) := by decide +kernel
theorem dX8_wasLit_16 : decode cX8_wasLit 16 = .ok (.iload_n 2, 1) := by decide +kernel
theorem dX8_wasLit_17 : decode cX8_wasLit 17 = .ok (.ishr, 1) := by decide +kernel
theorem dX8_wasLit_18 : decode cX8_wasLit 18 = .ok (.iconst 1, 1) := by decide +kernel
theorem dX8_wasLit_19 : decode cX8_wasLit 19 = .ok (.iand, 1) := by decide +kernel
theorem dX8_wasLit_20 : decode cX8_wasLit 20 = .ok (.iconst 1, 1) := by decide +kernel
theorem dX8_wasLit_21 : decode cX8_wasLit 21 = .ok (.if_icmp .ne 7, 3) := by decide +kernel
theorem dX8_wasLit_24 : decode cX8_wasLit 24 = .ok (.iconst 1, 1) := by decide +kernel
theorem dX8_wasLit_25 : decode cX8_wasLit 25 = .ok (.goto 4, 3) := by decide +kernel
theorem dX8_wasLit_28 : decode cX8_wasLit 28 = .ok (.iconst 0, 1) := by decide +kernel
theorem dX8_wasLit_29 : decode cX8_wasLit 29 = .ok (.iload_n 3, 1) := by decide +kernel
theorem dX8_wasLit_30 : decode cX8_wasLit 30 = .ok (.iload 5, 2) := by decide +kernel
theorem dX8_wasLit_32 : decode cX8_wasLit 32 = .ok (.if_icmp .ne 13, 3) := by decide +kernel
theorem dX8_wasLit_35 : decode cX8_wasLit 35 = .ok (.iload_n 2, 1) := by decide +kernel
theorem dX8_wasLit_36 : decode cX8_wasLit 36 = .ok (.iload 4, 2) := by decide +kernel
theorem dX8_wasLit_38 : decode cX8_wasLit 38 = .ok (.if_icmp .ne 7, 3) := by decide +kernel
theorem dX8_wasLit_41 : decode cX8_wasLit 41 = .ok (.iconst 1, 1) := by decide +kernel
theorem dX8_wasLit_42 : decode cX8_wasLit 42 = .ok (.goto 4, 3) := by decide +kernel
theorem dX8_wasLit_45 : decode cX8_wasLit 45 = .ok (.iconst 0, 1) := by decide +kernel
theorem dX8_wasLit_46 : decode cX8_wasLit 46 = .ok (.if_icmp .eq 7, 3) := by decide +kernel
theorem dX8_wasLit_49 : decode cX8_wasLit 49 = .ok (.iconst 1, 1) := by decide +kernel
theorem dX8_wasLit_50 : decode cX8_wasLit 50 = .ok (.goto 4, 3) := by decide +kernel
theorem dX8_wasLit_53 : decode cX8_wasLit 53 = .ok (.iconst 0, 1) := by decide +kernel
theorem dX8_wasLit_54 : decode cX8_wasLit 54 = .ok (.ireturn, 1) := by decide +kernel
theorem dJ13_bitCount_95d88_0 : decode cJ13_bitCount_95d88 0 = .ok (.lload_n 0, 1) := by decide +kernel
theorem dJ13_bitCount_95d88_1 : decode cJ13_bitCount_95d88 1 = .ok (.lload_n 0, 1) := by decide +kernel
theorem dJ13_bitCount_95d88_2 : decode cJ13_bitCount_95d88 2 = .ok (.iconst 1, 1) := by decide +kernel
theorem dJ13_bitCount_95d88_3 : decode cJ13_bitCount_95d88 3 = .ok (.lushr, 1) := by decide +kernel
theorem dJ13_bitCount_95d88_4 : decode cJ13_bitCount_95d88 4 = .ok (.ldc2_w 314, 3) := by decide +kernel
theorem dJ13_bitCount_95d88_7 : decode cJ13_bitCount_95d88 7 = .ok (.land, 1) := by decide +kernel
theorem dJ13_bitCount_95d88_8 : decode cJ13_bitCount_95d88 8 = .ok (.lsub, 1) := by decide +kernel
theorem dJ13_bitCount_95d88_9 : decode cJ13_bitCount_95d88 9 = .ok (.lstore_n 0, 1) := by decide +kernel
theorem dJ13_bitCount_95d88_10 : decode cJ13_bitCount_95d88 10 = .ok (.lload_n 0, 1) := by decide +kernel
theorem dJ13_bitCount_95d88_11 : decode cJ13_bitCount_95d88 11 = .ok (.ldc2_w 316, 3) := by decide +kernel
theorem dJ13_bitCount_95d88_14 : decode cJ13_bitCount_95d88 14 = .ok (.land, 1) := by decide +kernel
theorem dJ13_bitCount_95d88_15 : decode cJ13_bitCount_95d88 15 = .ok (.lload_n 0, 1) := by decide +kernel
theorem dJ13_bitCount_95d88_16 : decode cJ13_bitCount_95d88 16 = .ok (.iconst 2, 1) := by decide +kernel
theorem dJ13_bitCount_95d88_17 : decode cJ13_bitCount_95d88 17 = .ok (.lushr, 1) := by decide +kernel
theorem dJ13_bitCount_95d88_18 : decode cJ13_bitCount_95d88 18 = .ok (.ldc2_w 316, 3) := by decide +kernel
theorem dJ13_bitCount_95d88_21 : decode cJ13_bitCount_95d88 21 = .ok (.land, 1) := by decide +kernel
theorem dJ13_bitCount_95d88_22 : decode cJ13_bitCount_95d88 22 = .ok (.ladd, 1) := by decide +kernel
theorem dJ13_bitCount_95d88_23 : decode cJ13_bitCount_95d88 23 = .ok (.lstore_n 0, 1) := by decide +kernel
theorem dJ13_bitCount_95d88_24 : decode cJ13_bitCount_95d88 24 = .ok (.lload_n 0, 1) := by decide +kernel
theorem dJ13_bitCount_95d88_25 : decode cJ13_bitCount_95d88 25 = .ok (.lload_n 0, 1) := by decide +kernel
theorem dJ13_bitCount_95d88_26 : decode cJ13_bitCount_95d88 26 = .ok (.iconst 4, 1) := by decide +kernel
theorem dJ13_bitCount_95d88_27 : decode cJ13_bitCount_95d88 27 = .ok (.lushr, 1) := by decide +kernel
theorem dJ13_bitCount_95d88_28 : decode cJ13_bitCount_95d88 28 = .ok (.ladd, 1) := by decide +kernel
theorem dJ13_bitCount_95d88_29 : decode cJ13_bitCount_95d88 29 = .ok (.ldc2_w 318, 3) := by decide +kernel
theorem dJ13_bitCount_95d88_32 : decode cJ13_bitCount_95d88 32 = .ok (.land, 1) := by decide +kernel
theorem dJ13_bitCount_95d88_33 : decode cJ13_bitCount_95d88 33 = .ok (.lstore_n 0, 1) := by decide +kernel
theorem dJ13_bitCount_95d88_34 : decode cJ13_bitCount_95d88 34 = .ok (.lload_n 0, 1) := by decide +kernel
theorem dJ13_bitCount_95d88_35 : decode cJ13_bitCount_95d88 35 = .ok (.lload_n 0, 1) := by decide +kernel
theorem dJ13_bitCount_95d88_36 : decode cJ13_bitCount_95d88 36 = .ok (.bipush 8, 2) := by decide +kernel
theorem dJ13_bitCount_95d88_38 : decode cJ13_bitCount_95d88 38 = .ok (.lushr, 1) := by decide +kernel
theorem dJ13_bitCount_95d88_39 : decode cJ13_bitCount_95d88 39 = .ok (.ladd, 1) := by decide +kernel
theorem dJ13_bitCount_95d88_40 : decode cJ13_bitCount_95d88 40 = .ok (.lstore_n 0, 1) := by decide +kernel
theorem dJ13_bitCount_95d88_41 : decode cJ13_bitCount_95d88 41 = .ok (.lload_n 0, 1) := by decide +kernel
theorem dJ13_bitCount_95d88_42 : decode cJ13_bitCount_95d88 42 = .ok (.lload_n 0, 1) := by decide +kernel
theorem dJ13_bitCount_95d88_43 : decode cJ13_bitCount_95d88 43 = .ok (.bipush 16, 2) := by decide +kernel
theorem dJ13_bitCount_95d88_45 : decode cJ13_bitCount_95d88 45 = .ok (.lushr, 1) := by decide +kernel
theorem dJ13_bitCount_95d88_46 : decode cJ13_bitCount_95d88 46 = .ok (.ladd, 1) := by decide +kernel
theorem dJ13_bitCount_95d88_47 : decode cJ13_bitCount_95d88 47 = .ok (.lstore_n 0, 1) := by decide +kernel
theorem dJ13_bitCount_95d88_48 : decode cJ13_bitCount_95d88 48 = .ok (.lload_n 0, 1) := by decide +kernel
theorem dJ13_bitCount_95d88_49 : decode cJ13_bitCount_95d88 49 = .ok (.lload_n 0, 1) := by decide +kernel
theorem dJ13_bitCount_95d88_50 : decode cJ13_bitCount_95d88 50 = .ok (.bipush 32, 2) := by decide +kernel
theorem dJ13_bitCount_95d88_52 : decode cJ13_bitCount_95d88 52 = .ok (.lushr, 1) := by decide +kernel
theorem dJ13_bitCount_95d88_53 : decode cJ13_bitCount_95d88 53 = .ok (.ladd, 1) := by decide +kernel
theorem dJ13_bitCount_95d88_54 : decode cJ13_bitCount_95d88 54 = .ok (.lstore_n 0, 1) := by decide +kernel
theorem dJ13_bitCount_95d88_55 : decode cJ13_bitCount_95d88 55 = .ok (.lload_n 0, 1) := by decide +kernel
theorem dJ13_bitCount_95d88_56 : decode cJ13_bitCount_95d88 56 = .ok (.l2i, 1) := by decide +kernel
theorem dJ13_bitCount_95d88_57 : decode cJ13_bitCount_95d88 57 = .ok (.bipush 127, 2) := by decide +kernel
theorem dJ13_bitCount_95d88_59 : decode cJ13_bitCount_95d88 59 = .ok (.iand, 1) := by decide +kernel
theorem dJ13_bitCount_95d88_60 : decode cJ13_bitCount_95d88 60 = .ok (.ireturn, 1) := by decide +kernel
theorem dJ9_floorMod_7cf53_0 : decode cJ9_floorMod_7cf53 0 = .ok (.iload_n 0, 1) := by decide +kernel
theorem dJ9_floorMod_7cf53_1 : decode cJ9_floorMod_7cf53 1 = .ok (.iload_n 1, 1) := by decide +kernel
theorem dJ9_floorMod_7cf53_2 : decode cJ9_floorMod_7cf53 2 = .ok (.irem, 1) := by decide +kernel
theorem dJ9_floorMod_7cf53_3 : decode cJ9_floorMod_7cf53 3 = .ok (.istore_n 2, 1) := by decide +kernel
theorem dJ9_floorMod_7cf53_4 : decode cJ9_floorMod_7cf53 4 = .ok (.iload_n 0, 1) := by decide +kernel
theorem dJ9_floorMod_7cf53_5 : decode cJ9_floorMod_7cf53 5 = .ok (.iload_n 1, 1) := by decide +kernel
theorem dJ9_floorMod_7cf53_6 : decode cJ9_floorMod_7cf53 6 = .ok (.ixor, 1) := by decide +kernel
theorem dJ9_floorMod_7cf53_7 : decode cJ9_floorMod_7cf53 7 = .ok (.ifCond .ge 11, 3) := by decide +kernel
theorem dJ9_floorMod_7cf53_10 : decode cJ9_floorMod_7cf53 10 = .ok (.iload_n 2, 1) := by decide +kernel
theorem dJ9_floorMod_7cf53_11 : decode cJ9_floorMod_7cf53 11 = .ok (.ifCond .eq 7, 3) := by decide +kernel
theorem dJ9_floorMod_7cf53_14 : decode cJ9_floorMod_7cf53 14 = .ok (.iload_n 2, 1) := by decide +kernel
theorem dJ9_floorMod_7cf53_15 : decode cJ9_floorMod_7cf53 15 = .ok (.iload_n 1, 1) := by decide +kernel
theorem dJ9_floorMod_7cf53_16 : decode cJ9_floorMod_7cf53 16 = .ok (.iadd, 1) := by decide +kernel
theorem dJ9_floorMod_7cf53_17 : decode cJ9_floorMod_7cf53 17 = .ok (.ireturn, 1) := by decide +kernel
theorem dJ9_floorMod_7cf53_18 : decode cJ9_floorMod_7cf53 18 = .ok (.iload_n 2, 1) := by decide +kernel
theorem dJ9_floorMod_7cf53_19 : decode cJ9_floorMod_7cf53 19 = .ok (.ireturn, 1) := by decide +kernel
theorem dJ9_max_7cf53_0 : decode cJ9_max_7cf53 0 = .ok (.iload_n 0, 1) := by decide +kernel
theorem dJ9_max_7cf53_1 : decode cJ9_max_7cf53 1 = .ok (.iload_n 1, 1) := by decide +kernel
theorem dJ9_max_7cf53_2 : decode cJ9_max_7cf53 2 = .ok (.if_icmp .lt 7, 3) := by decide +kernel
theorem dJ9_max_7cf53_5 : decode cJ9_max_7cf53 5 = .ok (.iload_n 0, 1) := by decide +kernel
theorem dJ9_max_7cf53_6 : decode cJ9_max_7cf53 6 = .ok (.goto 4, 3) := by decide +kernel
theorem dJ9_max_7cf53_9 : decode cJ9_max_7cf53 9 = .ok (.iload_n 1, 1) := by decide +kernel
theorem dJ9_max_7cf53_10 : decode cJ9_max_7cf53 10 = .ok (.ireturn, 1) := by decide +kernel
theorem dJ9_max_f86c9_0 : decode cJ9_max_f86c9 0 = .ok (.lload_n 0, 1) := by decide +kernel
theorem dJ9_max_f86c9_1 : decode cJ9_max_f86c9 1 = .ok (.lload_n 2, 1) := by decide +kernel
theorem dJ9_max_f86c9_2 : decode cJ9_max_f86c9 2 = .ok (.lcmp, 1) := by decide +kernel
theorem dJ9_max_f86c9_3 : decode cJ9_max_f86c9 3 = .ok (.ifCond .lt 7, 3) := by decide +kernel
theorem dJ9_max_f86c9_6 : decode cJ9_max_f86c9 6 = .ok (.lload_n 0, 1) := by decide +kernel
theorem dJ9_max_f86c9_7 : decode cJ9_max_f86c9 7 = .ok (.goto 4, 3) := by decide +kernel
theorem dJ9_max_f86c9_10 : decode cJ9_max_f86c9 10 = .ok (.lload_n 2, 1) := by decide +kernel
theorem dJ9_max_f86c9_11 : decode cJ9_max_f86c9 11 = .ok (.lreturn, 1) := by decide +kernel
theorem dJ9_min_7cf53_0 : decode cJ9_min_7cf53 0 = .ok (.iload_n 0, 1) := by decide +kernel
theorem dJ9_min_7cf53_1 : decode cJ9_min_7cf53 1 = .ok (.iload_n 1, 1) := by decide +kernel
theorem dJ9_min_7cf53_2 : decode cJ9_min_7cf53 2 = .ok (.if_icmp .gt 7, 3) := by decide +kernel
theorem dJ9_min_7cf53_5 : decode cJ9_min_7cf53 5 = .ok (.iload_n 0, 1) := by decide +kernel
theorem dJ9_min_7cf53_6 : decode cJ9_min_7cf53 6 = .ok (.goto 4, 3) := by decide +kernel
theorem dJ9_min_7cf53_9 : decode cJ9_min_7cf53 9 = .ok (.iload_n 1, 1) := by decide +kernel
theorem dJ9_min_7cf53_10 : decode cJ9_min_7cf53 10 = .ok (.ireturn, 1) := by decide +kernel
theorem dJ9_min_f86c9_0 : decode cJ9_min_f86c9 0 = .ok (.lload_n 0, 1) := by decide +kernel
theorem dJ9_min_f86c9_1 : decode cJ9_min_f86c9 1 = .ok (.lload_n 2, 1) := by decide +kernel
theorem dJ9_min_f86c9_2 : decode cJ9_min_f86c9 2 = .ok (.lcmp, 1) := by decide +kernel
theorem dJ9_min_f86c9_3 : decode cJ9_min_f86c9 3 = .ok (.ifCond .gt 7, 3) := by decide +kernel
theorem dJ9_min_f86c9_6 : decode cJ9_min_f86c9 6 = .ok (.lload_n 0, 1) := by decide +kernel
theorem dJ9_min_f86c9_7 : decode cJ9_min_f86c9 7 = .ok (.goto 4, 3) := by decide +kernel
theorem dJ9_min_f86c9_10 : decode cJ9_min_f86c9 10 = .ok (.lload_n 2, 1) := by decide +kernel
theorem dJ9_min_f86c9_11 : decode cJ9_min_f86c9 11 = .ok (.lreturn, 1) := by decide +kernel
theorem dL_law_0 : decode cL_law 0 = .ok (.new 7, 3) := by decide +kernel
theorem dL_law_3 : decode cL_law 3 = .ok (.dup, 1) := by decide +kernel
theorem dL_law_4 : decode cL_law 4 = .ok (.invokespecial 9, 3) := by decide +kernel
theorem dL_law_7 : decode cL_law 7 = .ok (.astore_n 1, 1) := by decide +kernel
theorem dL_law_8 : decode cL_law 8 = .ok (.new 10, 3) := by decide +kernel
theorem dL_law_11 : decode cL_law 11 = .ok (.dup, 1) := by decide +kernel
theorem dL_law_12 : decode cL_law 12 = .ok (.invokespecial 12, 3) := by decide +kernel
theorem dL_law_15 : decode cL_law 15 = .ok (.astore_n 2, 1) := by decide +kernel
theorem dL_law_16 : decode cL_law 16 = .ok (.iconst 0, 1) := by decide +kernel
theorem dL_law_17 : decode cL_law 17 = .ok (.istore_n 3, 1) := by decide +kernel
theorem dL_law_18 : decode cL_law 18 = .ok (.iload_n 3, 1) := by decide +kernel
theorem dL_law_19 : decode cL_law 19 = .ok (.aload_n 0, 1) := by decide +kernel
theorem dL_law_20 : decode cL_law 20 = .ok (.arraylength, 1) := by decide +kernel
theorem dL_law_21 : decode cL_law 21 = .ok (.bipush 9, 2) := by decide +kernel
theorem dL_law_23 : decode cL_law 23 = .ok (.isub, 1) := by decide +kernel
theorem dL_law_24 : decode cL_law 24 = .ok (.if_icmp .gt 1197, 3) := by decide +kernel
theorem dL_law_27 : decode cL_law 27 = .ok (.aload_n 0, 1) := by decide +kernel
theorem dL_law_28 : decode cL_law 28 = .ok (.iload_n 3, 1) := by decide +kernel
theorem dL_law_29 : decode cL_law 29 = .ok (.iaload, 1) := by decide +kernel
theorem dL_law_30 : decode cL_law 30 = .ok (.bipush 31, 2) := by decide +kernel
theorem dL_law_32 : decode cL_law 32 = .ok (.iand, 1) := by decide +kernel
theorem dL_law_33 : decode cL_law 33 = .ok (.tableswitch 1182 0 25 #[119, 132, 195, 258, 301, 376, 399, 432, 465, 498, 541, 574, 597, 630, 663, 696, 719, 752, 785, 828, 851, 895, 918, 941, 1040, 1139], 119) := by decide +kernel
theorem dL_law_152 : decode cL_law 152 = .ok (.aload_n 1, 1) := by decide +kernel
theorem dL_law_153 : decode cL_law 153 = .ok (.invokevirtual 13, 3) := by decide +kernel
theorem dL_law_156 : decode cL_law 156 = .ok (.aload_n 2, 1) := by decide +kernel
theorem dL_law_157 : decode cL_law 157 = .ok (.invokevirtual 17, 3) := by decide +kernel
theorem dL_law_160 : decode cL_law 160 = .ok (.if_icmp .eq 1055, 3) := by decide +kernel
theorem dL_law_163 : decode cL_law 163 = .ok (.iconst 0, 1) := by decide +kernel
theorem dL_law_164 : decode cL_law 164 = .ok (.ireturn, 1) := by decide +kernel
theorem dL_law_165 : decode cL_law 165 = .ok (.aload_n 1, 1) := by decide +kernel
theorem dL_law_166 : decode cL_law 166 = .ok (.aload_n 0, 1) := by decide +kernel
theorem dL_law_167 : decode cL_law 167 = .ok (.iload_n 3, 1) := by decide +kernel
theorem dL_law_168 : decode cL_law 168 = .ok (.iconst 1, 1) := by decide +kernel
theorem dL_law_169 : decode cL_law 169 = .ok (.iadd, 1) := by decide +kernel
theorem dL_law_170 : decode cL_law 170 = .ok (.iaload, 1) := by decide +kernel
theorem dL_law_171 : decode cL_law 171 = .ok (.aload_n 0, 1) := by decide +kernel
theorem dL_law_172 : decode cL_law 172 = .ok (.iload_n 3, 1) := by decide +kernel
theorem dL_law_173 : decode cL_law 173 = .ok (.iconst 2, 1) := by decide +kernel
theorem dL_law_174 : decode cL_law 174 = .ok (.iadd, 1) := by decide +kernel
theorem dL_law_175 : decode cL_law 175 = .ok (.iaload, 1) := by decide +kernel
theorem dL_law_176 : decode cL_law 176 = .ok (.aload_n 0, 1) := by decide +kernel
theorem dL_law_177 : decode cL_law 177 = .ok (.iload_n 3, 1) := by decide +kernel
theorem dL_law_178 : decode cL_law 178 = .ok (.iconst 3, 1) := by decide +kernel
theorem dL_law_179 : decode cL_law 179 = .ok (.iadd, 1) := by decide +kernel
theorem dL_law_180 : decode cL_law 180 = .ok (.iaload, 1) := by decide +kernel
theorem dL_law_181 : decode cL_law 181 = .ok (.aload_n 0, 1) := by decide +kernel
theorem dL_law_182 : decode cL_law 182 = .ok (.iload_n 3, 1) := by decide +kernel
theorem dL_law_183 : decode cL_law 183 = .ok (.iconst 4, 1) := by decide +kernel
theorem dL_law_184 : decode cL_law 184 = .ok (.iadd, 1) := by decide +kernel
theorem dL_law_185 : decode cL_law 185 = .ok (.iaload, 1) := by decide +kernel
theorem dL_law_186 : decode cL_law 186 = .ok (.aload_n 0, 1) := by decide +kernel
theorem dL_law_187 : decode cL_law 187 = .ok (.iload_n 3, 1) := by decide +kernel
theorem dL_law_188 : decode cL_law 188 = .ok (.iconst 5, 1) := by decide +kernel
theorem dL_law_189 : decode cL_law 189 = .ok (.iadd, 1) := by decide +kernel
theorem dL_law_190 : decode cL_law 190 = .ok (.iaload, 1) := by decide +kernel
theorem dL_law_191 : decode cL_law 191 = .ok (.invokevirtual 18, 3) := by decide +kernel
theorem dL_law_194 : decode cL_law 194 = .ok (.aload_n 2, 1) := by decide +kernel
theorem dL_law_195 : decode cL_law 195 = .ok (.aload_n 0, 1) := by decide +kernel
theorem dL_law_196 : decode cL_law 196 = .ok (.iload_n 3, 1) := by decide +kernel
theorem dL_law_197 : decode cL_law 197 = .ok (.iconst 1, 1) := by decide +kernel
theorem dL_law_198 : decode cL_law 198 = .ok (.iadd, 1) := by decide +kernel
theorem dL_law_199 : decode cL_law 199 = .ok (.iaload, 1) := by decide +kernel
theorem dL_law_200 : decode cL_law 200 = .ok (.aload_n 0, 1) := by decide +kernel
theorem dL_law_201 : decode cL_law 201 = .ok (.iload_n 3, 1) := by decide +kernel
theorem dL_law_202 : decode cL_law 202 = .ok (.iconst 2, 1) := by decide +kernel
theorem dL_law_203 : decode cL_law 203 = .ok (.iadd, 1) := by decide +kernel
theorem dL_law_204 : decode cL_law 204 = .ok (.iaload, 1) := by decide +kernel
theorem dL_law_205 : decode cL_law 205 = .ok (.aload_n 0, 1) := by decide +kernel
theorem dL_law_206 : decode cL_law 206 = .ok (.iload_n 3, 1) := by decide +kernel
theorem dL_law_207 : decode cL_law 207 = .ok (.iconst 3, 1) := by decide +kernel
theorem dL_law_208 : decode cL_law 208 = .ok (.iadd, 1) := by decide +kernel
theorem dL_law_209 : decode cL_law 209 = .ok (.iaload, 1) := by decide +kernel
theorem dL_law_210 : decode cL_law 210 = .ok (.aload_n 0, 1) := by decide +kernel
theorem dL_law_211 : decode cL_law 211 = .ok (.iload_n 3, 1) := by decide +kernel
theorem dL_law_212 : decode cL_law 212 = .ok (.iconst 4, 1) := by decide +kernel
theorem dL_law_213 : decode cL_law 213 = .ok (.iadd, 1) := by decide +kernel
theorem dL_law_214 : decode cL_law 214 = .ok (.iaload, 1) := by decide +kernel
theorem dL_law_215 : decode cL_law 215 = .ok (.aload_n 0, 1) := by decide +kernel
theorem dL_law_216 : decode cL_law 216 = .ok (.iload_n 3, 1) := by decide +kernel
theorem dL_law_217 : decode cL_law 217 = .ok (.iconst 5, 1) := by decide +kernel
theorem dL_law_218 : decode cL_law 218 = .ok (.iadd, 1) := by decide +kernel
theorem dL_law_219 : decode cL_law 219 = .ok (.iaload, 1) := by decide +kernel
theorem dL_law_220 : decode cL_law 220 = .ok (.invokevirtual 22, 3) := by decide +kernel
theorem dL_law_223 : decode cL_law 223 = .ok (.if_icmp .eq 992, 3) := by decide +kernel
theorem dL_law_226 : decode cL_law 226 = .ok (.iconst 0, 1) := by decide +kernel
theorem dL_law_227 : decode cL_law 227 = .ok (.ireturn, 1) := by decide +kernel
theorem dL_law_228 : decode cL_law 228 = .ok (.aload_n 1, 1) := by decide +kernel
theorem dL_law_229 : decode cL_law 229 = .ok (.aload_n 0, 1) := by decide +kernel
theorem dL_law_230 : decode cL_law 230 = .ok (.iload_n 3, 1) := by decide +kernel
theorem dL_law_231 : decode cL_law 231 = .ok (.iconst 1, 1) := by decide +kernel
theorem dL_law_232 : decode cL_law 232 = .ok (.iadd, 1) := by decide +kernel
theorem dL_law_233 : decode cL_law 233 = .ok (.iaload, 1) := by decide +kernel
theorem dL_law_234 : decode cL_law 234 = .ok (.aload_n 0, 1) := by decide +kernel
theorem dL_law_235 : decode cL_law 235 = .ok (.iload_n 3, 1) := by decide +kernel
theorem dL_law_236 : decode cL_law 236 = .ok (.iconst 2, 1) := by decide +kernel
theorem dL_law_237 : decode cL_law 237 = .ok (.iadd, 1) := by decide +kernel
theorem dL_law_238 : decode cL_law 238 = .ok (.iaload, 1) := by decide +kernel
theorem dL_law_239 : decode cL_law 239 = .ok (.aload_n 0, 1) := by decide +kernel
theorem dL_law_240 : decode cL_law 240 = .ok (.iload_n 3, 1) := by decide +kernel
theorem dL_law_241 : decode cL_law 241 = .ok (.iconst 3, 1) := by decide +kernel
theorem dL_law_242 : decode cL_law 242 = .ok (.iadd, 1) := by decide +kernel
theorem dL_law_243 : decode cL_law 243 = .ok (.iaload, 1) := by decide +kernel
theorem dL_law_244 : decode cL_law 244 = .ok (.aload_n 0, 1) := by decide +kernel
theorem dL_law_245 : decode cL_law 245 = .ok (.iload_n 3, 1) := by decide +kernel
theorem dL_law_246 : decode cL_law 246 = .ok (.iconst 4, 1) := by decide +kernel
theorem dL_law_247 : decode cL_law 247 = .ok (.iadd, 1) := by decide +kernel
theorem dL_law_248 : decode cL_law 248 = .ok (.iaload, 1) := by decide +kernel
theorem dL_law_249 : decode cL_law 249 = .ok (.aload_n 0, 1) := by decide +kernel
theorem dL_law_250 : decode cL_law 250 = .ok (.iload_n 3, 1) := by decide +kernel
theorem dL_law_251 : decode cL_law 251 = .ok (.iconst 5, 1) := by decide +kernel
theorem dL_law_252 : decode cL_law 252 = .ok (.iadd, 1) := by decide +kernel
theorem dL_law_253 : decode cL_law 253 = .ok (.iaload, 1) := by decide +kernel
theorem dL_law_254 : decode cL_law 254 = .ok (.invokevirtual 23, 3) := by decide +kernel
theorem dL_law_257 : decode cL_law 257 = .ok (.aload_n 2, 1) := by decide +kernel
theorem dL_law_258 : decode cL_law 258 = .ok (.aload_n 0, 1) := by decide +kernel
theorem dL_law_259 : decode cL_law 259 = .ok (.iload_n 3, 1) := by decide +kernel
theorem dL_law_260 : decode cL_law 260 = .ok (.iconst 1, 1) := by decide +kernel
theorem dL_law_261 : decode cL_law 261 = .ok (.iadd, 1) := by decide +kernel
theorem dL_law_262 : decode cL_law 262 = .ok (.iaload, 1) := by decide +kernel
theorem dL_law_263 : decode cL_law 263 = .ok (.aload_n 0, 1) := by decide +kernel
theorem dL_law_264 : decode cL_law 264 = .ok (.iload_n 3, 1) := by decide +kernel
theorem dL_law_265 : decode cL_law 265 = .ok (.iconst 2, 1) := by decide +kernel
theorem dL_law_266 : decode cL_law 266 = .ok (.iadd, 1) := by decide +kernel
theorem dL_law_267 : decode cL_law 267 = .ok (.iaload, 1) := by decide +kernel
theorem dL_law_268 : decode cL_law 268 = .ok (.aload_n 0, 1) := by decide +kernel
theorem dL_law_269 : decode cL_law 269 = .ok (.iload_n 3, 1) := by decide +kernel
theorem dL_law_270 : decode cL_law 270 = .ok (.iconst 3, 1) := by decide +kernel
theorem dL_law_271 : decode cL_law 271 = .ok (.iadd, 1) := by decide +kernel
theorem dL_law_272 : decode cL_law 272 = .ok (.iaload, 1) := by decide +kernel
theorem dL_law_273 : decode cL_law 273 = .ok (.aload_n 0, 1) := by decide +kernel
theorem dL_law_274 : decode cL_law 274 = .ok (.iload_n 3, 1) := by decide +kernel
theorem dL_law_275 : decode cL_law 275 = .ok (.iconst 4, 1) := by decide +kernel
theorem dL_law_276 : decode cL_law 276 = .ok (.iadd, 1) := by decide +kernel
theorem dL_law_277 : decode cL_law 277 = .ok (.iaload, 1) := by decide +kernel
theorem dL_law_278 : decode cL_law 278 = .ok (.aload_n 0, 1) := by decide +kernel
theorem dL_law_279 : decode cL_law 279 = .ok (.iload_n 3, 1) := by decide +kernel
theorem dL_law_280 : decode cL_law 280 = .ok (.iconst 5, 1) := by decide +kernel
theorem dL_law_281 : decode cL_law 281 = .ok (.iadd, 1) := by decide +kernel
theorem dL_law_282 : decode cL_law 282 = .ok (.iaload, 1) := by decide +kernel
theorem dL_law_283 : decode cL_law 283 = .ok (.invokevirtual 27, 3) := by decide +kernel
theorem dL_law_286 : decode cL_law 286 = .ok (.if_icmp .eq 929, 3) := by decide +kernel
theorem dL_law_289 : decode cL_law 289 = .ok (.iconst 0, 1) := by decide +kernel
theorem dL_law_290 : decode cL_law 290 = .ok (.ireturn, 1) := by decide +kernel
theorem dL_law_291 : decode cL_law 291 = .ok (.aload_n 1, 1) := by decide +kernel
theorem dL_law_292 : decode cL_law 292 = .ok (.aload_n 0, 1) := by decide +kernel
theorem dL_law_293 : decode cL_law 293 = .ok (.iload_n 3, 1) := by decide +kernel
theorem dL_law_294 : decode cL_law 294 = .ok (.iconst 1, 1) := by decide +kernel
theorem dL_law_295 : decode cL_law 295 = .ok (.iadd, 1) := by decide +kernel
theorem dL_law_296 : decode cL_law 296 = .ok (.iaload, 1) := by decide +kernel
theorem dL_law_297 : decode cL_law 297 = .ok (.aload_n 0, 1) := by decide +kernel
theorem dL_law_298 : decode cL_law 298 = .ok (.iload_n 3, 1) := by decide +kernel
theorem dL_law_299 : decode cL_law 299 = .ok (.iconst 2, 1) := by decide +kernel
theorem dL_law_300 : decode cL_law 300 = .ok (.iadd, 1) := by decide +kernel
theorem dL_law_301 : decode cL_law 301 = .ok (.iaload, 1) := by decide +kernel
theorem dL_law_302 : decode cL_law 302 = .ok (.aload_n 0, 1) := by decide +kernel
theorem dL_law_303 : decode cL_law 303 = .ok (.iload_n 3, 1) := by decide +kernel
theorem dL_law_304 : decode cL_law 304 = .ok (.iconst 3, 1) := by decide +kernel
theorem dL_law_305 : decode cL_law 305 = .ok (.iadd, 1) := by decide +kernel
theorem dL_law_306 : decode cL_law 306 = .ok (.iaload, 1) := by decide +kernel
theorem dL_law_307 : decode cL_law 307 = .ok (.invokevirtual 28, 3) := by decide +kernel
theorem dL_law_310 : decode cL_law 310 = .ok (.aload_n 2, 1) := by decide +kernel
theorem dL_law_311 : decode cL_law 311 = .ok (.aload_n 0, 1) := by decide +kernel
theorem dL_law_312 : decode cL_law 312 = .ok (.iload_n 3, 1) := by decide +kernel
theorem dL_law_313 : decode cL_law 313 = .ok (.iconst 1, 1) := by decide +kernel
theorem dL_law_314 : decode cL_law 314 = .ok (.iadd, 1) := by decide +kernel
theorem dL_law_315 : decode cL_law 315 = .ok (.iaload, 1) := by decide +kernel
theorem dL_law_316 : decode cL_law 316 = .ok (.aload_n 0, 1) := by decide +kernel
theorem dL_law_317 : decode cL_law 317 = .ok (.iload_n 3, 1) := by decide +kernel
theorem dL_law_318 : decode cL_law 318 = .ok (.iconst 2, 1) := by decide +kernel
theorem dL_law_319 : decode cL_law 319 = .ok (.iadd, 1) := by decide +kernel
theorem dL_law_320 : decode cL_law 320 = .ok (.iaload, 1) := by decide +kernel
theorem dL_law_321 : decode cL_law 321 = .ok (.aload_n 0, 1) := by decide +kernel
theorem dL_law_322 : decode cL_law 322 = .ok (.iload_n 3, 1) := by decide +kernel
theorem dL_law_323 : decode cL_law 323 = .ok (.iconst 3, 1) := by decide +kernel
theorem dL_law_324 : decode cL_law 324 = .ok (.iadd, 1) := by decide +kernel
theorem dL_law_325 : decode cL_law 325 = .ok (.iaload, 1) := by decide +kernel
theorem dL_law_326 : decode cL_law 326 = .ok (.invokevirtual 32, 3) := by decide +kernel
theorem dL_law_329 : decode cL_law 329 = .ok (.if_icmp .eq 886, 3) := by decide +kernel
theorem dL_law_332 : decode cL_law 332 = .ok (.iconst 0, 1) := by decide +kernel
theorem dL_law_333 : decode cL_law 333 = .ok (.ireturn, 1) := by decide +kernel
theorem dL_law_334 : decode cL_law 334 = .ok (.aload_n 1, 1) := by decide +kernel
theorem dL_law_335 : decode cL_law 335 = .ok (.aload_n 0, 1) := by decide +kernel
theorem dL_law_336 : decode cL_law 336 = .ok (.iload_n 3, 1) := by decide +kernel
theorem dL_law_337 : decode cL_law 337 = .ok (.iconst 1, 1) := by decide +kernel
theorem dL_law_338 : decode cL_law 338 = .ok (.iadd, 1) := by decide +kernel
theorem dL_law_339 : decode cL_law 339 = .ok (.iaload, 1) := by decide +kernel
theorem dL_law_340 : decode cL_law 340 = .ok (.aload_n 0, 1) := by decide +kernel
theorem dL_law_341 : decode cL_law 341 = .ok (.iload_n 3, 1) := by decide +kernel
theorem dL_law_342 : decode cL_law 342 = .ok (.iconst 2, 1) := by decide +kernel
theorem dL_law_343 : decode cL_law 343 = .ok (.iadd, 1) := by decide +kernel
theorem dL_law_344 : decode cL_law 344 = .ok (.iaload, 1) := by decide +kernel
theorem dL_law_345 : decode cL_law 345 = .ok (.aload_n 0, 1) := by decide +kernel
theorem dL_law_346 : decode cL_law 346 = .ok (.iload_n 3, 1) := by decide +kernel
theorem dL_law_347 : decode cL_law 347 = .ok (.iconst 3, 1) := by decide +kernel
theorem dL_law_348 : decode cL_law 348 = .ok (.iadd, 1) := by decide +kernel
theorem dL_law_349 : decode cL_law 349 = .ok (.iaload, 1) := by decide +kernel
theorem dL_law_350 : decode cL_law 350 = .ok (.aload_n 0, 1) := by decide +kernel
theorem dL_law_351 : decode cL_law 351 = .ok (.iload_n 3, 1) := by decide +kernel
theorem dL_law_352 : decode cL_law 352 = .ok (.iconst 4, 1) := by decide +kernel
theorem dL_law_353 : decode cL_law 353 = .ok (.iadd, 1) := by decide +kernel
theorem dL_law_354 : decode cL_law 354 = .ok (.iaload, 1) := by decide +kernel
theorem dL_law_355 : decode cL_law 355 = .ok (.aload_n 0, 1) := by decide +kernel
theorem dL_law_356 : decode cL_law 356 = .ok (.iload_n 3, 1) := by decide +kernel
theorem dL_law_357 : decode cL_law 357 = .ok (.iconst 5, 1) := by decide +kernel
theorem dL_law_358 : decode cL_law 358 = .ok (.iadd, 1) := by decide +kernel
theorem dL_law_359 : decode cL_law 359 = .ok (.iaload, 1) := by decide +kernel
theorem dL_law_360 : decode cL_law 360 = .ok (.aload_n 0, 1) := by decide +kernel
theorem dL_law_361 : decode cL_law 361 = .ok (.iload_n 3, 1) := by decide +kernel
theorem dL_law_362 : decode cL_law 362 = .ok (.bipush 6, 2) := by decide +kernel
theorem dL_law_364 : decode cL_law 364 = .ok (.iadd, 1) := by decide +kernel
theorem dL_law_365 : decode cL_law 365 = .ok (.iaload, 1) := by decide +kernel
theorem dL_law_366 : decode cL_law 366 = .ok (.invokevirtual 33, 3) := by decide +kernel
theorem dL_law_369 : decode cL_law 369 = .ok (.aload_n 2, 1) := by decide +kernel
theorem dL_law_370 : decode cL_law 370 = .ok (.aload_n 0, 1) := by decide +kernel
theorem dL_law_371 : decode cL_law 371 = .ok (.iload_n 3, 1) := by decide +kernel
theorem dL_law_372 : decode cL_law 372 = .ok (.iconst 1, 1) := by decide +kernel
theorem dL_law_373 : decode cL_law 373 = .ok (.iadd, 1) := by decide +kernel
theorem dL_law_374 : decode cL_law 374 = .ok (.iaload, 1) := by decide +kernel
theorem dL_law_375 : decode cL_law 375 = .ok (.aload_n 0, 1) := by decide +kernel
theorem dL_law_376 : decode cL_law 376 = .ok (.iload_n 3, 1) := by decide +kernel
theorem dL_law_377 : decode cL_law 377 = .ok (.iconst 2, 1) := by decide +kernel
theorem dL_law_378 : decode cL_law 378 = .ok (.iadd, 1) := by decide +kernel
theorem dL_law_379 : decode cL_law 379 = .ok (.iaload, 1) := by decide +kernel
theorem dL_law_380 : decode cL_law 380 = .ok (.aload_n 0, 1) := by decide +kernel
theorem dL_law_381 : decode cL_law 381 = .ok (.iload_n 3, 1) := by decide +kernel
theorem dL_law_382 : decode cL_law 382 = .ok (.iconst 3, 1) := by decide +kernel
theorem dL_law_383 : decode cL_law 383 = .ok (.iadd, 1) := by decide +kernel
theorem dL_law_384 : decode cL_law 384 = .ok (.iaload, 1) := by decide +kernel
theorem dL_law_385 : decode cL_law 385 = .ok (.aload_n 0, 1) := by decide +kernel
theorem dL_law_386 : decode cL_law 386 = .ok (.iload_n 3, 1) := by decide +kernel
theorem dL_law_387 : decode cL_law 387 = .ok (.iconst 4, 1) := by decide +kernel
theorem dL_law_388 : decode cL_law 388 = .ok (.iadd, 1) := by decide +kernel
theorem dL_law_389 : decode cL_law 389 = .ok (.iaload, 1) := by decide +kernel
theorem dL_law_390 : decode cL_law 390 = .ok (.aload_n 0, 1) := by decide +kernel
theorem dL_law_391 : decode cL_law 391 = .ok (.iload_n 3, 1) := by decide +kernel
theorem dL_law_392 : decode cL_law 392 = .ok (.iconst 5, 1) := by decide +kernel
theorem dL_law_393 : decode cL_law 393 = .ok (.iadd, 1) := by decide +kernel
theorem dL_law_394 : decode cL_law 394 = .ok (.iaload, 1) := by decide +kernel
theorem dL_law_395 : decode cL_law 395 = .ok (.aload_n 0, 1) := by decide +kernel
theorem dL_law_396 : decode cL_law 396 = .ok (.iload_n 3, 1) := by decide +kernel
theorem dL_law_397 : decode cL_law 397 = .ok (.bipush 6, 2) := by decide +kernel
theorem dL_law_399 : decode cL_law 399 = .ok (.iadd, 1) := by decide +kernel
theorem dL_law_400 : decode cL_law 400 = .ok (.iaload, 1) := by decide +kernel
theorem dL_law_401 : decode cL_law 401 = .ok (.invokevirtual 37, 3) := by decide +kernel
theorem dL_law_404 : decode cL_law 404 = .ok (.if_icmp .eq 811, 3) := by decide +kernel
theorem dL_law_407 : decode cL_law 407 = .ok (.iconst 0, 1) := by decide +kernel
theorem dL_law_408 : decode cL_law 408 = .ok (.ireturn, 1) := by decide +kernel
theorem dL_law_409 : decode cL_law 409 = .ok (.aload_n 1, 1) := by decide +kernel
theorem dL_law_410 : decode cL_law 410 = .ok (.aload_n 0, 1) := by decide +kernel
theorem dL_law_411 : decode cL_law 411 = .ok (.iload_n 3, 1) := by decide +kernel
theorem dL_law_412 : decode cL_law 412 = .ok (.iconst 1, 1) := by decide +kernel
theorem dL_law_413 : decode cL_law 413 = .ok (.iadd, 1) := by decide +kernel
theorem dL_law_414 : decode cL_law 414 = .ok (.iaload, 1) := by decide +kernel
theorem dL_law_415 : decode cL_law 415 = .ok (.invokevirtual 38, 3) := by decide +kernel
theorem dL_law_418 : decode cL_law 418 = .ok (.aload_n 2, 1) := by decide +kernel
theorem dL_law_419 : decode cL_law 419 = .ok (.aload_n 0, 1) := by decide +kernel
theorem dL_law_420 : decode cL_law 420 = .ok (.iload_n 3, 1) := by decide +kernel
theorem dL_law_421 : decode cL_law 421 = .ok (.iconst 1, 1) := by decide +kernel
theorem dL_law_422 : decode cL_law 422 = .ok (.iadd, 1) := by decide +kernel
theorem dL_law_423 : decode cL_law 423 = .ok (.iaload, 1) := by decide +kernel
theorem dL_law_424 : decode cL_law 424 = .ok (.invokevirtual 42, 3) := by decide +kernel
theorem dL_law_427 : decode cL_law 427 = .ok (.if_icmp .eq 788, 3) := by decide +kernel
theorem dL_law_430 : decode cL_law 430 = .ok (.iconst 0, 1) := by decide +kernel
theorem dL_law_431 : decode cL_law 431 = .ok (.ireturn, 1) := by decide +kernel
theorem dL_law_432 : decode cL_law 432 = .ok (.aload_n 1, 1) := by decide +kernel
theorem dL_law_433 : decode cL_law 433 = .ok (.aload_n 0, 1) := by decide +kernel
theorem dL_law_434 : decode cL_law 434 = .ok (.iload_n 3, 1) := by decide +kernel
theorem dL_law_435 : decode cL_law 435 = .ok (.iconst 1, 1) := by decide +kernel
theorem dL_law_436 : decode cL_law 436 = .ok (.iadd, 1) := by decide +kernel
theorem dL_law_437 : decode cL_law 437 = .ok (.iaload, 1) := by decide +kernel
theorem dL_law_438 : decode cL_law 438 = .ok (.aload_n 0, 1) := by decide +kernel
theorem dL_law_439 : decode cL_law 439 = .ok (.iload_n 3, 1) := by decide +kernel
theorem dL_law_440 : decode cL_law 440 = .ok (.iconst 2, 1) := by decide +kernel
theorem dL_law_441 : decode cL_law 441 = .ok (.iadd, 1) := by decide +kernel
theorem dL_law_442 : decode cL_law 442 = .ok (.iaload, 1) := by decide +kernel
theorem dL_law_443 : decode cL_law 443 = .ok (.invokevirtual 43, 3) := by decide +kernel
theorem dL_law_446 : decode cL_law 446 = .ok (.aload_n 2, 1) := by decide +kernel
theorem dL_law_447 : decode cL_law 447 = .ok (.aload_n 0, 1) := by decide +kernel
theorem dL_law_448 : decode cL_law 448 = .ok (.iload_n 3, 1) := by decide +kernel
theorem dL_law_449 : decode cL_law 449 = .ok (.iconst 1, 1) := by decide +kernel
theorem dL_law_450 : decode cL_law 450 = .ok (.iadd, 1) := by decide +kernel
theorem dL_law_451 : decode cL_law 451 = .ok (.iaload, 1) := by decide +kernel
theorem dL_law_452 : decode cL_law 452 = .ok (.aload_n 0, 1) := by decide +kernel
theorem dL_law_453 : decode cL_law 453 = .ok (.iload_n 3, 1) := by decide +kernel
theorem dL_law_454 : decode cL_law 454 = .ok (.iconst 2, 1) := by decide +kernel
theorem dL_law_455 : decode cL_law 455 = .ok (.iadd, 1) := by decide +kernel
theorem dL_law_456 : decode cL_law 456 = .ok (.iaload, 1) := by decide +kernel
theorem dL_law_457 : decode cL_law 457 = .ok (.invokevirtual 47, 3) := by decide +kernel
theorem dL_law_460 : decode cL_law 460 = .ok (.if_icmp .eq 755, 3) := by decide +kernel
theorem dL_law_463 : decode cL_law 463 = .ok (.iconst 0, 1) := by decide +kernel
theorem dL_law_464 : decode cL_law 464 = .ok (.ireturn, 1) := by decide +kernel
theorem dL_law_465 : decode cL_law 465 = .ok (.aload_n 1, 1) := by decide +kernel
theorem dL_law_466 : decode cL_law 466 = .ok (.aload_n 0, 1) := by decide +kernel
theorem dL_law_467 : decode cL_law 467 = .ok (.iload_n 3, 1) := by decide +kernel
theorem dL_law_468 : decode cL_law 468 = .ok (.iconst 1, 1) := by decide +kernel
theorem dL_law_469 : decode cL_law 469 = .ok (.iadd, 1) := by decide +kernel
theorem dL_law_470 : decode cL_law 470 = .ok (.iaload, 1) := by decide +kernel
theorem dL_law_471 : decode cL_law 471 = .ok (.aload_n 0, 1) := by decide +kernel
theorem dL_law_472 : decode cL_law 472 = .ok (.iload_n 3, 1) := by decide +kernel
theorem dL_law_473 : decode cL_law 473 = .ok (.iconst 2, 1) := by decide +kernel
theorem dL_law_474 : decode cL_law 474 = .ok (.iadd, 1) := by decide +kernel
theorem dL_law_475 : decode cL_law 475 = .ok (.iaload, 1) := by decide +kernel
theorem dL_law_476 : decode cL_law 476 = .ok (.invokevirtual 48, 3) := by decide +kernel
theorem dL_law_479 : decode cL_law 479 = .ok (.aload_n 2, 1) := by decide +kernel
theorem dL_law_480 : decode cL_law 480 = .ok (.aload_n 0, 1) := by decide +kernel
theorem dL_law_481 : decode cL_law 481 = .ok (.iload_n 3, 1) := by decide +kernel
theorem dL_law_482 : decode cL_law 482 = .ok (.iconst 1, 1) := by decide +kernel
theorem dL_law_483 : decode cL_law 483 = .ok (.iadd, 1) := by decide +kernel
theorem dL_law_484 : decode cL_law 484 = .ok (.iaload, 1) := by decide +kernel
theorem dL_law_485 : decode cL_law 485 = .ok (.aload_n 0, 1) := by decide +kernel
theorem dL_law_486 : decode cL_law 486 = .ok (.iload_n 3, 1) := by decide +kernel
theorem dL_law_487 : decode cL_law 487 = .ok (.iconst 2, 1) := by decide +kernel
theorem dL_law_488 : decode cL_law 488 = .ok (.iadd, 1) := by decide +kernel
theorem dL_law_489 : decode cL_law 489 = .ok (.iaload, 1) := by decide +kernel
theorem dL_law_490 : decode cL_law 490 = .ok (.invokevirtual 52, 3) := by decide +kernel
theorem dL_law_493 : decode cL_law 493 = .ok (.if_icmp .eq 722, 3) := by decide +kernel
theorem dL_law_496 : decode cL_law 496 = .ok (.iconst 0, 1) := by decide +kernel
theorem dL_law_497 : decode cL_law 497 = .ok (.ireturn, 1) := by decide +kernel
theorem dL_law_498 : decode cL_law 498 = .ok (.aload_n 1, 1) := by decide +kernel
theorem dL_law_499 : decode cL_law 499 = .ok (.aload_n 0, 1) := by decide +kernel
theorem dL_law_500 : decode cL_law 500 = .ok (.iload_n 3, 1) := by decide +kernel
theorem dL_law_501 : decode cL_law 501 = .ok (.iconst 1, 1) := by decide +kernel
theorem dL_law_502 : decode cL_law 502 = .ok (.iadd, 1) := by decide +kernel
theorem dL_law_503 : decode cL_law 503 = .ok (.iaload, 1) := by decide +kernel
theorem dL_law_504 : decode cL_law 504 = .ok (.aload_n 0, 1) := by decide +kernel
theorem dL_law_505 : decode cL_law 505 = .ok (.iload_n 3, 1) := by decide +kernel
theorem dL_law_506 : decode cL_law 506 = .ok (.iconst 2, 1) := by decide +kernel
theorem dL_law_507 : decode cL_law 507 = .ok (.iadd, 1) := by decide +kernel
theorem dL_law_508 : decode cL_law 508 = .ok (.iaload, 1) := by decide +kernel
theorem dL_law_509 : decode cL_law 509 = .ok (.invokevirtual 53, 3) := by decide +kernel
theorem dL_law_512 : decode cL_law 512 = .ok (.aload_n 2, 1) := by decide +kernel
theorem dL_law_513 : decode cL_law 513 = .ok (.aload_n 0, 1) := by decide +kernel
theorem dL_law_514 : decode cL_law 514 = .ok (.iload_n 3, 1) := by decide +kernel
theorem dL_law_515 : decode cL_law 515 = .ok (.iconst 1, 1) := by decide +kernel
theorem dL_law_516 : decode cL_law 516 = .ok (.iadd, 1) := by decide +kernel
theorem dL_law_517 : decode cL_law 517 = .ok (.iaload, 1) := by decide +kernel
theorem dL_law_518 : decode cL_law 518 = .ok (.aload_n 0, 1) := by decide +kernel
theorem dL_law_519 : decode cL_law 519 = .ok (.iload_n 3, 1) := by decide +kernel
theorem dL_law_520 : decode cL_law 520 = .ok (.iconst 2, 1) := by decide +kernel
theorem dL_law_521 : decode cL_law 521 = .ok (.iadd, 1) := by decide +kernel
theorem dL_law_522 : decode cL_law 522 = .ok (.iaload, 1) := by decide +kernel
theorem dL_law_523 : decode cL_law 523 = .ok (.invokevirtual 56, 3) := by decide +kernel
theorem dL_law_526 : decode cL_law 526 = .ok (.if_icmp .eq 689, 3) := by decide +kernel
theorem dL_law_529 : decode cL_law 529 = .ok (.iconst 0, 1) := by decide +kernel
theorem dL_law_530 : decode cL_law 530 = .ok (.ireturn, 1) := by decide +kernel
theorem dL_law_531 : decode cL_law 531 = .ok (.aload_n 1, 1) := by decide +kernel
theorem dL_law_532 : decode cL_law 532 = .ok (.aload_n 0, 1) := by decide +kernel
theorem dL_law_533 : decode cL_law 533 = .ok (.iload_n 3, 1) := by decide +kernel
theorem dL_law_534 : decode cL_law 534 = .ok (.iconst 1, 1) := by decide +kernel
theorem dL_law_535 : decode cL_law 535 = .ok (.iadd, 1) := by decide +kernel
theorem dL_law_536 : decode cL_law 536 = .ok (.iaload, 1) := by decide +kernel
theorem dL_law_537 : decode cL_law 537 = .ok (.aload_n 0, 1) := by decide +kernel
theorem dL_law_538 : decode cL_law 538 = .ok (.iload_n 3, 1) := by decide +kernel
theorem dL_law_539 : decode cL_law 539 = .ok (.iconst 2, 1) := by decide +kernel
theorem dL_law_540 : decode cL_law 540 = .ok (.iadd, 1) := by decide +kernel
theorem dL_law_541 : decode cL_law 541 = .ok (.iaload, 1) := by decide +kernel
theorem dL_law_542 : decode cL_law 542 = .ok (.aload_n 0, 1) := by decide +kernel
theorem dL_law_543 : decode cL_law 543 = .ok (.iload_n 3, 1) := by decide +kernel
theorem dL_law_544 : decode cL_law 544 = .ok (.iconst 3, 1) := by decide +kernel
theorem dL_law_545 : decode cL_law 545 = .ok (.iadd, 1) := by decide +kernel
theorem dL_law_546 : decode cL_law 546 = .ok (.iaload, 1) := by decide +kernel
theorem dL_law_547 : decode cL_law 547 = .ok (.invokevirtual 57, 3) := by decide +kernel
theorem dL_law_550 : decode cL_law 550 = .ok (.aload_n 2, 1) := by decide +kernel
theorem dL_law_551 : decode cL_law 551 = .ok (.aload_n 0, 1) := by decide +kernel
theorem dL_law_552 : decode cL_law 552 = .ok (.iload_n 3, 1) := by decide +kernel
theorem dL_law_553 : decode cL_law 553 = .ok (.iconst 1, 1) := by decide +kernel
theorem dL_law_554 : decode cL_law 554 = .ok (.iadd, 1) := by decide +kernel
theorem dL_law_555 : decode cL_law 555 = .ok (.iaload, 1) := by decide +kernel
theorem dL_law_556 : decode cL_law 556 = .ok (.aload_n 0, 1) := by decide +kernel
theorem dL_law_557 : decode cL_law 557 = .ok (.iload_n 3, 1) := by decide +kernel
theorem dL_law_558 : decode cL_law 558 = .ok (.iconst 2, 1) := by decide +kernel
theorem dL_law_559 : decode cL_law 559 = .ok (.iadd, 1) := by decide +kernel
theorem dL_law_560 : decode cL_law 560 = .ok (.iaload, 1) := by decide +kernel
theorem dL_law_561 : decode cL_law 561 = .ok (.aload_n 0, 1) := by decide +kernel
theorem dL_law_562 : decode cL_law 562 = .ok (.iload_n 3, 1) := by decide +kernel
theorem dL_law_563 : decode cL_law 563 = .ok (.iconst 3, 1) := by decide +kernel
theorem dL_law_564 : decode cL_law 564 = .ok (.iadd, 1) := by decide +kernel
theorem dL_law_565 : decode cL_law 565 = .ok (.iaload, 1) := by decide +kernel
theorem dL_law_566 : decode cL_law 566 = .ok (.invokevirtual 61, 3) := by decide +kernel
theorem dL_law_569 : decode cL_law 569 = .ok (.if_icmp .eq 646, 3) := by decide +kernel
theorem dL_law_572 : decode cL_law 572 = .ok (.iconst 0, 1) := by decide +kernel
theorem dL_law_573 : decode cL_law 573 = .ok (.ireturn, 1) := by decide +kernel
theorem dL_law_574 : decode cL_law 574 = .ok (.aload_n 1, 1) := by decide +kernel
theorem dL_law_575 : decode cL_law 575 = .ok (.aload_n 0, 1) := by decide +kernel
theorem dL_law_576 : decode cL_law 576 = .ok (.iload_n 3, 1) := by decide +kernel
theorem dL_law_577 : decode cL_law 577 = .ok (.iconst 1, 1) := by decide +kernel
theorem dL_law_578 : decode cL_law 578 = .ok (.iadd, 1) := by decide +kernel
theorem dL_law_579 : decode cL_law 579 = .ok (.iaload, 1) := by decide +kernel
theorem dL_law_580 : decode cL_law 580 = .ok (.aload_n 0, 1) := by decide +kernel
theorem dL_law_581 : decode cL_law 581 = .ok (.iload_n 3, 1) := by decide +kernel
theorem dL_law_582 : decode cL_law 582 = .ok (.iconst 2, 1) := by decide +kernel
theorem dL_law_583 : decode cL_law 583 = .ok (.iadd, 1) := by decide +kernel
theorem dL_law_584 : decode cL_law 584 = .ok (.iaload, 1) := by decide +kernel
theorem dL_law_585 : decode cL_law 585 = .ok (.invokevirtual 62, 3) := by decide +kernel
theorem dL_law_588 : decode cL_law 588 = .ok (.aload_n 2, 1) := by decide +kernel
theorem dL_law_589 : decode cL_law 589 = .ok (.aload_n 0, 1) := by decide +kernel
theorem dL_law_590 : decode cL_law 590 = .ok (.iload_n 3, 1) := by decide +kernel
theorem dL_law_591 : decode cL_law 591 = .ok (.iconst 1, 1) := by decide +kernel
theorem dL_law_592 : decode cL_law 592 = .ok (.iadd, 1) := by decide +kernel
theorem dL_law_593 : decode cL_law 593 = .ok (.iaload, 1) := by decide +kernel
theorem dL_law_594 : decode cL_law 594 = .ok (.aload_n 0, 1) := by decide +kernel
theorem dL_law_595 : decode cL_law 595 = .ok (.iload_n 3, 1) := by decide +kernel
theorem dL_law_596 : decode cL_law 596 = .ok (.iconst 2, 1) := by decide +kernel
theorem dL_law_597 : decode cL_law 597 = .ok (.iadd, 1) := by decide +kernel
theorem dL_law_598 : decode cL_law 598 = .ok (.iaload, 1) := by decide +kernel
theorem dL_law_599 : decode cL_law 599 = .ok (.invokevirtual 65, 3) := by decide +kernel
theorem dL_law_602 : decode cL_law 602 = .ok (.if_icmp .eq 613, 3) := by decide +kernel
theorem dL_law_605 : decode cL_law 605 = .ok (.iconst 0, 1) := by decide +kernel
theorem dL_law_606 : decode cL_law 606 = .ok (.ireturn, 1) := by decide +kernel
theorem dL_law_607 : decode cL_law 607 = .ok (.aload_n 1, 1) := by decide +kernel
theorem dL_law_608 : decode cL_law 608 = .ok (.aload_n 0, 1) := by decide +kernel
theorem dL_law_609 : decode cL_law 609 = .ok (.iload_n 3, 1) := by decide +kernel
theorem dL_law_610 : decode cL_law 610 = .ok (.iconst 1, 1) := by decide +kernel
theorem dL_law_611 : decode cL_law 611 = .ok (.iadd, 1) := by decide +kernel
theorem dL_law_612 : decode cL_law 612 = .ok (.iaload, 1) := by decide +kernel
theorem dL_law_613 : decode cL_law 613 = .ok (.invokevirtual 66, 3) := by decide +kernel
theorem dL_law_616 : decode cL_law 616 = .ok (.aload_n 2, 1) := by decide +kernel
theorem dL_law_617 : decode cL_law 617 = .ok (.aload_n 0, 1) := by decide +kernel
theorem dL_law_618 : decode cL_law 618 = .ok (.iload_n 3, 1) := by decide +kernel
theorem dL_law_619 : decode cL_law 619 = .ok (.iconst 1, 1) := by decide +kernel
theorem dL_law_620 : decode cL_law 620 = .ok (.iadd, 1) := by decide +kernel
theorem dL_law_621 : decode cL_law 621 = .ok (.iaload, 1) := by decide +kernel
theorem dL_law_622 : decode cL_law 622 = .ok (.invokevirtual 69, 3) := by decide +kernel
theorem dL_law_625 : decode cL_law 625 = .ok (.if_icmp .eq 590, 3) := by decide +kernel
theorem dL_law_628 : decode cL_law 628 = .ok (.iconst 0, 1) := by decide +kernel
theorem dL_law_629 : decode cL_law 629 = .ok (.ireturn, 1) := by decide +kernel
theorem dL_law_630 : decode cL_law 630 = .ok (.aload_n 1, 1) := by decide +kernel
theorem dL_law_631 : decode cL_law 631 = .ok (.aload_n 0, 1) := by decide +kernel
theorem dL_law_632 : decode cL_law 632 = .ok (.iload_n 3, 1) := by decide +kernel
theorem dL_law_633 : decode cL_law 633 = .ok (.iconst 1, 1) := by decide +kernel
theorem dL_law_634 : decode cL_law 634 = .ok (.iadd, 1) := by decide +kernel
theorem dL_law_635 : decode cL_law 635 = .ok (.iaload, 1) := by decide +kernel
theorem dL_law_636 : decode cL_law 636 = .ok (.aload_n 0, 1) := by decide +kernel
theorem dL_law_637 : decode cL_law 637 = .ok (.iload_n 3, 1) := by decide +kernel
theorem dL_law_638 : decode cL_law 638 = .ok (.iconst 2, 1) := by decide +kernel
theorem dL_law_639 : decode cL_law 639 = .ok (.iadd, 1) := by decide +kernel
theorem dL_law_640 : decode cL_law 640 = .ok (.iaload, 1) := by decide +kernel
theorem dL_law_641 : decode cL_law 641 = .ok (.invokevirtual 70, 3) := by decide +kernel
theorem dL_law_644 : decode cL_law 644 = .ok (.aload_n 2, 1) := by decide +kernel
theorem dL_law_645 : decode cL_law 645 = .ok (.aload_n 0, 1) := by decide +kernel
theorem dL_law_646 : decode cL_law 646 = .ok (.iload_n 3, 1) := by decide +kernel
theorem dL_law_647 : decode cL_law 647 = .ok (.iconst 1, 1) := by decide +kernel
theorem dL_law_648 : decode cL_law 648 = .ok (.iadd, 1) := by decide +kernel
theorem dL_law_649 : decode cL_law 649 = .ok (.iaload, 1) := by decide +kernel
theorem dL_law_650 : decode cL_law 650 = .ok (.aload_n 0, 1) := by decide +kernel
theorem dL_law_651 : decode cL_law 651 = .ok (.iload_n 3, 1) := by decide +kernel
theorem dL_law_652 : decode cL_law 652 = .ok (.iconst 2, 1) := by decide +kernel
theorem dL_law_653 : decode cL_law 653 = .ok (.iadd, 1) := by decide +kernel
theorem dL_law_654 : decode cL_law 654 = .ok (.iaload, 1) := by decide +kernel
theorem dL_law_655 : decode cL_law 655 = .ok (.invokevirtual 73, 3) := by decide +kernel
theorem dL_law_658 : decode cL_law 658 = .ok (.if_icmp .eq 557, 3) := by decide +kernel
theorem dL_law_661 : decode cL_law 661 = .ok (.iconst 0, 1) := by decide +kernel
theorem dL_law_662 : decode cL_law 662 = .ok (.ireturn, 1) := by decide +kernel
theorem dL_law_663 : decode cL_law 663 = .ok (.aload_n 1, 1) := by decide +kernel
theorem dL_law_664 : decode cL_law 664 = .ok (.aload_n 0, 1) := by decide +kernel
theorem dL_law_665 : decode cL_law 665 = .ok (.iload_n 3, 1) := by decide +kernel
theorem dL_law_666 : decode cL_law 666 = .ok (.iconst 1, 1) := by decide +kernel
theorem dL_law_667 : decode cL_law 667 = .ok (.iadd, 1) := by decide +kernel
theorem dL_law_668 : decode cL_law 668 = .ok (.iaload, 1) := by decide +kernel
theorem dL_law_669 : decode cL_law 669 = .ok (.aload_n 0, 1) := by decide +kernel
theorem dL_law_670 : decode cL_law 670 = .ok (.iload_n 3, 1) := by decide +kernel
theorem dL_law_671 : decode cL_law 671 = .ok (.iconst 2, 1) := by decide +kernel
theorem dL_law_672 : decode cL_law 672 = .ok (.iadd, 1) := by decide +kernel
theorem dL_law_673 : decode cL_law 673 = .ok (.iaload, 1) := by decide +kernel
theorem dL_law_674 : decode cL_law 674 = .ok (.invokevirtual 74, 3) := by decide +kernel
theorem dL_law_677 : decode cL_law 677 = .ok (.aload_n 2, 1) := by decide +kernel
theorem dL_law_678 : decode cL_law 678 = .ok (.aload_n 0, 1) := by decide +kernel
theorem dL_law_679 : decode cL_law 679 = .ok (.iload_n 3, 1) := by decide +kernel
theorem dL_law_680 : decode cL_law 680 = .ok (.iconst 1, 1) := by decide +kernel
theorem dL_law_681 : decode cL_law 681 = .ok (.iadd, 1) := by decide +kernel
theorem dL_law_682 : decode cL_law 682 = .ok (.iaload, 1) := by decide +kernel
theorem dL_law_683 : decode cL_law 683 = .ok (.aload_n 0, 1) := by decide +kernel
theorem dL_law_684 : decode cL_law 684 = .ok (.iload_n 3, 1) := by decide +kernel
theorem dL_law_685 : decode cL_law 685 = .ok (.iconst 2, 1) := by decide +kernel
theorem dL_law_686 : decode cL_law 686 = .ok (.iadd, 1) := by decide +kernel
theorem dL_law_687 : decode cL_law 687 = .ok (.iaload, 1) := by decide +kernel
theorem dL_law_688 : decode cL_law 688 = .ok (.invokevirtual 77, 3) := by decide +kernel
theorem dL_law_691 : decode cL_law 691 = .ok (.if_icmp .eq 524, 3) := by decide +kernel
theorem dL_law_694 : decode cL_law 694 = .ok (.iconst 0, 1) := by decide +kernel
theorem dL_law_695 : decode cL_law 695 = .ok (.ireturn, 1) := by decide +kernel
theorem dL_law_696 : decode cL_law 696 = .ok (.aload_n 1, 1) := by decide +kernel
theorem dL_law_697 : decode cL_law 697 = .ok (.aload_n 0, 1) := by decide +kernel
theorem dL_law_698 : decode cL_law 698 = .ok (.iload_n 3, 1) := by decide +kernel
theorem dL_law_699 : decode cL_law 699 = .ok (.iconst 1, 1) := by decide +kernel
theorem dL_law_700 : decode cL_law 700 = .ok (.iadd, 1) := by decide +kernel
theorem dL_law_701 : decode cL_law 701 = .ok (.iaload, 1) := by decide +kernel
theorem dL_law_702 : decode cL_law 702 = .ok (.aload_n 0, 1) := by decide +kernel
theorem dL_law_703 : decode cL_law 703 = .ok (.iload_n 3, 1) := by decide +kernel
theorem dL_law_704 : decode cL_law 704 = .ok (.iconst 2, 1) := by decide +kernel
theorem dL_law_705 : decode cL_law 705 = .ok (.iadd, 1) := by decide +kernel
theorem dL_law_706 : decode cL_law 706 = .ok (.iaload, 1) := by decide +kernel
theorem dL_law_707 : decode cL_law 707 = .ok (.invokevirtual 78, 3) := by decide +kernel
theorem dL_law_710 : decode cL_law 710 = .ok (.aload_n 2, 1) := by decide +kernel
theorem dL_law_711 : decode cL_law 711 = .ok (.aload_n 0, 1) := by decide +kernel
theorem dL_law_712 : decode cL_law 712 = .ok (.iload_n 3, 1) := by decide +kernel
theorem dL_law_713 : decode cL_law 713 = .ok (.iconst 1, 1) := by decide +kernel
theorem dL_law_714 : decode cL_law 714 = .ok (.iadd, 1) := by decide +kernel
theorem dL_law_715 : decode cL_law 715 = .ok (.iaload, 1) := by decide +kernel
theorem dL_law_716 : decode cL_law 716 = .ok (.aload_n 0, 1) := by decide +kernel
theorem dL_law_717 : decode cL_law 717 = .ok (.iload_n 3, 1) := by decide +kernel
theorem dL_law_718 : decode cL_law 718 = .ok (.iconst 2, 1) := by decide +kernel
theorem dL_law_719 : decode cL_law 719 = .ok (.iadd, 1) := by decide +kernel
theorem dL_law_720 : decode cL_law 720 = .ok (.iaload, 1) := by decide +kernel
theorem dL_law_721 : decode cL_law 721 = .ok (.invokevirtual 81, 3) := by decide +kernel
theorem dL_law_724 : decode cL_law 724 = .ok (.if_icmp .eq 491, 3) := by decide +kernel
theorem dL_law_727 : decode cL_law 727 = .ok (.iconst 0, 1) := by decide +kernel
theorem dL_law_728 : decode cL_law 728 = .ok (.ireturn, 1) := by decide +kernel
theorem dL_law_729 : decode cL_law 729 = .ok (.aload_n 1, 1) := by decide +kernel
theorem dL_law_730 : decode cL_law 730 = .ok (.aload_n 0, 1) := by decide +kernel
theorem dL_law_731 : decode cL_law 731 = .ok (.iload_n 3, 1) := by decide +kernel
theorem dL_law_732 : decode cL_law 732 = .ok (.iconst 1, 1) := by decide +kernel
theorem dL_law_733 : decode cL_law 733 = .ok (.iadd, 1) := by decide +kernel
theorem dL_law_734 : decode cL_law 734 = .ok (.iaload, 1) := by decide +kernel
theorem dL_law_735 : decode cL_law 735 = .ok (.invokevirtual 82, 3) := by decide +kernel
theorem dL_law_738 : decode cL_law 738 = .ok (.aload_n 2, 1) := by decide +kernel
theorem dL_law_739 : decode cL_law 739 = .ok (.aload_n 0, 1) := by decide +kernel
theorem dL_law_740 : decode cL_law 740 = .ok (.iload_n 3, 1) := by decide +kernel
theorem dL_law_741 : decode cL_law 741 = .ok (.iconst 1, 1) := by decide +kernel
theorem dL_law_742 : decode cL_law 742 = .ok (.iadd, 1) := by decide +kernel
theorem dL_law_743 : decode cL_law 743 = .ok (.iaload, 1) := by decide +kernel
theorem dL_law_744 : decode cL_law 744 = .ok (.invokevirtual 85, 3) := by decide +kernel
theorem dL_law_747 : decode cL_law 747 = .ok (.if_icmp .eq 468, 3) := by decide +kernel
theorem dL_law_750 : decode cL_law 750 = .ok (.iconst 0, 1) := by decide +kernel
theorem dL_law_751 : decode cL_law 751 = .ok (.ireturn, 1) := by decide +kernel
theorem dL_law_752 : decode cL_law 752 = .ok (.aload_n 1, 1) := by decide +kernel
theorem dL_law_753 : decode cL_law 753 = .ok (.aload_n 0, 1) := by decide +kernel
theorem dL_law_754 : decode cL_law 754 = .ok (.iload_n 3, 1) := by decide +kernel
theorem dL_law_755 : decode cL_law 755 = .ok (.iconst 1, 1) := by decide +kernel
theorem dL_law_756 : decode cL_law 756 = .ok (.iadd, 1) := by decide +kernel
theorem dL_law_757 : decode cL_law 757 = .ok (.iaload, 1) := by decide +kernel
theorem dL_law_758 : decode cL_law 758 = .ok (.aload_n 0, 1) := by decide +kernel
theorem dL_law_759 : decode cL_law 759 = .ok (.iload_n 3, 1) := by decide +kernel
theorem dL_law_760 : decode cL_law 760 = .ok (.iconst 2, 1) := by decide +kernel
theorem dL_law_761 : decode cL_law 761 = .ok (.iadd, 1) := by decide +kernel
theorem dL_law_762 : decode cL_law 762 = .ok (.iaload, 1) := by decide +kernel
theorem dL_law_763 : decode cL_law 763 = .ok (.invokevirtual 86, 3) := by decide +kernel
theorem dL_law_766 : decode cL_law 766 = .ok (.aload_n 2, 1) := by decide +kernel
theorem dL_law_767 : decode cL_law 767 = .ok (.aload_n 0, 1) := by decide +kernel
theorem dL_law_768 : decode cL_law 768 = .ok (.iload_n 3, 1) := by decide +kernel
theorem dL_law_769 : decode cL_law 769 = .ok (.iconst 1, 1) := by decide +kernel
theorem dL_law_770 : decode cL_law 770 = .ok (.iadd, 1) := by decide +kernel
theorem dL_law_771 : decode cL_law 771 = .ok (.iaload, 1) := by decide +kernel
theorem dL_law_772 : decode cL_law 772 = .ok (.aload_n 0, 1) := by decide +kernel
theorem dL_law_773 : decode cL_law 773 = .ok (.iload_n 3, 1) := by decide +kernel
theorem dL_law_774 : decode cL_law 774 = .ok (.iconst 2, 1) := by decide +kernel
theorem dL_law_775 : decode cL_law 775 = .ok (.iadd, 1) := by decide +kernel
theorem dL_law_776 : decode cL_law 776 = .ok (.iaload, 1) := by decide +kernel
theorem dL_law_777 : decode cL_law 777 = .ok (.invokevirtual 89, 3) := by decide +kernel
theorem dL_law_780 : decode cL_law 780 = .ok (.if_icmp .eq 435, 3) := by decide +kernel
theorem dL_law_783 : decode cL_law 783 = .ok (.iconst 0, 1) := by decide +kernel
theorem dL_law_784 : decode cL_law 784 = .ok (.ireturn, 1) := by decide +kernel
theorem dL_law_785 : decode cL_law 785 = .ok (.aload_n 1, 1) := by decide +kernel
theorem dL_law_786 : decode cL_law 786 = .ok (.aload_n 0, 1) := by decide +kernel
theorem dL_law_787 : decode cL_law 787 = .ok (.iload_n 3, 1) := by decide +kernel
theorem dL_law_788 : decode cL_law 788 = .ok (.iconst 1, 1) := by decide +kernel
theorem dL_law_789 : decode cL_law 789 = .ok (.iadd, 1) := by decide +kernel
theorem dL_law_790 : decode cL_law 790 = .ok (.iaload, 1) := by decide +kernel
theorem dL_law_791 : decode cL_law 791 = .ok (.aload_n 0, 1) := by decide +kernel
theorem dL_law_792 : decode cL_law 792 = .ok (.iload_n 3, 1) := by decide +kernel
theorem dL_law_793 : decode cL_law 793 = .ok (.iconst 2, 1) := by decide +kernel
theorem dL_law_794 : decode cL_law 794 = .ok (.iadd, 1) := by decide +kernel
theorem dL_law_795 : decode cL_law 795 = .ok (.iaload, 1) := by decide +kernel
theorem dL_law_796 : decode cL_law 796 = .ok (.invokevirtual 90, 3) := by decide +kernel
theorem dL_law_799 : decode cL_law 799 = .ok (.aload_n 2, 1) := by decide +kernel
theorem dL_law_800 : decode cL_law 800 = .ok (.aload_n 0, 1) := by decide +kernel
theorem dL_law_801 : decode cL_law 801 = .ok (.iload_n 3, 1) := by decide +kernel
theorem dL_law_802 : decode cL_law 802 = .ok (.iconst 1, 1) := by decide +kernel
theorem dL_law_803 : decode cL_law 803 = .ok (.iadd, 1) := by decide +kernel
theorem dL_law_804 : decode cL_law 804 = .ok (.iaload, 1) := by decide +kernel
theorem dL_law_805 : decode cL_law 805 = .ok (.aload_n 0, 1) := by decide +kernel
theorem dL_law_806 : decode cL_law 806 = .ok (.iload_n 3, 1) := by decide +kernel
theorem dL_law_807 : decode cL_law 807 = .ok (.iconst 2, 1) := by decide +kernel
theorem dL_law_808 : decode cL_law 808 = .ok (.iadd, 1) := by decide +kernel
theorem dL_law_809 : decode cL_law 809 = .ok (.iaload, 1) := by decide +kernel
theorem dL_law_810 : decode cL_law 810 = .ok (.invokevirtual 93, 3) := by decide +kernel
theorem dL_law_813 : decode cL_law 813 = .ok (.if_icmp .eq 402, 3) := by decide +kernel
theorem dL_law_816 : decode cL_law 816 = .ok (.iconst 0, 1) := by decide +kernel
theorem dL_law_817 : decode cL_law 817 = .ok (.ireturn, 1) := by decide +kernel
theorem dL_law_818 : decode cL_law 818 = .ok (.aload_n 1, 1) := by decide +kernel
theorem dL_law_819 : decode cL_law 819 = .ok (.aload_n 0, 1) := by decide +kernel
theorem dL_law_820 : decode cL_law 820 = .ok (.iload_n 3, 1) := by decide +kernel
theorem dL_law_821 : decode cL_law 821 = .ok (.iconst 1, 1) := by decide +kernel
theorem dL_law_822 : decode cL_law 822 = .ok (.iadd, 1) := by decide +kernel
theorem dL_law_823 : decode cL_law 823 = .ok (.iaload, 1) := by decide +kernel
theorem dL_law_824 : decode cL_law 824 = .ok (.aload_n 0, 1) := by decide +kernel
theorem dL_law_825 : decode cL_law 825 = .ok (.iload_n 3, 1) := by decide +kernel
theorem dL_law_826 : decode cL_law 826 = .ok (.iconst 2, 1) := by decide +kernel
theorem dL_law_827 : decode cL_law 827 = .ok (.iadd, 1) := by decide +kernel
theorem dL_law_828 : decode cL_law 828 = .ok (.iaload, 1) := by decide +kernel
theorem dL_law_829 : decode cL_law 829 = .ok (.aload_n 0, 1) := by decide +kernel
theorem dL_law_830 : decode cL_law 830 = .ok (.iload_n 3, 1) := by decide +kernel
theorem dL_law_831 : decode cL_law 831 = .ok (.iconst 3, 1) := by decide +kernel
theorem dL_law_832 : decode cL_law 832 = .ok (.iadd, 1) := by decide +kernel
theorem dL_law_833 : decode cL_law 833 = .ok (.iaload, 1) := by decide +kernel
theorem dL_law_834 : decode cL_law 834 = .ok (.invokevirtual 94, 3) := by decide +kernel
theorem dL_law_837 : decode cL_law 837 = .ok (.aload_n 2, 1) := by decide +kernel
theorem dL_law_838 : decode cL_law 838 = .ok (.aload_n 0, 1) := by decide +kernel
theorem dL_law_839 : decode cL_law 839 = .ok (.iload_n 3, 1) := by decide +kernel
theorem dL_law_840 : decode cL_law 840 = .ok (.iconst 1, 1) := by decide +kernel
theorem dL_law_841 : decode cL_law 841 = .ok (.iadd, 1) := by decide +kernel
theorem dL_law_842 : decode cL_law 842 = .ok (.iaload, 1) := by decide +kernel
theorem dL_law_843 : decode cL_law 843 = .ok (.aload_n 0, 1) := by decide +kernel
theorem dL_law_844 : decode cL_law 844 = .ok (.iload_n 3, 1) := by decide +kernel
theorem dL_law_845 : decode cL_law 845 = .ok (.iconst 2, 1) := by decide +kernel
theorem dL_law_846 : decode cL_law 846 = .ok (.iadd, 1) := by decide +kernel
theorem dL_law_847 : decode cL_law 847 = .ok (.iaload, 1) := by decide +kernel
theorem dL_law_848 : decode cL_law 848 = .ok (.aload_n 0, 1) := by decide +kernel
theorem dL_law_849 : decode cL_law 849 = .ok (.iload_n 3, 1) := by decide +kernel
theorem dL_law_850 : decode cL_law 850 = .ok (.iconst 3, 1) := by decide +kernel
theorem dL_law_851 : decode cL_law 851 = .ok (.iadd, 1) := by decide +kernel
theorem dL_law_852 : decode cL_law 852 = .ok (.iaload, 1) := by decide +kernel
theorem dL_law_853 : decode cL_law 853 = .ok (.invokevirtual 97, 3) := by decide +kernel
theorem dL_law_856 : decode cL_law 856 = .ok (.if_icmp .eq 359, 3) := by decide +kernel
theorem dL_law_859 : decode cL_law 859 = .ok (.iconst 0, 1) := by decide +kernel
theorem dL_law_860 : decode cL_law 860 = .ok (.ireturn, 1) := by decide +kernel
theorem dL_law_861 : decode cL_law 861 = .ok (.aload_n 1, 1) := by decide +kernel
theorem dL_law_862 : decode cL_law 862 = .ok (.aload_n 0, 1) := by decide +kernel
theorem dL_law_863 : decode cL_law 863 = .ok (.iload_n 3, 1) := by decide +kernel
theorem dL_law_864 : decode cL_law 864 = .ok (.iconst 1, 1) := by decide +kernel
theorem dL_law_865 : decode cL_law 865 = .ok (.iadd, 1) := by decide +kernel
theorem dL_law_866 : decode cL_law 866 = .ok (.iaload, 1) := by decide +kernel
theorem dL_law_867 : decode cL_law 867 = .ok (.invokevirtual 98, 3) := by decide +kernel
theorem dL_law_870 : decode cL_law 870 = .ok (.aload_n 2, 1) := by decide +kernel
theorem dL_law_871 : decode cL_law 871 = .ok (.aload_n 0, 1) := by decide +kernel
theorem dL_law_872 : decode cL_law 872 = .ok (.iload_n 3, 1) := by decide +kernel
theorem dL_law_873 : decode cL_law 873 = .ok (.iconst 1, 1) := by decide +kernel
theorem dL_law_874 : decode cL_law 874 = .ok (.iadd, 1) := by decide +kernel
theorem dL_law_875 : decode cL_law 875 = .ok (.iaload, 1) := by decide +kernel
theorem dL_law_876 : decode cL_law 876 = .ok (.invokevirtual 101, 3) := by decide +kernel
theorem dL_law_879 : decode cL_law 879 = .ok (.if_icmp .eq 336, 3) := by decide +kernel
theorem dL_law_882 : decode cL_law 882 = .ok (.iconst 0, 1) := by decide +kernel
theorem dL_law_883 : decode cL_law 883 = .ok (.ireturn, 1) := by decide +kernel
theorem dL_law_884 : decode cL_law 884 = .ok (.aload_n 1, 1) := by decide +kernel
theorem dL_law_885 : decode cL_law 885 = .ok (.aload_n 0, 1) := by decide +kernel
theorem dL_law_886 : decode cL_law 886 = .ok (.iload_n 3, 1) := by decide +kernel
theorem dL_law_887 : decode cL_law 887 = .ok (.iconst 1, 1) := by decide +kernel
theorem dL_law_888 : decode cL_law 888 = .ok (.iadd, 1) := by decide +kernel
theorem dL_law_889 : decode cL_law 889 = .ok (.iaload, 1) := by decide +kernel
theorem dL_law_890 : decode cL_law 890 = .ok (.aload_n 0, 1) := by decide +kernel
theorem dL_law_891 : decode cL_law 891 = .ok (.iload_n 3, 1) := by decide +kernel
theorem dL_law_892 : decode cL_law 892 = .ok (.iconst 2, 1) := by decide +kernel
theorem dL_law_893 : decode cL_law 893 = .ok (.iadd, 1) := by decide +kernel
theorem dL_law_894 : decode cL_law 894 = .ok (.iaload, 1) := by decide +kernel
theorem dL_law_895 : decode cL_law 895 = .ok (.aload_n 0, 1) := by decide +kernel
theorem dL_law_896 : decode cL_law 896 = .ok (.iload_n 3, 1) := by decide +kernel
theorem dL_law_897 : decode cL_law 897 = .ok (.iconst 3, 1) := by decide +kernel
theorem dL_law_898 : decode cL_law 898 = .ok (.iadd, 1) := by decide +kernel
theorem dL_law_899 : decode cL_law 899 = .ok (.iaload, 1) := by decide +kernel
theorem dL_law_900 : decode cL_law 900 = .ok (.invokevirtual 102, 3) := by decide +kernel
theorem dL_law_903 : decode cL_law 903 = .ok (.aload_n 2, 1) := by decide +kernel
theorem dL_law_904 : decode cL_law 904 = .ok (.aload_n 0, 1) := by decide +kernel
theorem dL_law_905 : decode cL_law 905 = .ok (.iload_n 3, 1) := by decide +kernel
theorem dL_law_906 : decode cL_law 906 = .ok (.iconst 1, 1) := by decide +kernel
theorem dL_law_907 : decode cL_law 907 = .ok (.iadd, 1) := by decide +kernel
theorem dL_law_908 : decode cL_law 908 = .ok (.iaload, 1) := by decide +kernel
theorem dL_law_909 : decode cL_law 909 = .ok (.aload_n 0, 1) := by decide +kernel
theorem dL_law_910 : decode cL_law 910 = .ok (.iload_n 3, 1) := by decide +kernel
theorem dL_law_911 : decode cL_law 911 = .ok (.iconst 2, 1) := by decide +kernel
theorem dL_law_912 : decode cL_law 912 = .ok (.iadd, 1) := by decide +kernel
theorem dL_law_913 : decode cL_law 913 = .ok (.iaload, 1) := by decide +kernel
theorem dL_law_914 : decode cL_law 914 = .ok (.aload_n 0, 1) := by decide +kernel
theorem dL_law_915 : decode cL_law 915 = .ok (.iload_n 3, 1) := by decide +kernel
theorem dL_law_916 : decode cL_law 916 = .ok (.iconst 3, 1) := by decide +kernel
theorem dL_law_917 : decode cL_law 917 = .ok (.iadd, 1) := by decide +kernel
theorem dL_law_918 : decode cL_law 918 = .ok (.iaload, 1) := by decide +kernel
theorem dL_law_919 : decode cL_law 919 = .ok (.invokevirtual 106, 3) := by decide +kernel
theorem dL_law_922 : decode cL_law 922 = .ok (.lcmp, 1) := by decide +kernel
theorem dL_law_923 : decode cL_law 923 = .ok (.ifCond .eq 292, 3) := by decide +kernel
theorem dL_law_926 : decode cL_law 926 = .ok (.iconst 0, 1) := by decide +kernel
theorem dL_law_927 : decode cL_law 927 = .ok (.ireturn, 1) := by decide +kernel
theorem dL_law_928 : decode cL_law 928 = .ok (.aload_n 1, 1) := by decide +kernel
theorem dL_law_929 : decode cL_law 929 = .ok (.aload_n 0, 1) := by decide +kernel
theorem dL_law_930 : decode cL_law 930 = .ok (.iload_n 3, 1) := by decide +kernel
theorem dL_law_931 : decode cL_law 931 = .ok (.iconst 1, 1) := by decide +kernel
theorem dL_law_932 : decode cL_law 932 = .ok (.iadd, 1) := by decide +kernel
theorem dL_law_933 : decode cL_law 933 = .ok (.iaload, 1) := by decide +kernel
theorem dL_law_934 : decode cL_law 934 = .ok (.invokevirtual 107, 3) := by decide +kernel
theorem dL_law_937 : decode cL_law 937 = .ok (.aload_n 2, 1) := by decide +kernel
theorem dL_law_938 : decode cL_law 938 = .ok (.aload_n 0, 1) := by decide +kernel
theorem dL_law_939 : decode cL_law 939 = .ok (.iload_n 3, 1) := by decide +kernel
theorem dL_law_940 : decode cL_law 940 = .ok (.iconst 1, 1) := by decide +kernel
theorem dL_law_941 : decode cL_law 941 = .ok (.iadd, 1) := by decide +kernel
theorem dL_law_942 : decode cL_law 942 = .ok (.iaload, 1) := by decide +kernel
theorem dL_law_943 : decode cL_law 943 = .ok (.invokevirtual 110, 3) := by decide +kernel
theorem dL_law_946 : decode cL_law 946 = .ok (.if_icmp .eq 269, 3) := by decide +kernel
theorem dL_law_949 : decode cL_law 949 = .ok (.iconst 0, 1) := by decide +kernel
theorem dL_law_950 : decode cL_law 950 = .ok (.ireturn, 1) := by decide +kernel
theorem dL_law_951 : decode cL_law 951 = .ok (.aload_n 1, 1) := by decide +kernel
theorem dL_law_952 : decode cL_law 952 = .ok (.aload_n 0, 1) := by decide +kernel
theorem dL_law_953 : decode cL_law 953 = .ok (.iload_n 3, 1) := by decide +kernel
theorem dL_law_954 : decode cL_law 954 = .ok (.iconst 1, 1) := by decide +kernel
theorem dL_law_955 : decode cL_law 955 = .ok (.iadd, 1) := by decide +kernel
theorem dL_law_956 : decode cL_law 956 = .ok (.iaload, 1) := by decide +kernel
theorem dL_law_957 : decode cL_law 957 = .ok (.invokevirtual 111, 3) := by decide +kernel
theorem dL_law_960 : decode cL_law 960 = .ok (.aload_n 2, 1) := by decide +kernel
theorem dL_law_961 : decode cL_law 961 = .ok (.aload_n 0, 1) := by decide +kernel
theorem dL_law_962 : decode cL_law 962 = .ok (.iload_n 3, 1) := by decide +kernel
theorem dL_law_963 : decode cL_law 963 = .ok (.iconst 1, 1) := by decide +kernel
theorem dL_law_964 : decode cL_law 964 = .ok (.iadd, 1) := by decide +kernel
theorem dL_law_965 : decode cL_law 965 = .ok (.iaload, 1) := by decide +kernel
theorem dL_law_966 : decode cL_law 966 = .ok (.invokevirtual 115, 3) := by decide +kernel
theorem dL_law_969 : decode cL_law 969 = .ok (.if_icmp .eq 246, 3) := by decide +kernel
theorem dL_law_972 : decode cL_law 972 = .ok (.iconst 0, 1) := by decide +kernel
theorem dL_law_973 : decode cL_law 973 = .ok (.ireturn, 1) := by decide +kernel
theorem dL_law_974 : decode cL_law 974 = .ok (.aload_n 1, 1) := by decide +kernel
theorem dL_law_975 : decode cL_law 975 = .ok (.aload_n 0, 1) := by decide +kernel
theorem dL_law_976 : decode cL_law 976 = .ok (.iload_n 3, 1) := by decide +kernel
theorem dL_law_977 : decode cL_law 977 = .ok (.iconst 1, 1) := by decide +kernel
theorem dL_law_978 : decode cL_law 978 = .ok (.iadd, 1) := by decide +kernel
theorem dL_law_979 : decode cL_law 979 = .ok (.iaload, 1) := by decide +kernel
theorem dL_law_980 : decode cL_law 980 = .ok (.aload_n 0, 1) := by decide +kernel
theorem dL_law_981 : decode cL_law 981 = .ok (.iload_n 3, 1) := by decide +kernel
theorem dL_law_982 : decode cL_law 982 = .ok (.iconst 2, 1) := by decide +kernel
theorem dL_law_983 : decode cL_law 983 = .ok (.iadd, 1) := by decide +kernel
theorem dL_law_984 : decode cL_law 984 = .ok (.iaload, 1) := by decide +kernel
theorem dL_law_985 : decode cL_law 985 = .ok (.aload_n 0, 1) := by decide +kernel
theorem dL_law_986 : decode cL_law 986 = .ok (.iload_n 3, 1) := by decide +kernel
theorem dL_law_987 : decode cL_law 987 = .ok (.iconst 3, 1) := by decide +kernel
theorem dL_law_988 : decode cL_law 988 = .ok (.iadd, 1) := by decide +kernel
theorem dL_law_989 : decode cL_law 989 = .ok (.iaload, 1) := by decide +kernel
theorem dL_law_990 : decode cL_law 990 = .ok (.aload_n 0, 1) := by decide +kernel
theorem dL_law_991 : decode cL_law 991 = .ok (.iload_n 3, 1) := by decide +kernel
theorem dL_law_992 : decode cL_law 992 = .ok (.iconst 4, 1) := by decide +kernel
theorem dL_law_993 : decode cL_law 993 = .ok (.iadd, 1) := by decide +kernel
theorem dL_law_994 : decode cL_law 994 = .ok (.iaload, 1) := by decide +kernel
theorem dL_law_995 : decode cL_law 995 = .ok (.aload_n 0, 1) := by decide +kernel
theorem dL_law_996 : decode cL_law 996 = .ok (.iload_n 3, 1) := by decide +kernel
theorem dL_law_997 : decode cL_law 997 = .ok (.iconst 5, 1) := by decide +kernel
theorem dL_law_998 : decode cL_law 998 = .ok (.iadd, 1) := by decide +kernel
theorem dL_law_999 : decode cL_law 999 = .ok (.iaload, 1) := by decide +kernel
theorem dL_law_1000 : decode cL_law 1000 = .ok (.aload_n 0, 1) := by decide +kernel
theorem dL_law_1001 : decode cL_law 1001 = .ok (.iload_n 3, 1) := by decide +kernel
theorem dL_law_1002 : decode cL_law 1002 = .ok (.bipush 6, 2) := by decide +kernel
theorem dL_law_1004 : decode cL_law 1004 = .ok (.iadd, 1) := by decide +kernel
theorem dL_law_1005 : decode cL_law 1005 = .ok (.iaload, 1) := by decide +kernel
theorem dL_law_1006 : decode cL_law 1006 = .ok (.aload_n 0, 1) := by decide +kernel
theorem dL_law_1007 : decode cL_law 1007 = .ok (.iload_n 3, 1) := by decide +kernel
theorem dL_law_1008 : decode cL_law 1008 = .ok (.bipush 7, 2) := by decide +kernel
theorem dL_law_1010 : decode cL_law 1010 = .ok (.iadd, 1) := by decide +kernel
theorem dL_law_1011 : decode cL_law 1011 = .ok (.iaload, 1) := by decide +kernel
theorem dL_law_1012 : decode cL_law 1012 = .ok (.aload_n 0, 1) := by decide +kernel
theorem dL_law_1013 : decode cL_law 1013 = .ok (.iload_n 3, 1) := by decide +kernel
theorem dL_law_1014 : decode cL_law 1014 = .ok (.bipush 8, 2) := by decide +kernel
theorem dL_law_1016 : decode cL_law 1016 = .ok (.iadd, 1) := by decide +kernel
theorem dL_law_1017 : decode cL_law 1017 = .ok (.iaload, 1) := by decide +kernel
theorem dL_law_1018 : decode cL_law 1018 = .ok (.invokevirtual 116, 3) := by decide +kernel
theorem dL_law_1021 : decode cL_law 1021 = .ok (.aload_n 2, 1) := by decide +kernel
theorem dL_law_1022 : decode cL_law 1022 = .ok (.aload_n 0, 1) := by decide +kernel
theorem dL_law_1023 : decode cL_law 1023 = .ok (.iload_n 3, 1) := by decide +kernel
theorem dL_law_1024 : decode cL_law 1024 = .ok (.iconst 1, 1) := by decide +kernel
theorem dL_law_1025 : decode cL_law 1025 = .ok (.iadd, 1) := by decide +kernel
theorem dL_law_1026 : decode cL_law 1026 = .ok (.iaload, 1) := by decide +kernel
theorem dL_law_1027 : decode cL_law 1027 = .ok (.aload_n 0, 1) := by decide +kernel
theorem dL_law_1028 : decode cL_law 1028 = .ok (.iload_n 3, 1) := by decide +kernel
theorem dL_law_1029 : decode cL_law 1029 = .ok (.iconst 2, 1) := by decide +kernel
theorem dL_law_1030 : decode cL_law 1030 = .ok (.iadd, 1) := by decide +kernel
theorem dL_law_1031 : decode cL_law 1031 = .ok (.iaload, 1) := by decide +kernel
theorem dL_law_1032 : decode cL_law 1032 = .ok (.aload_n 0, 1) := by decide +kernel
theorem dL_law_1033 : decode cL_law 1033 = .ok (.iload_n 3, 1) := by decide +kernel
theorem dL_law_1034 : decode cL_law 1034 = .ok (.iconst 3, 1) := by decide +kernel
theorem dL_law_1035 : decode cL_law 1035 = .ok (.iadd, 1) := by decide +kernel
theorem dL_law_1036 : decode cL_law 1036 = .ok (.iaload, 1) := by decide +kernel
theorem dL_law_1037 : decode cL_law 1037 = .ok (.aload_n 0, 1) := by decide +kernel
theorem dL_law_1038 : decode cL_law 1038 = .ok (.iload_n 3, 1) := by decide +kernel
theorem dL_law_1039 : decode cL_law 1039 = .ok (.iconst 4, 1) := by decide +kernel
theorem dL_law_1040 : decode cL_law 1040 = .ok (.iadd, 1) := by decide +kernel
theorem dL_law_1041 : decode cL_law 1041 = .ok (.iaload, 1) := by decide +kernel
theorem dL_law_1042 : decode cL_law 1042 = .ok (.aload_n 0, 1) := by decide +kernel
theorem dL_law_1043 : decode cL_law 1043 = .ok (.iload_n 3, 1) := by decide +kernel
theorem dL_law_1044 : decode cL_law 1044 = .ok (.iconst 5, 1) := by decide +kernel
theorem dL_law_1045 : decode cL_law 1045 = .ok (.iadd, 1) := by decide +kernel
theorem dL_law_1046 : decode cL_law 1046 = .ok (.iaload, 1) := by decide +kernel
theorem dL_law_1047 : decode cL_law 1047 = .ok (.aload_n 0, 1) := by decide +kernel
theorem dL_law_1048 : decode cL_law 1048 = .ok (.iload_n 3, 1) := by decide +kernel
theorem dL_law_1049 : decode cL_law 1049 = .ok (.bipush 6, 2) := by decide +kernel
theorem dL_law_1051 : decode cL_law 1051 = .ok (.iadd, 1) := by decide +kernel
theorem dL_law_1052 : decode cL_law 1052 = .ok (.iaload, 1) := by decide +kernel
theorem dL_law_1053 : decode cL_law 1053 = .ok (.aload_n 0, 1) := by decide +kernel
theorem dL_law_1054 : decode cL_law 1054 = .ok (.iload_n 3, 1) := by decide +kernel
theorem dL_law_1055 : decode cL_law 1055 = .ok (.bipush 7, 2) := by decide +kernel
theorem dL_law_1057 : decode cL_law 1057 = .ok (.iadd, 1) := by decide +kernel
theorem dL_law_1058 : decode cL_law 1058 = .ok (.iaload, 1) := by decide +kernel
theorem dL_law_1059 : decode cL_law 1059 = .ok (.aload_n 0, 1) := by decide +kernel
theorem dL_law_1060 : decode cL_law 1060 = .ok (.iload_n 3, 1) := by decide +kernel
theorem dL_law_1061 : decode cL_law 1061 = .ok (.bipush 8, 2) := by decide +kernel
theorem dL_law_1063 : decode cL_law 1063 = .ok (.iadd, 1) := by decide +kernel
theorem dL_law_1064 : decode cL_law 1064 = .ok (.iaload, 1) := by decide +kernel
theorem dL_law_1065 : decode cL_law 1065 = .ok (.invokevirtual 120, 3) := by decide +kernel
theorem dL_law_1068 : decode cL_law 1068 = .ok (.if_icmp .eq 147, 3) := by decide +kernel
theorem dL_law_1071 : decode cL_law 1071 = .ok (.iconst 0, 1) := by decide +kernel
theorem dL_law_1072 : decode cL_law 1072 = .ok (.ireturn, 1) := by decide +kernel
theorem dL_law_1073 : decode cL_law 1073 = .ok (.aload_n 1, 1) := by decide +kernel
theorem dL_law_1074 : decode cL_law 1074 = .ok (.aload_n 0, 1) := by decide +kernel
theorem dL_law_1075 : decode cL_law 1075 = .ok (.iload_n 3, 1) := by decide +kernel
theorem dL_law_1076 : decode cL_law 1076 = .ok (.iconst 1, 1) := by decide +kernel
theorem dL_law_1077 : decode cL_law 1077 = .ok (.iadd, 1) := by decide +kernel
theorem dL_law_1078 : decode cL_law 1078 = .ok (.iaload, 1) := by decide +kernel
theorem dL_law_1079 : decode cL_law 1079 = .ok (.aload_n 0, 1) := by decide +kernel
theorem dL_law_1080 : decode cL_law 1080 = .ok (.iload_n 3, 1) := by decide +kernel
theorem dL_law_1081 : decode cL_law 1081 = .ok (.iconst 2, 1) := by decide +kernel
theorem dL_law_1082 : decode cL_law 1082 = .ok (.iadd, 1) := by decide +kernel
theorem dL_law_1083 : decode cL_law 1083 = .ok (.iaload, 1) := by decide +kernel
theorem dL_law_1084 : decode cL_law 1084 = .ok (.aload_n 0, 1) := by decide +kernel
theorem dL_law_1085 : decode cL_law 1085 = .ok (.iload_n 3, 1) := by decide +kernel
theorem dL_law_1086 : decode cL_law 1086 = .ok (.iconst 3, 1) := by decide +kernel
theorem dL_law_1087 : decode cL_law 1087 = .ok (.iadd, 1) := by decide +kernel
theorem dL_law_1088 : decode cL_law 1088 = .ok (.iaload, 1) := by decide +kernel
theorem dL_law_1089 : decode cL_law 1089 = .ok (.aload_n 0, 1) := by decide +kernel
theorem dL_law_1090 : decode cL_law 1090 = .ok (.iload_n 3, 1) := by decide +kernel
theorem dL_law_1091 : decode cL_law 1091 = .ok (.iconst 4, 1) := by decide +kernel
theorem dL_law_1092 : decode cL_law 1092 = .ok (.iadd, 1) := by decide +kernel
theorem dL_law_1093 : decode cL_law 1093 = .ok (.iaload, 1) := by decide +kernel
theorem dL_law_1094 : decode cL_law 1094 = .ok (.aload_n 0, 1) := by decide +kernel
theorem dL_law_1095 : decode cL_law 1095 = .ok (.iload_n 3, 1) := by decide +kernel
theorem dL_law_1096 : decode cL_law 1096 = .ok (.iconst 5, 1) := by decide +kernel
theorem dL_law_1097 : decode cL_law 1097 = .ok (.iadd, 1) := by decide +kernel
theorem dL_law_1098 : decode cL_law 1098 = .ok (.iaload, 1) := by decide +kernel
theorem dL_law_1099 : decode cL_law 1099 = .ok (.aload_n 0, 1) := by decide +kernel
theorem dL_law_1100 : decode cL_law 1100 = .ok (.iload_n 3, 1) := by decide +kernel
theorem dL_law_1101 : decode cL_law 1101 = .ok (.bipush 6, 2) := by decide +kernel
theorem dL_law_1103 : decode cL_law 1103 = .ok (.iadd, 1) := by decide +kernel
theorem dL_law_1104 : decode cL_law 1104 = .ok (.iaload, 1) := by decide +kernel
theorem dL_law_1105 : decode cL_law 1105 = .ok (.aload_n 0, 1) := by decide +kernel
theorem dL_law_1106 : decode cL_law 1106 = .ok (.iload_n 3, 1) := by decide +kernel
theorem dL_law_1107 : decode cL_law 1107 = .ok (.bipush 7, 2) := by decide +kernel
theorem dL_law_1109 : decode cL_law 1109 = .ok (.iadd, 1) := by decide +kernel
theorem dL_law_1110 : decode cL_law 1110 = .ok (.iaload, 1) := by decide +kernel
theorem dL_law_1111 : decode cL_law 1111 = .ok (.aload_n 0, 1) := by decide +kernel
theorem dL_law_1112 : decode cL_law 1112 = .ok (.iload_n 3, 1) := by decide +kernel
theorem dL_law_1113 : decode cL_law 1113 = .ok (.bipush 8, 2) := by decide +kernel
theorem dL_law_1115 : decode cL_law 1115 = .ok (.iadd, 1) := by decide +kernel
theorem dL_law_1116 : decode cL_law 1116 = .ok (.iaload, 1) := by decide +kernel
theorem dL_law_1117 : decode cL_law 1117 = .ok (.invokevirtual 121, 3) := by decide +kernel
theorem dL_law_1120 : decode cL_law 1120 = .ok (.aload_n 2, 1) := by decide +kernel
theorem dL_law_1121 : decode cL_law 1121 = .ok (.aload_n 0, 1) := by decide +kernel
theorem dL_law_1122 : decode cL_law 1122 = .ok (.iload_n 3, 1) := by decide +kernel
theorem dL_law_1123 : decode cL_law 1123 = .ok (.iconst 1, 1) := by decide +kernel
theorem dL_law_1124 : decode cL_law 1124 = .ok (.iadd, 1) := by decide +kernel
theorem dL_law_1125 : decode cL_law 1125 = .ok (.iaload, 1) := by decide +kernel
theorem dL_law_1126 : decode cL_law 1126 = .ok (.aload_n 0, 1) := by decide +kernel
theorem dL_law_1127 : decode cL_law 1127 = .ok (.iload_n 3, 1) := by decide +kernel
theorem dL_law_1128 : decode cL_law 1128 = .ok (.iconst 2, 1) := by decide +kernel
theorem dL_law_1129 : decode cL_law 1129 = .ok (.iadd, 1) := by decide +kernel
theorem dL_law_1130 : decode cL_law 1130 = .ok (.iaload, 1) := by decide +kernel
theorem dL_law_1131 : decode cL_law 1131 = .ok (.aload_n 0, 1) := by decide +kernel
theorem dL_law_1132 : decode cL_law 1132 = .ok (.iload_n 3, 1) := by decide +kernel
theorem dL_law_1133 : decode cL_law 1133 = .ok (.iconst 3, 1) := by decide +kernel
theorem dL_law_1134 : decode cL_law 1134 = .ok (.iadd, 1) := by decide +kernel
theorem dL_law_1135 : decode cL_law 1135 = .ok (.iaload, 1) := by decide +kernel
theorem dL_law_1136 : decode cL_law 1136 = .ok (.aload_n 0, 1) := by decide +kernel
theorem dL_law_1137 : decode cL_law 1137 = .ok (.iload_n 3, 1) := by decide +kernel
theorem dL_law_1138 : decode cL_law 1138 = .ok (.iconst 4, 1) := by decide +kernel
theorem dL_law_1139 : decode cL_law 1139 = .ok (.iadd, 1) := by decide +kernel
theorem dL_law_1140 : decode cL_law 1140 = .ok (.iaload, 1) := by decide +kernel
theorem dL_law_1141 : decode cL_law 1141 = .ok (.aload_n 0, 1) := by decide +kernel
theorem dL_law_1142 : decode cL_law 1142 = .ok (.iload_n 3, 1) := by decide +kernel
theorem dL_law_1143 : decode cL_law 1143 = .ok (.iconst 5, 1) := by decide +kernel
theorem dL_law_1144 : decode cL_law 1144 = .ok (.iadd, 1) := by decide +kernel
theorem dL_law_1145 : decode cL_law 1145 = .ok (.iaload, 1) := by decide +kernel
theorem dL_law_1146 : decode cL_law 1146 = .ok (.aload_n 0, 1) := by decide +kernel
theorem dL_law_1147 : decode cL_law 1147 = .ok (.iload_n 3, 1) := by decide +kernel
theorem dL_law_1148 : decode cL_law 1148 = .ok (.bipush 6, 2) := by decide +kernel
theorem dL_law_1150 : decode cL_law 1150 = .ok (.iadd, 1) := by decide +kernel
theorem dL_law_1151 : decode cL_law 1151 = .ok (.iaload, 1) := by decide +kernel
theorem dL_law_1152 : decode cL_law 1152 = .ok (.aload_n 0, 1) := by decide +kernel
theorem dL_law_1153 : decode cL_law 1153 = .ok (.iload_n 3, 1) := by decide +kernel
theorem dL_law_1154 : decode cL_law 1154 = .ok (.bipush 7, 2) := by decide +kernel
theorem dL_law_1156 : decode cL_law 1156 = .ok (.iadd, 1) := by decide +kernel
theorem dL_law_1157 : decode cL_law 1157 = .ok (.iaload, 1) := by decide +kernel
theorem dL_law_1158 : decode cL_law 1158 = .ok (.aload_n 0, 1) := by decide +kernel
theorem dL_law_1159 : decode cL_law 1159 = .ok (.iload_n 3, 1) := by decide +kernel
theorem dL_law_1160 : decode cL_law 1160 = .ok (.bipush 8, 2) := by decide +kernel
theorem dL_law_1162 : decode cL_law 1162 = .ok (.iadd, 1) := by decide +kernel
theorem dL_law_1163 : decode cL_law 1163 = .ok (.iaload, 1) := by decide +kernel
theorem dL_law_1164 : decode cL_law 1164 = .ok (.invokevirtual 124, 3) := by decide +kernel
theorem dL_law_1167 : decode cL_law 1167 = .ok (.if_icmp .eq 48, 3) := by decide +kernel
theorem dL_law_1170 : decode cL_law 1170 = .ok (.iconst 0, 1) := by decide +kernel
theorem dL_law_1171 : decode cL_law 1171 = .ok (.ireturn, 1) := by decide +kernel
theorem dL_law_1172 : decode cL_law 1172 = .ok (.aload_n 1, 1) := by decide +kernel
theorem dL_law_1173 : decode cL_law 1173 = .ok (.aload_n 0, 1) := by decide +kernel
theorem dL_law_1174 : decode cL_law 1174 = .ok (.iload_n 3, 1) := by decide +kernel
theorem dL_law_1175 : decode cL_law 1175 = .ok (.iconst 1, 1) := by decide +kernel
theorem dL_law_1176 : decode cL_law 1176 = .ok (.iadd, 1) := by decide +kernel
theorem dL_law_1177 : decode cL_law 1177 = .ok (.iaload, 1) := by decide +kernel
theorem dL_law_1178 : decode cL_law 1178 = .ok (.aload_n 0, 1) := by decide +kernel
theorem dL_law_1179 : decode cL_law 1179 = .ok (.iload_n 3, 1) := by decide +kernel
theorem dL_law_1180 : decode cL_law 1180 = .ok (.iconst 2, 1) := by decide +kernel
theorem dL_law_1181 : decode cL_law 1181 = .ok (.iadd, 1) := by decide +kernel
theorem dL_law_1182 : decode cL_law 1182 = .ok (.iaload, 1) := by decide +kernel
theorem dL_law_1183 : decode cL_law 1183 = .ok (.aload_n 0, 1) := by decide +kernel
theorem dL_law_1184 : decode cL_law 1184 = .ok (.iload_n 3, 1) := by decide +kernel
theorem dL_law_1185 : decode cL_law 1185 = .ok (.iconst 3, 1) := by decide +kernel
theorem dL_law_1186 : decode cL_law 1186 = .ok (.iadd, 1) := by decide +kernel
theorem dL_law_1187 : decode cL_law 1187 = .ok (.iaload, 1) := by decide +kernel
theorem dL_law_1188 : decode cL_law 1188 = .ok (.invokevirtual 125, 3) := by decide +kernel
theorem dL_law_1191 : decode cL_law 1191 = .ok (.aload_n 2, 1) := by decide +kernel
theorem dL_law_1192 : decode cL_law 1192 = .ok (.aload_n 0, 1) := by decide +kernel
theorem dL_law_1193 : decode cL_law 1193 = .ok (.iload_n 3, 1) := by decide +kernel
theorem dL_law_1194 : decode cL_law 1194 = .ok (.iconst 1, 1) := by decide +kernel
theorem dL_law_1195 : decode cL_law 1195 = .ok (.iadd, 1) := by decide +kernel
theorem dL_law_1196 : decode cL_law 1196 = .ok (.iaload, 1) := by decide +kernel
theorem dL_law_1197 : decode cL_law 1197 = .ok (.aload_n 0, 1) := by decide +kernel
theorem dL_law_1198 : decode cL_law 1198 = .ok (.iload_n 3, 1) := by decide +kernel
theorem dL_law_1199 : decode cL_law 1199 = .ok (.iconst 2, 1) := by decide +kernel
theorem dL_law_1200 : decode cL_law 1200 = .ok (.iadd, 1) := by decide +kernel
theorem dL_law_1201 : decode cL_law 1201 = .ok (.iaload, 1) := by decide +kernel
theorem dL_law_1202 : decode cL_law 1202 = .ok (.aload_n 0, 1) := by decide +kernel
theorem dL_law_1203 : decode cL_law 1203 = .ok (.iload_n 3, 1) := by decide +kernel
theorem dL_law_1204 : decode cL_law 1204 = .ok (.iconst 3, 1) := by decide +kernel
theorem dL_law_1205 : decode cL_law 1205 = .ok (.iadd, 1) := by decide +kernel
theorem dL_law_1206 : decode cL_law 1206 = .ok (.iaload, 1) := by decide +kernel
theorem dL_law_1207 : decode cL_law 1207 = .ok (.invokevirtual 128, 3) := by decide +kernel
theorem dL_law_1210 : decode cL_law 1210 = .ok (.if_icmp .eq 5, 3) := by decide +kernel
theorem dL_law_1213 : decode cL_law 1213 = .ok (.iconst 0, 1) := by decide +kernel
theorem dL_law_1214 : decode cL_law 1214 = .ok (.ireturn, 1) := by decide +kernel
theorem dL_law_1215 : decode cL_law 1215 = .ok (.iinc 3 9, 3) := by decide +kernel
theorem dL_law_1218 : decode cL_law 1218 = .ok (.goto (-1200), 3) := by decide +kernel
theorem dL_law_1221 : decode cL_law 1221 = .ok (.iconst 1, 1) := by decide +kernel
theorem dL_law_1222 : decode cL_law 1222 = .ok (.ireturn, 1) := by decide +kernel
end
section
/-! an own machine over the rows of the kit: heaps of cells by numbers, locals and stacks as lists; what its pieces do, and that the machine does it -/
abbrev gz_H : Type := Nat × (Nat → Nat × Nat) × (Nat → Nat → Value)
def gz_k (h : gz_H) (a : Nat) : Nat × Nat := h.2.1 a
def gz_v (h : gz_H) (a i : Nat) : Value := h.2.2 a i
def gz_set (h : gz_H) (a i : Nat) (v : Value) : gz_H := (h.1, h.2.1, fun x j => if x = a ∧ j = i then v else h.2.2 x j)
def gz_new (h : gz_H) (k : Nat × Nat) (d : Nat → Value) : gz_H := (h.1 + 1, fun x => if x = h.1 then k else h.2.1 x, fun x j => if x = h.1 then d j else h.2.2 x j)
def gz_c (base b : Nat) (v : Value) : Value := match v with
  | .ref k => .ref (base + k)
  | .float _ => .ref b
  | .int x => .int x
  | .long x => .long x
  | .double x => .double x
  | .null => .null
  | .retAddr x => .retAddr x
theorem gz_c_cat (base b : Nat) (v : Value) : (gz_c base b v).category = v.category := by cases v <;> rfl
theorem gz_c_sum (base b : Nat) (st : List Value) : ((st.map (gz_c base b)).map fun v => v.category).sum = (st.map fun v => v.category).sum := by
  induction st with
  | nil => rfl
  | cons v t ih => simp only [List.map_cons, List.sum_cons, ih, gz_c_cat]
/-- the locals -/
def gz_kn (v : Value) : Bool := match v with
  | .double _ => false
  | _ => true
def gz_st : List Value → Nat → Value → List Value
  | [], 0, v => [v]
  | [], k + 1, v => .double 0 :: gz_st [] k v
  | _ :: t, 0, v => v :: t
  | a :: t, k + 1, v => (if k = 0 ∧ a.category = 2 then .double 0 else a) :: gz_st t k v
def gz_st2 (env : List Value) (k : Nat) (v : Value) : List Value := gz_st (gz_st env (k + 1) (.double 0)) k v
theorem gz_st_at : ∀ (env : List Value) (i : Nat) (v : Value) (k : Nat) (w : Value), (gz_st env i v)[k]? = some w → gz_kn w = true → (k = i ∧ w = v) ∨ (k ≠ i ∧ env[k]? = some w ∧ ¬ (k + 1 = i ∧ w.category = 2)) := by
  intro env
  induction env with
  | nil =>
    intro i
    induction i with
    | zero =>
      intro v k w h hk
      cases k with
      | zero => simp only [gz_st, List.getElem?_cons_zero, Option.some.injEq] at h; exact Or.inl ⟨rfl, h.symm⟩
      | succ k => simp [gz_st] at h
    | succ i ih =>
      intro v k w h hk
      cases k with
      | zero => simp only [gz_st, List.getElem?_cons_zero, Option.some.injEq] at h; subst h; simp [gz_kn] at hk
      | succ k =>
        simp only [gz_st, List.getElem?_cons_succ] at h
        rcases ih v k w h hk with ⟨h1, h2⟩ | ⟨-, h2, -⟩
        · exact Or.inl ⟨by omega, h2⟩
        · simp at h2
  | cons a t ih =>
    intro i v k w h hk
    cases i with
    | zero =>
      cases k with
      | zero => simp only [gz_st, List.getElem?_cons_zero, Option.some.injEq] at h; exact Or.inl ⟨rfl, h.symm⟩
      | succ k =>
        simp only [gz_st, List.getElem?_cons_succ] at h
        exact Or.inr ⟨by omega, by simpa using h, by omega⟩
    | succ i =>
      cases k with
      | zero =>
        simp only [gz_st, List.getElem?_cons_zero, Option.some.injEq] at h
        by_cases hc : i = 0 ∧ a.category = 2
        · rw [if_pos hc] at h; subst h; simp [gz_kn] at hk
        · rw [if_neg hc] at h
          subst h
          exact Or.inr ⟨by omega, by simp, fun q => hc ⟨by omega, q.2⟩⟩
      | succ k =>
        simp only [gz_st, List.getElem?_cons_succ] at h
        rcases ih i v k w h hk with ⟨h1, h2⟩ | ⟨h1, h2, h3⟩
        · exact Or.inl ⟨by omega, h2⟩
        · exact Or.inr ⟨by omega, by simpa using h2, fun q => h3 ⟨by omega, q.2⟩⟩
theorem gz_st2_at (env : List Value) (i : Nat) (v : Value) (k : Nat) (w : Value) (h : (gz_st2 env i v)[k]? = some w) (hk : gz_kn w = true) : (k = i ∧ w = v) ∨ (k ≠ i ∧ k ≠ i + 1 ∧ env[k]? = some w ∧ ¬ (k + 1 = i ∧ w.category = 2)) := by
  rcases gz_st_at _ _ _ _ _ h hk with h1 | ⟨h1, h2, h3⟩
  · exact Or.inl h1
  · rcases gz_st_at _ _ _ _ _ h2 hk with ⟨-, g2⟩ | ⟨g1, g2, -⟩
    · subst g2; simp [gz_kn] at hk
    · exact Or.inr ⟨h1, g1, g2, h3⟩
def gz_lv (base b : Nat) (env : List Value) : List (Nat × Value) := (List.range env.length).filterMap (fun k => match env[k]? with
  | some v => if gz_kn v = true then some (k, gz_c base b v) else none
  | none => none)
theorem gz_lv_mem (base b : Nat) (env : List Value) (q : Nat × Value) : q ∈ gz_lv base b env ↔ ∃ v, env[q.1]? = some v ∧ gz_kn v = true ∧ q.2 = gz_c base b v := by
  unfold gz_lv
  rw [List.mem_filterMap]
  constructor
  · rintro ⟨k, -, h⟩
    cases hv : env[k]? with
    | none => rw [hv] at h; cases h
    | some v =>
      rw [hv] at h
      by_cases hk : gz_kn v = true
      · simp only [hk, if_true, Option.some.injEq] at h
        subst h
        exact ⟨v, hv, hk, rfl⟩
      · simp only [hk] at h
        cases h
  · rintro ⟨v, h1, h2, h3⟩
    refine ⟨q.1, List.mem_range.mpr ((List.getElem?_eq_some_iff.mp h1).1), ?_⟩
    rw [h1]
    simp only [h2, if_true, Option.some.injEq]
    rw [← h3]
def gz_L (base b nL : Nat) (env : List Value) (ls : Array Slot) : Prop := lv_has ls nL (gz_lv base b env)
theorem gz_L.at {base b nL : Nat} {env : List Value} {ls : Array Slot} (h : gz_L base b nL env ls) {k : Nat} {v : Value} (hv : env[k]? = some v) (hk : gz_kn v = true) : ls[k]? = some (.val (gz_c base b v)) :=
  h.2.2 (k, gz_c base b v) ((gz_lv_mem base b env _).mpr ⟨v, hv, hk, rfl⟩)
theorem gz_L.of {base b nL : Nat} {env : List Value} {ls : Array Slot} {lv : List (Nat × Value)} (h : lv_has ls nL lv) (hs : ∀ k v, env[k]? = some v → gz_kn v = true → (k, gz_c base b v) ∈ lv) : gz_L base b nL env ls := by
  refine ⟨h.1, h.2.1, fun q hq => ?_⟩
  obtain ⟨v, h1, h2, h3⟩ := (gz_lv_mem base b env q).mp hq
  have h4 := h.2.2 _ (hs q.1 v h1 h2)
  rw [h3]; exact h4
theorem gz_L.take {base b nL : Nat} {env : List Value} {ls : Array Slot} (h : gz_L base b nL env ls) (n : Nat) : gz_L base b nL (env.take n) ls := by
  refine gz_L.of h (fun k v hv hk => ?_)
  have hv2 : env[k]? = some v := by
    rw [List.getElem?_take] at hv
    by_cases hkn : k < n
    · rw [if_pos hkn] at hv; exact hv
    · rw [if_neg hkn] at hv; cases hv
  exact (gz_lv_mem base b env _).mpr ⟨v, hv2, hk, rfl⟩
theorem gz_L.st1 {base b nL : Nat} {env : List Value} {ls : Array Slot} {i : Nat} {v : Value} (h : lv_has ls nL ((i, gz_c base b v) :: (gz_lv base b env).filter (fun q => !(q.1 == i) && !(q.1 + 1 == i && q.2.category == 2)))) : gz_L base b nL (gz_st env i v) ls := by
  refine gz_L.of h (fun k w hw hk => ?_)
  rcases gz_st_at _ _ _ _ _ hw hk with ⟨rfl, rfl⟩ | ⟨h1, h2, h3⟩
  · exact List.mem_cons_self
  · refine List.mem_cons_of_mem _ (List.mem_filter.mpr ⟨(gz_lv_mem base b env _).mpr ⟨w, h2, hk, rfl⟩, ?_⟩)
    by_cases h4 : k + 1 = i
    · have h5 : ¬ w.category = 2 := fun q => h3 ⟨h4, q⟩
      simp [h1, h4, gz_c_cat, h5]
    · simp [h1, h4]
theorem gz_L.st2 {base b nL : Nat} {env : List Value} {ls : Array Slot} {i : Nat} {v : Value} (h : lv_has ls nL ((i, gz_c base b v) :: (gz_lv base b env).filter (fun q => !(q.1 == i) && (!(q.1 == i + 1) && !(q.1 + 1 == i && q.2.category == 2))))) : gz_L base b nL (gz_st2 env i v) ls := by
  refine gz_L.of h (fun k w hw hk => ?_)
  rcases gz_st2_at _ _ _ _ _ hw hk with ⟨rfl, rfl⟩ | ⟨h1, h1', h2, h3⟩
  · exact List.mem_cons_self
  · refine List.mem_cons_of_mem _ (List.mem_filter.mpr ⟨(gz_lv_mem base b env _).mpr ⟨w, h2, hk, rfl⟩, ?_⟩)
    by_cases h4 : k + 1 = i
    · have h5 : ¬ w.category = 2 := fun q => h3 ⟨h4, q⟩
      simp [h1, h1', h4, gz_c_cat, h5]
    · simp [h1, h1', h4]
def gz_ae : List Value → List Value
  | [] => []
  | v :: vs => if v.category = 2 then v :: .double 0 :: gz_ae vs else v :: gz_ae vs
theorem gz_ae_at (base b : Nat) : ∀ (av : List Value) (i k : Nat) (v : Value), (gz_ae av)[k]? = some v → gz_kn v = true → (i + k, gz_c base b v) ∈ lv_args i (av.map (gz_c base b)) := by
  intro av
  induction av with
  | nil => intro i k v h; simp [gz_ae] at h
  | cons a t ih =>
    intro i k v h hk
    rw [List.map_cons]
    show (i + k, gz_c base b v) ∈ (i, gz_c base b a) :: lv_args (if (gz_c base b a).category = 2 then i + 2 else i + 1) (t.map (gz_c base b))
    rw [gz_c_cat]
    by_cases hc : a.category = 2
    · simp only [gz_ae, hc, if_true] at h ⊢
      match k, h with
      | 0, h => simp only [List.getElem?_cons_zero, Option.some.injEq] at h; subst h; exact List.mem_cons_self
      | 1, h => simp only [List.getElem?_cons_succ, List.getElem?_cons_zero, Option.some.injEq] at h; subst h; simp [gz_kn] at hk
      | k + 2, h =>
        simp only [List.getElem?_cons_succ] at h
        have := ih (i + 2) k v h hk
        rw [show i + (k + 2) = i + 2 + k by omega]
        exact List.mem_cons_of_mem _ this
    · simp only [gz_ae, hc, if_false] at h ⊢
      match k, h with
      | 0, h => simp only [List.getElem?_cons_zero, Option.some.injEq] at h; subst h; exact List.mem_cons_self
      | k + 1, h =>
        simp only [List.getElem?_cons_succ] at h
        have := ih (i + 1) k v h hk
        rw [show i + (k + 1) = i + 1 + k by omega]
        exact List.mem_cons_of_mem _ this
theorem gz_L.args {base b nL : Nat} {av : List Value} {ls : Array Slot} (h : lv_has ls nL (lv_args 0 (av.map (gz_c base b)))) : gz_L base b nL (gz_ae av) ls :=
  gz_L.of h (fun k v hv hk => by have := gz_ae_at base b av 0 k v hv hk; rwa [Nat.zero_add] at this)
/-- the heap that the machine has, and ours -/
def gz_at (D : va_G) (cA : Nat → ClassId) (base b : Nat) (h : gz_H) (H : Heap) (a : Nat) : Prop :=
  ((gz_k h a).1 < 100 → t_OB (base + a) (D.1 (gz_k h a).1) (gz_k h a).2 (D.2 (gz_k h a).1) H (fun j => gz_c base b (gz_v h a j))) ∧
  (100 ≤ (gz_k h a).1 → H[base + a]? = some (arrV (cA (gz_k h a).1) (gz_k h a).2 (fun j => gz_c base b (gz_v h a j))))
def gz_R (D : va_G) (cA : Nat → ClassId) (base b : Nat) (h : gz_H) (H : Heap) : Prop := H.size = base + h.1 ∧ ∀ a, a < h.1 → gz_at D cA base b h H a
theorem gz_at.kept {D : va_G} {cA : Nat → ClassId} {base b : Nat} {h h' : gz_H} {H H1 : Heap} {a : Nat} (g : gz_at D cA base b h H a) (hk : gz_k h' a = gz_k h a) (hv : ∀ j, gz_v h' a j = gz_v h a j) (hq : H1[base + a]? = H[base + a]?) : gz_at D cA base b h' H1 a := by
  unfold gz_at
  rw [hk]
  simp only [hv]
  exact ⟨fun q => (g.1 q).kept hq, fun q => by rw [hq]; exact g.2 q⟩
theorem gz_R.setA {D : va_G} {cA : Nat → ClassId} {base b : Nat} {h : gz_H} {H H1 : Heap} {a i : Nat} {v : Value} (g : gz_R D cA base b h H) (hka : 100 ≤ (gz_k h a).1) (e : H1[base + a]? = some ((arrV (cA (gz_k h a).1) (gz_k h a).2 (fun j => gz_c base b (gz_v h a j))).setSlot i (gz_c base b v))) (z : H1.size = H.size) (o : ∀ q, q ≠ base + a → H1[q]? = H[q]?) : gz_R D cA base b (gz_set h a i v) H1 := by
  refine ⟨z.trans g.1, fun x hx => ?_⟩
  by_cases hxa : x = a
  · subst hxa
    refine ⟨fun q => absurd q (by show ¬ (gz_k h x).1 < 100; omega), fun _ => ?_⟩
    rw [e, arrV_store]
    congr 2
    funext j
    show updV _ i _ j = gz_c base b (if x = x ∧ j = i then v else h.2.2 x j)
    by_cases hj : j = i
    · subst hj; simp [updV]
    · simp [updV, hj, gz_v]
  · refine (g.2 x hx).kept rfl (fun j => ?_) (o _ (by omega))
    show (if x = a ∧ j = i then v else h.2.2 x j) = h.2.2 x j
    rw [if_neg (fun q => hxa q.1)]
theorem gz_R.setO {D : va_G} {cA : Nat → ClassId} {base b : Nat} {h : gz_H} {H H1 : Heap} {a i : Nat} {v : Value} (g : gz_R D cA base b h H) (hka : (gz_k h a).1 < 100) (e : t_OB (base + a) (D.1 (gz_k h a).1) (gz_k h a).2 (D.2 (gz_k h a).1) H1 (updV (fun j => gz_c base b (gz_v h a j)) i (gz_c base b v))) (z : H1.size = H.size) (o : ∀ q, q ≠ base + a → H1[q]? = H[q]?) : gz_R D cA base b (gz_set h a i v) H1 := by
  refine ⟨z.trans g.1, fun x hx => ?_⟩
  by_cases hxa : x = a
  · subst hxa
    refine ⟨fun _ => e.to (fun j _ => ?_), fun q => absurd q (by show ¬ 100 ≤ (gz_k h x).1; omega)⟩
    show updV _ i _ j = gz_c base b (if x = x ∧ j = i then v else h.2.2 x j)
    by_cases hj : j = i
    · subst hj; simp [updV]
    · simp [updV, hj, gz_v]
  · refine (g.2 x hx).kept rfl (fun j => ?_) (o _ (by omega))
    show (if x = a ∧ j = i then v else h.2.2 x j) = h.2.2 x j
    rw [if_neg (fun q => hxa q.1)]
theorem gz_R.new {D : va_G} {cA : Nat → ClassId} {base b : Nat} {h : gz_H} {H H1 : Heap} {k : Nat × Nat} {d : Nat → Value} (g : gz_R D cA base b h H) (z : H1.size = base + h.1 + 1) (o : ∀ q, q < base + h.1 → H1[q]? = H[q]?) (e : gz_at D cA base b (gz_new h k d) H1 h.1) : gz_R D cA base b (gz_new h k d) H1 := by
  refine ⟨z.trans (by show base + h.1 + 1 = base + (h.1 + 1); omega), fun x hx => ?_⟩
  have hx' : x < h.1 + 1 := hx
  by_cases hxa : x = h.1
  · subst hxa; exact e
  · refine (g.2 x (by omega)).kept (by show (if x = h.1 then k else h.2.1 x) = h.2.1 x; rw [if_neg hxa]) (fun j => by show (if x = h.1 then d j else h.2.2 x j) = h.2.2 x j; rw [if_neg hxa]) (o _ (by omega))
def gz_tb : List Cond := lw_tbl.filter goodWord
theorem gz_in {w : Cond} (h : w ∈ lw_tbl) (hg : goodWord w = true) : w ∈ gz_tb := List.mem_filter.mpr ⟨h, hg⟩
theorem gz_gd {w : Cond} (h : w ∈ gz_tb) : w ∈ lw_tbl ∧ goodWord w = true := List.mem_filter.mp h
theorem gz_goodIn {y : MethodName} {cc : ByteArray} {maxL : Nat} {ret : Option FieldType} (h : Cond.code y cc maxL ret ∈ gz_tb) : GoodIn gz_tb (Cond.code y cc maxL ret :: gz_tb) := by
  intro w hw
  rcases List.mem_cons.mp hw with rfl | hw
  · exact ⟨h, good_of_word (gz_gd h).2⟩
  · exact ⟨hw, good_of_word (gz_gd hw).2⟩
def gz_tys (cA : Nat → ClassId) : List (ClassId × FieldType) := [(cA 100, .int), (cA 101, .boolean), (cA 102, .long), (cA 103, .object RX3), (cA 104, .object RX1), (cA 105, .object RX2)]
def gz_nest (U : State) : Prop := va_Nw (.methodLinkNest RX7 17 yX5_init RX7) U ∧ va_Nw (.methodLinkNest RX7 24 yX0_init RX7) U ∧ va_Nw (.methodLinkNest RX7 31 yX6_init RX7) U ∧ va_Nw (.methodLinkNest RX7 52 yX1_init RX7) U ∧ va_Nw (.methodLinkNest RX7 126 yX2_init RX7) U ∧ va_AO RX3 U ∧ va_AO RX1 U ∧ va_AO RX2 U
theorem gz_nest.warm {s U : State} (hW : s.WarmedH U.vm) (h : gz_nest s) : gz_nest U := by
  obtain ⟨h1, h2, h3, h4, h5, h6, h7, h8⟩ := h
  exact ⟨h1.warmM hW, h2.warmM hW, h3.warmM hW, h4.warmM hW, h5.warmM hW, h6.moved hW.alike, h7.moved hW.alike, h8.moved hW.alike⟩
theorem gz_nest.same {s U : State} (hv : s.vm = U.vm) (h : gz_nest s) : gz_nest U := by
  obtain ⟨h1, h2, h3, h4, h5, h6, h7, h8⟩ := h
  have al : s.vm.Alike U.vm := by rw [hv]; exact Vm.Alike.refl _
  exact ⟨h1.same rfl hv, h2.same rfl hv, h3.same rfl hv, h4.same rfl hv, h5.same rfl hv, h6.moved al, h7.moved al, h8.moved al⟩
def gz_K (D : va_G) (cA : Nat → ClassId) (U : State) : Prop := va_K D vwCl (gz_tys cA) U ∧ gz_nest U
theorem gz_K.warm {D : va_G} {cA : Nat → ClassId} {s U : State} (hW : s.WarmedH U.vm) (h : gz_K D cA s) : gz_K D cA U := ⟨h.1.moved hW.alike, h.2.warm hW⟩
theorem gz_K.same {D : va_G} {cA : Nat → ClassId} {s U : State} (hv : s.vm = U.vm) (h : gz_K D cA s) : gz_K D cA U := ⟨h.1.moved (by rw [hv]; exact Vm.Alike.refl _), h.2.same hv⟩
end
section
abbrev gz_Cx : Type := Program × Launch × Env × Room × State × MethodId × Array Value × List Frame × Method × Code × (State → Prop) × va_G × (Nat → ClassId) × Nat × Nat
/-- a method: its code, how many locals, its class, frames and local words that it asks of the room, its name -/
abbrev gz_Mi : Type := ByteArray × Nat × String × Nat × Nat × String
def gz_ok (X : gz_Cx) (M : gz_Mi) : Prop := match X, M with
  | (p, _, _, R, s, m, args, _, meth, c, _, D, cA, base, _), (cc, nL, own, fr, lo, mn) => p.tables.exec = Jvm.exec ∧ c.code = cc ∧ c.maxLocals = nL ∧ s.vm.findClass own = some m.cls ∧ (∀ w ∈ gz_tb, w.before args s = true) ∧ gz_K D cA s ∧ base ≤ s.heap.size ∧ meth.locks = false ∧ fr ≤ R.frames ∧ lo ≤ R.locals ∧ meth.name = mn
def gz_W (X : gz_Cx) (nL cells slots pc : Nat) (env st : List Value) (h : gz_H) : Prop := match X with
  | (p, l, e, R, s, m, args, below, meth, c, Q, D, cA, base, b) => ∀ (H : Heap) (locs : List Loc) (ls : Array Slot), gz_R D cA base b h H → va_S (fun q : Nat => base ≤ q) s.heap H locs → gz_L base b nL env ls → W p l e R s m args below meth c H locs cells slots Q (F0 m pc ls (st.map (gz_c base b)))
def gz_rc (X : gz_Cx) : Nat := X.2.2.2.1.cells
def gz_rs (X : gz_Cx) : Nat := X.2.2.2.1.slots
theorem gz_W.widen {X : gz_Cx} {nL c0 s0 c1 s1 pc : Nat} {env st : List Value} {h : gz_H} (hc : c0 ≤ c1) (hs : s0 ≤ s1) (hk : gz_W X nL c1 s1 pc env st h) : gz_W X nL c0 s0 pc env st h := by
  obtain ⟨p, l, e, R, s, m, args, below, meth, c, Q, D, cA, base, b⟩ := X
  intro H locs ls hR hS hL
  exact W.widen hc hs (hk H locs ls hR hS hL)
theorem gz_W.take {X : gz_Cx} {nL c0 s0 pc : Nat} {env st : List Value} {h : gz_H} (n : Nat) (hk : gz_W X nL c0 s0 pc (env.take n) st h) : gz_W X nL c0 s0 pc env st h := by
  obtain ⟨p, l, e, R, s, m, args, below, meth, c, Q, D, cA, base, b⟩ := X
  intro H locs ls hR hS hL
  exact hk H locs ls hR hS (hL.take n)
abbrev gz_Ex : Type := List Value → List Value → gz_H → Option (Value × gz_H)
abbrev gz_Jx : Type := List Value → List Value → gz_H → Option (Bool × gz_H)
abbrev gz_Ax : Type := List Value → List Value → gz_H → Option (List Value × gz_H)
abbrev gz_O : Type := (Nat × List Value × gz_H) ⊕ (Option Value × gz_H)
abbrev gz_Sx : Type := List Value → gz_H → Option gz_O
abbrev gz_Me : Type := List Value → gz_H → Option (Option Value × gz_H)
def gz_sm (st : List Value) : Nat := (st.map fun v => v.category).sum
theorem gz_sm_cons (v : Value) (st : List Value) : gz_sm (v :: st) = v.category + gz_sm st := rfl
theorem gz_cat_le (v : Value) : v.category ≤ 2 := by cases v <;> simp [Value.category]
def gz_OkE (M : gz_Mi) (d dc ds pc pc' : Nat) (t : gz_Ex) : Prop := ∀ X : gz_Cx, gz_ok X M → ∀ (env st : List Value) (h : gz_H) (v : Value) (h' : gz_H) (cells slots : Nat), gz_sm st ≤ d → cells + dc ≤ gz_rc X → slots + ds ≤ gz_rs X → t env st h = some (v, h') → gz_W X M.2.1 (cells + dc) (slots + ds) pc' env (v :: st) h' → gz_W X M.2.1 cells slots pc env st h
def gz_OkJ (M : gz_Mi) (d dc ds pc tgt nxt : Nat) (t : gz_Jx) : Prop := ∀ X : gz_Cx, gz_ok X M → ∀ (env st : List Value) (h : gz_H) (v : Bool) (h' : gz_H) (cells slots : Nat), gz_sm st ≤ d → cells + dc ≤ gz_rc X → slots + ds ≤ gz_rs X → t env st h = some (v, h') → (v = true → gz_W X M.2.1 (cells + dc) (slots + ds) tgt env st h') → (v = false → gz_W X M.2.1 (cells + dc) (slots + ds) nxt env st h') → gz_W X M.2.1 cells slots pc env st h
def gz_OkA (M : gz_Mi) (d dc ds pc pc' n : Nat) (t : gz_Ax) : Prop := ∀ X : gz_Cx, gz_ok X M → ∀ (env st : List Value) (h : gz_H) (vs : List Value) (h' : gz_H) (cells slots : Nat), gz_sm st ≤ d → cells + dc ≤ gz_rc X → slots + ds ≤ gz_rs X → t env st h = some (vs, h') → vs.length = n ∧ (gz_W X M.2.1 (cells + dc) (slots + ds) pc' env (vs.reverse ++ st) h' → gz_W X M.2.1 cells slots pc env st h)
/-- a return: at any place where the instruction that fits stands -/
def gz_Rt (X : gz_Cx) (M : gz_Mi) (cells slots : Nat) (r : Option Value) (h : gz_H) : Prop := ∀ (pc : Nat) (env : List Value), match r with
  | none => decode M.1 pc = .ok (.return_, 1) → gz_W X M.2.1 cells slots pc env [] h
  | some (.int v) => decode M.1 pc = .ok (.ireturn, 1) → gz_W X M.2.1 cells slots pc env [.int v] h
  | some (.long v) => decode M.1 pc = .ok (.lreturn, 1) → gz_W X M.2.1 cells slots pc env [.long v] h
  | some v => decode M.1 pc = .ok (.areturn, 1) → gz_W X M.2.1 cells slots pc env [v] h
def gz_post (X : gz_Cx) (M : gz_Mi) (cells slots : Nat) (o : gz_O) : Prop := match o with
  | .inl q => gz_W X M.2.1 cells slots q.1 q.2.1 [] q.2.2
  | .inr q => gz_Rt X M cells slots q.1 q.2
theorem gz_Rt.widen {X : gz_Cx} {M : gz_Mi} {c0 s0 c1 s1 : Nat} {r : Option Value} {h : gz_H} (hc : c0 ≤ c1) (hs : s0 ≤ s1) (g : gz_Rt X M c1 s1 r h) : gz_Rt X M c0 s0 r h := by
  intro pc env
  have g := g pc env
  match r, g with
  | none, g => exact fun hd => (g hd).widen hc hs
  | some (.int v), g => exact fun hd => gz_W.widen hc hs (g hd)
  | some (.long v), g => exact fun hd => gz_W.widen hc hs (g hd)
  | some (.float v), g => exact fun hd => gz_W.widen hc hs (g hd)
  | some (.double v), g => exact fun hd => gz_W.widen hc hs (g hd)
  | some .null, g => exact fun hd => gz_W.widen hc hs (g hd)
  | some (.ref v), g => exact fun hd => gz_W.widen hc hs (g hd)
  | some (.retAddr v), g => exact fun hd => gz_W.widen hc hs (g hd)
theorem gz_post.widen {X : gz_Cx} {M : gz_Mi} {c0 s0 c1 s1 : Nat} {o : gz_O} (hc : c0 ≤ c1) (hs : s0 ≤ s1) (g : gz_post X M c1 s1 o) : gz_post X M c0 s0 o := by
  match o, g with
  | .inl q, g => exact gz_W.widen hc hs g
  | .inr q, g => exact gz_Rt.widen hc hs g
def gz_OkS (M : gz_Mi) (dc ds pc : Nat) (t : gz_Sx) : Prop := ∀ X : gz_Cx, gz_ok X M → ∀ (env : List Value) (h : gz_H) (o : gz_O) (cells slots : Nat), cells + dc ≤ gz_rc X → slots + ds ≤ gz_rs X → t env h = some o → gz_post X M (cells + dc) (slots + ds) o → gz_W X M.2.1 cells slots pc env [] h

theorem gw_iconst {X : gz_Cx} {M : gz_Mi} {cells slots pc : Nat} {env st : List Value} {h : gz_H} (hok : gz_ok X M) {n : Int} {v : Int32} (hd : decode M.1 pc = .ok (.iconst n, 1)) (hv : Int32.ofInt n = v) (hk : gz_W X M.2.1 cells slots (pc + 1) env (.int v :: st) h) : gz_W X M.2.1 cells slots pc env (st) h := by
  obtain ⟨p, l, e, R, s, m, args, below, meth, c, Q, D, cA, base, b⟩ := X
  obtain ⟨cc, nL, own, fr, lo, mn⟩ := M
  obtain ⟨hx, hb, hml, hown, hts, hK, hbs, hlk, hfr, hlo, hmn⟩ := hok
  intro H locs ls hR hS hL
  exact lv_iconst hx hb hd hv (hk H locs ls hR hS hL)
theorem gw_bipush {X : gz_Cx} {M : gz_Mi} {cells slots pc : Nat} {env st : List Value} {h : gz_H} (hok : gz_ok X M) {n : Int} {v : Int32} (hd : decode M.1 pc = .ok (.bipush n, 2)) (hv : (Int8.ofInt n).toInt32 = v) (hk : gz_W X M.2.1 cells slots (pc + 2) env (.int v :: st) h) : gz_W X M.2.1 cells slots pc env (st) h := by
  obtain ⟨p, l, e, R, s, m, args, below, meth, c, Q, D, cA, base, b⟩ := X
  obtain ⟨cc, nL, own, fr, lo, mn⟩ := M
  obtain ⟨hx, hb, hml, hown, hts, hK, hbs, hlk, hfr, hlo, hmn⟩ := hok
  intro H locs ls hR hS hL
  exact lv_bipush hx hb hd hv (hk H locs ls hR hS hL)
theorem gw_sipush {X : gz_Cx} {M : gz_Mi} {cells slots pc : Nat} {env st : List Value} {h : gz_H} (hok : gz_ok X M) {n : Int} {v : Int32} (hd : decode M.1 pc = .ok (.sipush n, 3)) (hv : (Int16.ofInt n).toInt32 = v) (hk : gz_W X M.2.1 cells slots (pc + 3) env (.int v :: st) h) : gz_W X M.2.1 cells slots pc env (st) h := by
  obtain ⟨p, l, e, R, s, m, args, below, meth, c, Q, D, cA, base, b⟩ := X
  obtain ⟨cc, nL, own, fr, lo, mn⟩ := M
  obtain ⟨hx, hb, hml, hown, hts, hK, hbs, hlk, hfr, hlo, hmn⟩ := hok
  intro H locs ls hR hS hL
  exact lv_sipush hx hb hd hv (hk H locs ls hR hS hL)
theorem gw_lconst {X : gz_Cx} {M : gz_Mi} {cells slots pc : Nat} {env st : List Value} {h : gz_H} (hok : gz_ok X M) {n : Fin 2} {v : Int64} (hd : decode M.1 pc = .ok (.lconst n, 1)) (hv : Int64.ofNat (n : Nat) = v) (hk : gz_W X M.2.1 cells slots (pc + 1) env (.long v :: st) h) : gz_W X M.2.1 cells slots pc env (st) h := by
  obtain ⟨p, l, e, R, s, m, args, below, meth, c, Q, D, cA, base, b⟩ := X
  obtain ⟨cc, nL, own, fr, lo, mn⟩ := M
  obtain ⟨hx, hb, hml, hown, hts, hK, hbs, hlk, hfr, hlo, hmn⟩ := hok
  intro H locs ls hR hS hL
  exact lv_lconst hx hb hd hv (hk H locs ls hR hS hL)
theorem gw_ldc {X : gz_Cx} {M : gz_Mi} {cells slots pc : Nat} {env st : List Value} {h : gz_H} (hok : gz_ok X M) {i : Nat} {v : Int32} (hc : Cond.constant M.2.2.1 i v ∈ gz_tb) (hd : decode M.1 pc = .ok (.ldc i, 2)) (hk : gz_W X M.2.1 cells slots (pc + 2) env (.int v :: st) h) : gz_W X M.2.1 cells slots pc env (st) h := by
  obtain ⟨p, l, e, R, s, m, args, below, meth, c, Q, D, cA, base, b⟩ := X
  obtain ⟨cc, nL, own, fr, lo, mn⟩ := M
  obtain ⟨hx, hb, hml, hown, hts, hK, hbs, hlk, hfr, hlo, hmn⟩ := hok
  intro H locs ls hR hS hL
  exact lv_ldc hx hb hown (hts _ hc) hd (hk H locs ls hR hS hL)
theorem gw_ldc2 {X : gz_Cx} {M : gz_Mi} {cells slots pc : Nat} {env st : List Value} {h : gz_H} (hok : gz_ok X M) {i : Nat} {v : Int64} (hc : Cond.constantLong M.2.2.1 i v ∈ gz_tb) (hd : decode M.1 pc = .ok (.ldc2_w i, 3)) (hk : gz_W X M.2.1 cells slots (pc + 3) env (.long v :: st) h) : gz_W X M.2.1 cells slots pc env (st) h := by
  obtain ⟨p, l, e, R, s, m, args, below, meth, c, Q, D, cA, base, b⟩ := X
  obtain ⟨cc, nL, own, fr, lo, mn⟩ := M
  obtain ⟨hx, hb, hml, hown, hts, hK, hbs, hlk, hfr, hlo, hmn⟩ := hok
  intro H locs ls hR hS hL
  exact lv_ldc2 hx hb hown (hts _ hc) hd (hk H locs ls hR hS hL)
theorem gw_null {X : gz_Cx} {M : gz_Mi} {cells slots pc : Nat} {env st : List Value} {h : gz_H} (hok : gz_ok X M) (hd : decode M.1 pc = .ok (.aconst_null, 1)) (hk : gz_W X M.2.1 cells slots (pc + 1) env (.null :: st) h) : gz_W X M.2.1 cells slots pc env (st) h := by
  obtain ⟨p, l, e, R, s, m, args, below, meth, c, Q, D, cA, base, b⟩ := X
  obtain ⟨cc, nL, own, fr, lo, mn⟩ := M
  obtain ⟨hx, hb, hml, hown, hts, hK, hbs, hlk, hfr, hlo, hmn⟩ := hok
  intro H locs ls hR hS hL
  exact lv_null hx hb hd (hk H locs ls hR hS hL)
theorem gw_iload_n {X : gz_Cx} {M : gz_Mi} {cells slots pc : Nat} {env st : List Value} {h : gz_H} (hok : gz_ok X M) {k : Fin 4} {i : Nat} {x : Int32} (hd : decode M.1 pc = .ok (.iload_n k, 1)) (hi : (k : Nat) = i) (hv : env[i]? = some (.int x)) (hk : gz_W X M.2.1 cells slots (pc + 1) env (.int x :: st) h) : gz_W X M.2.1 cells slots pc env (st) h := by
  obtain ⟨p, l, e, R, s, m, args, below, meth, c, Q, D, cA, base, b⟩ := X
  obtain ⟨cc, nL, own, fr, lo, mn⟩ := M
  obtain ⟨hx, hb, hml, hown, hts, hK, hbs, hlk, hfr, hlo, hmn⟩ := hok
  intro H locs ls hR hS hL
  exact lv_iload_n hx hb hd hi (hL.at hv rfl) (hk H locs ls hR hS hL)
theorem gw_iload {X : gz_Cx} {M : gz_Mi} {cells slots pc : Nat} {env st : List Value} {h : gz_H} (hok : gz_ok X M) {i : Nat} {x : Int32} (hd : decode M.1 pc = .ok (.iload i, 2)) (hv : env[i]? = some (.int x)) (hk : gz_W X M.2.1 cells slots (pc + 2) env (.int x :: st) h) : gz_W X M.2.1 cells slots pc env (st) h := by
  obtain ⟨p, l, e, R, s, m, args, below, meth, c, Q, D, cA, base, b⟩ := X
  obtain ⟨cc, nL, own, fr, lo, mn⟩ := M
  obtain ⟨hx, hb, hml, hown, hts, hK, hbs, hlk, hfr, hlo, hmn⟩ := hok
  intro H locs ls hR hS hL
  exact lv_iload hx hb hd (hL.at hv rfl) (hk H locs ls hR hS hL)
theorem gw_lload_n {X : gz_Cx} {M : gz_Mi} {cells slots pc : Nat} {env st : List Value} {h : gz_H} (hok : gz_ok X M) {k : Fin 4} {i : Nat} {x : Int64} (hd : decode M.1 pc = .ok (.lload_n k, 1)) (hi : (k : Nat) = i) (hv : env[i]? = some (.long x)) (hk : gz_W X M.2.1 cells slots (pc + 1) env (.long x :: st) h) : gz_W X M.2.1 cells slots pc env (st) h := by
  obtain ⟨p, l, e, R, s, m, args, below, meth, c, Q, D, cA, base, b⟩ := X
  obtain ⟨cc, nL, own, fr, lo, mn⟩ := M
  obtain ⟨hx, hb, hml, hown, hts, hK, hbs, hlk, hfr, hlo, hmn⟩ := hok
  intro H locs ls hR hS hL
  exact lv_lload_n hx hb hd hi (hL.at hv rfl) (hk H locs ls hR hS hL)
theorem gw_lload {X : gz_Cx} {M : gz_Mi} {cells slots pc : Nat} {env st : List Value} {h : gz_H} (hok : gz_ok X M) {i : Nat} {x : Int64} (hd : decode M.1 pc = .ok (.lload i, 2)) (hv : env[i]? = some (.long x)) (hk : gz_W X M.2.1 cells slots (pc + 2) env (.long x :: st) h) : gz_W X M.2.1 cells slots pc env (st) h := by
  obtain ⟨p, l, e, R, s, m, args, below, meth, c, Q, D, cA, base, b⟩ := X
  obtain ⟨cc, nL, own, fr, lo, mn⟩ := M
  obtain ⟨hx, hb, hml, hown, hts, hK, hbs, hlk, hfr, hlo, hmn⟩ := hok
  intro H locs ls hR hS hL
  exact lv_lload hx hb hd (hL.at hv rfl) (hk H locs ls hR hS hL)
theorem gw_aload_nr {X : gz_Cx} {M : gz_Mi} {cells slots pc : Nat} {env st : List Value} {h : gz_H} (hok : gz_ok X M) {k : Fin 4} {i : Nat} {x : Nat} (hd : decode M.1 pc = .ok (.aload_n k, 1)) (hi : (k : Nat) = i) (hv : env[i]? = some (.ref x)) (hk : gz_W X M.2.1 cells slots (pc + 1) env (.ref x :: st) h) : gz_W X M.2.1 cells slots pc env (st) h := by
  obtain ⟨p, l, e, R, s, m, args, below, meth, c, Q, D, cA, base, b⟩ := X
  obtain ⟨cc, nL, own, fr, lo, mn⟩ := M
  obtain ⟨hx, hb, hml, hown, hts, hK, hbs, hlk, hfr, hlo, hmn⟩ := hok
  intro H locs ls hR hS hL
  exact lv_aload_n hx hb hd hi (hL.at hv rfl) (hk H locs ls hR hS hL)
theorem gw_aloadr {X : gz_Cx} {M : gz_Mi} {cells slots pc : Nat} {env st : List Value} {h : gz_H} (hok : gz_ok X M) {i : Nat} {x : Nat} (hd : decode M.1 pc = .ok (.aload i, 2)) (hv : env[i]? = some (.ref x)) (hk : gz_W X M.2.1 cells slots (pc + 2) env (.ref x :: st) h) : gz_W X M.2.1 cells slots pc env (st) h := by
  obtain ⟨p, l, e, R, s, m, args, below, meth, c, Q, D, cA, base, b⟩ := X
  obtain ⟨cc, nL, own, fr, lo, mn⟩ := M
  obtain ⟨hx, hb, hml, hown, hts, hK, hbs, hlk, hfr, hlo, hmn⟩ := hok
  intro H locs ls hR hS hL
  exact lv_aload hx hb hd (hL.at hv rfl) (hk H locs ls hR hS hL)
theorem gw_aload_nz {X : gz_Cx} {M : gz_Mi} {cells slots pc : Nat} {env st : List Value} {h : gz_H} (hok : gz_ok X M) {k : Fin 4} {i : Nat}  (hd : decode M.1 pc = .ok (.aload_n k, 1)) (hi : (k : Nat) = i) (hv : env[i]? = some (.null)) (hk : gz_W X M.2.1 cells slots (pc + 1) env (.null :: st) h) : gz_W X M.2.1 cells slots pc env (st) h := by
  obtain ⟨p, l, e, R, s, m, args, below, meth, c, Q, D, cA, base, b⟩ := X
  obtain ⟨cc, nL, own, fr, lo, mn⟩ := M
  obtain ⟨hx, hb, hml, hown, hts, hK, hbs, hlk, hfr, hlo, hmn⟩ := hok
  intro H locs ls hR hS hL
  exact lv_aload_nN hx hb hd hi (hL.at hv rfl) (hk H locs ls hR hS hL)
theorem gw_aloadz {X : gz_Cx} {M : gz_Mi} {cells slots pc : Nat} {env st : List Value} {h : gz_H} (hok : gz_ok X M) {i : Nat}  (hd : decode M.1 pc = .ok (.aload i, 2)) (hv : env[i]? = some (.null)) (hk : gz_W X M.2.1 cells slots (pc + 2) env (.null :: st) h) : gz_W X M.2.1 cells slots pc env (st) h := by
  obtain ⟨p, l, e, R, s, m, args, below, meth, c, Q, D, cA, base, b⟩ := X
  obtain ⟨cc, nL, own, fr, lo, mn⟩ := M
  obtain ⟨hx, hb, hml, hown, hts, hK, hbs, hlk, hfr, hlo, hmn⟩ := hok
  intro H locs ls hR hS hL
  exact lv_aloadN hx hb hd (hL.at hv rfl) (hk H locs ls hR hS hL)
theorem gw_aload_nf {X : gz_Cx} {M : gz_Mi} {cells slots pc : Nat} {env st : List Value} {h : gz_H} (hok : gz_ok X M) {k : Fin 4} {i : Nat} {x : UInt32} (hd : decode M.1 pc = .ok (.aload_n k, 1)) (hi : (k : Nat) = i) (hv : env[i]? = some (.float x)) (hk : gz_W X M.2.1 cells slots (pc + 1) env (.float x :: st) h) : gz_W X M.2.1 cells slots pc env (st) h := by
  obtain ⟨p, l, e, R, s, m, args, below, meth, c, Q, D, cA, base, b⟩ := X
  obtain ⟨cc, nL, own, fr, lo, mn⟩ := M
  obtain ⟨hx, hb, hml, hown, hts, hK, hbs, hlk, hfr, hlo, hmn⟩ := hok
  intro H locs ls hR hS hL
  exact lv_aload_n hx hb hd hi (hL.at hv rfl) (hk H locs ls hR hS hL)
theorem gw_aloadf {X : gz_Cx} {M : gz_Mi} {cells slots pc : Nat} {env st : List Value} {h : gz_H} (hok : gz_ok X M) {i : Nat} {x : UInt32} (hd : decode M.1 pc = .ok (.aload i, 2)) (hv : env[i]? = some (.float x)) (hk : gz_W X M.2.1 cells slots (pc + 2) env (.float x :: st) h) : gz_W X M.2.1 cells slots pc env (st) h := by
  obtain ⟨p, l, e, R, s, m, args, below, meth, c, Q, D, cA, base, b⟩ := X
  obtain ⟨cc, nL, own, fr, lo, mn⟩ := M
  obtain ⟨hx, hb, hml, hown, hts, hK, hbs, hlk, hfr, hlo, hmn⟩ := hok
  intro H locs ls hR hS hL
  exact lv_aload hx hb hd (hL.at hv rfl) (hk H locs ls hR hS hL)
theorem gw_iadd {X : gz_Cx} {M : gz_Mi} {cells slots pc : Nat} {env st : List Value} {h : gz_H} (hok : gz_ok X M) {x y : Int32} (hd : decode M.1 pc = .ok (.iadd, 1)) (hk : gz_W X M.2.1 cells slots (pc + 1) env (.int (x + y) :: st) h) : gz_W X M.2.1 cells slots pc env (.int y :: .int x :: st) h := by
  obtain ⟨p, l, e, R, s, m, args, below, meth, c, Q, D, cA, base, b⟩ := X
  obtain ⟨cc, nL, own, fr, lo, mn⟩ := M
  obtain ⟨hx, hb, hml, hown, hts, hK, hbs, hlk, hfr, hlo, hmn⟩ := hok
  intro H locs ls hR hS hL
  exact lv_iadd hx hb hd (hk H locs ls hR hS hL)
theorem gw_isub {X : gz_Cx} {M : gz_Mi} {cells slots pc : Nat} {env st : List Value} {h : gz_H} (hok : gz_ok X M) {x y : Int32} (hd : decode M.1 pc = .ok (.isub, 1)) (hk : gz_W X M.2.1 cells slots (pc + 1) env (.int (x - y) :: st) h) : gz_W X M.2.1 cells slots pc env (.int y :: .int x :: st) h := by
  obtain ⟨p, l, e, R, s, m, args, below, meth, c, Q, D, cA, base, b⟩ := X
  obtain ⟨cc, nL, own, fr, lo, mn⟩ := M
  obtain ⟨hx, hb, hml, hown, hts, hK, hbs, hlk, hfr, hlo, hmn⟩ := hok
  intro H locs ls hR hS hL
  exact lv_isub hx hb hd (hk H locs ls hR hS hL)
theorem gw_imul {X : gz_Cx} {M : gz_Mi} {cells slots pc : Nat} {env st : List Value} {h : gz_H} (hok : gz_ok X M) {x y : Int32} (hd : decode M.1 pc = .ok (.imul, 1)) (hk : gz_W X M.2.1 cells slots (pc + 1) env (.int (x * y) :: st) h) : gz_W X M.2.1 cells slots pc env (.int y :: .int x :: st) h := by
  obtain ⟨p, l, e, R, s, m, args, below, meth, c, Q, D, cA, base, b⟩ := X
  obtain ⟨cc, nL, own, fr, lo, mn⟩ := M
  obtain ⟨hx, hb, hml, hown, hts, hK, hbs, hlk, hfr, hlo, hmn⟩ := hok
  intro H locs ls hR hS hL
  exact lv_imul hx hb hd (hk H locs ls hR hS hL)
theorem gw_iand {X : gz_Cx} {M : gz_Mi} {cells slots pc : Nat} {env st : List Value} {h : gz_H} (hok : gz_ok X M) {x y : Int32} (hd : decode M.1 pc = .ok (.iand, 1)) (hk : gz_W X M.2.1 cells slots (pc + 1) env (.int (x &&& y) :: st) h) : gz_W X M.2.1 cells slots pc env (.int y :: .int x :: st) h := by
  obtain ⟨p, l, e, R, s, m, args, below, meth, c, Q, D, cA, base, b⟩ := X
  obtain ⟨cc, nL, own, fr, lo, mn⟩ := M
  obtain ⟨hx, hb, hml, hown, hts, hK, hbs, hlk, hfr, hlo, hmn⟩ := hok
  intro H locs ls hR hS hL
  exact lv_iand hx hb hd (hk H locs ls hR hS hL)
theorem gw_ior {X : gz_Cx} {M : gz_Mi} {cells slots pc : Nat} {env st : List Value} {h : gz_H} (hok : gz_ok X M) {x y : Int32} (hd : decode M.1 pc = .ok (.ior, 1)) (hk : gz_W X M.2.1 cells slots (pc + 1) env (.int (x ||| y) :: st) h) : gz_W X M.2.1 cells slots pc env (.int y :: .int x :: st) h := by
  obtain ⟨p, l, e, R, s, m, args, below, meth, c, Q, D, cA, base, b⟩ := X
  obtain ⟨cc, nL, own, fr, lo, mn⟩ := M
  obtain ⟨hx, hb, hml, hown, hts, hK, hbs, hlk, hfr, hlo, hmn⟩ := hok
  intro H locs ls hR hS hL
  exact lv_ior hx hb hd (hk H locs ls hR hS hL)
theorem gw_ixor {X : gz_Cx} {M : gz_Mi} {cells slots pc : Nat} {env st : List Value} {h : gz_H} (hok : gz_ok X M) {x y : Int32} (hd : decode M.1 pc = .ok (.ixor, 1)) (hk : gz_W X M.2.1 cells slots (pc + 1) env (.int (x ^^^ y) :: st) h) : gz_W X M.2.1 cells slots pc env (.int y :: .int x :: st) h := by
  obtain ⟨p, l, e, R, s, m, args, below, meth, c, Q, D, cA, base, b⟩ := X
  obtain ⟨cc, nL, own, fr, lo, mn⟩ := M
  obtain ⟨hx, hb, hml, hown, hts, hK, hbs, hlk, hfr, hlo, hmn⟩ := hok
  intro H locs ls hR hS hL
  exact lv_ixor hx hb hd (hk H locs ls hR hS hL)
theorem gw_ishl {X : gz_Cx} {M : gz_Mi} {cells slots pc : Nat} {env st : List Value} {h : gz_H} (hok : gz_ok X M) {x y : Int32} (hd : decode M.1 pc = .ok (.ishl, 1)) (hk : gz_W X M.2.1 cells slots (pc + 1) env (.int (x <<< (y &&& 31)) :: st) h) : gz_W X M.2.1 cells slots pc env (.int y :: .int x :: st) h := by
  obtain ⟨p, l, e, R, s, m, args, below, meth, c, Q, D, cA, base, b⟩ := X
  obtain ⟨cc, nL, own, fr, lo, mn⟩ := M
  obtain ⟨hx, hb, hml, hown, hts, hK, hbs, hlk, hfr, hlo, hmn⟩ := hok
  intro H locs ls hR hS hL
  exact lv_ishl hx hb hd (hk H locs ls hR hS hL)
theorem gw_ishr {X : gz_Cx} {M : gz_Mi} {cells slots pc : Nat} {env st : List Value} {h : gz_H} (hok : gz_ok X M) {x y : Int32} (hd : decode M.1 pc = .ok (.ishr, 1)) (hk : gz_W X M.2.1 cells slots (pc + 1) env (.int (x >>> (y &&& 31)) :: st) h) : gz_W X M.2.1 cells slots pc env (.int y :: .int x :: st) h := by
  obtain ⟨p, l, e, R, s, m, args, below, meth, c, Q, D, cA, base, b⟩ := X
  obtain ⟨cc, nL, own, fr, lo, mn⟩ := M
  obtain ⟨hx, hb, hml, hown, hts, hK, hbs, hlk, hfr, hlo, hmn⟩ := hok
  intro H locs ls hR hS hL
  exact lv_ishr hx hb hd (hk H locs ls hR hS hL)
theorem gw_idiv {X : gz_Cx} {M : gz_Mi} {cells slots pc : Nat} {env st : List Value} {h : gz_H} (hok : gz_ok X M) {x y : Int32} (hd : decode M.1 pc = .ok (.idiv, 1)) (hne : ¬ y = 0) (hk : gz_W X M.2.1 cells slots (pc + 1) env (.int (x / y) :: st) h) : gz_W X M.2.1 cells slots pc env (.int y :: .int x :: st) h := by
  obtain ⟨p, l, e, R, s, m, args, below, meth, c, Q, D, cA, base, b⟩ := X
  obtain ⟨cc, nL, own, fr, lo, mn⟩ := M
  obtain ⟨hx, hb, hml, hown, hts, hK, hbs, hlk, hfr, hlo, hmn⟩ := hok
  intro H locs ls hR hS hL
  exact lv_idiv hx hb hd hne (hk H locs ls hR hS hL)
theorem gw_irem {X : gz_Cx} {M : gz_Mi} {cells slots pc : Nat} {env st : List Value} {h : gz_H} (hok : gz_ok X M) {x y : Int32} (hd : decode M.1 pc = .ok (.irem, 1)) (hne : ¬ y = 0) (hk : gz_W X M.2.1 cells slots (pc + 1) env (.int (x - x / y * y) :: st) h) : gz_W X M.2.1 cells slots pc env (.int y :: .int x :: st) h := by
  obtain ⟨p, l, e, R, s, m, args, below, meth, c, Q, D, cA, base, b⟩ := X
  obtain ⟨cc, nL, own, fr, lo, mn⟩ := M
  obtain ⟨hx, hb, hml, hown, hts, hK, hbs, hlk, hfr, hlo, hmn⟩ := hok
  intro H locs ls hR hS hL
  exact lv_irem hx hb hd hne (hk H locs ls hR hS hL)
theorem gw_ladd {X : gz_Cx} {M : gz_Mi} {cells slots pc : Nat} {env st : List Value} {h : gz_H} (hok : gz_ok X M) {x y : Int64} (hd : decode M.1 pc = .ok (.ladd, 1)) (hk : gz_W X M.2.1 cells slots (pc + 1) env (.long (x + y) :: st) h) : gz_W X M.2.1 cells slots pc env (.long y :: .long x :: st) h := by
  obtain ⟨p, l, e, R, s, m, args, below, meth, c, Q, D, cA, base, b⟩ := X
  obtain ⟨cc, nL, own, fr, lo, mn⟩ := M
  obtain ⟨hx, hb, hml, hown, hts, hK, hbs, hlk, hfr, hlo, hmn⟩ := hok
  intro H locs ls hR hS hL
  exact lv_ladd hx hb hd (hk H locs ls hR hS hL)
theorem gw_lsub {X : gz_Cx} {M : gz_Mi} {cells slots pc : Nat} {env st : List Value} {h : gz_H} (hok : gz_ok X M) {x y : Int64} (hd : decode M.1 pc = .ok (.lsub, 1)) (hk : gz_W X M.2.1 cells slots (pc + 1) env (.long (x - y) :: st) h) : gz_W X M.2.1 cells slots pc env (.long y :: .long x :: st) h := by
  obtain ⟨p, l, e, R, s, m, args, below, meth, c, Q, D, cA, base, b⟩ := X
  obtain ⟨cc, nL, own, fr, lo, mn⟩ := M
  obtain ⟨hx, hb, hml, hown, hts, hK, hbs, hlk, hfr, hlo, hmn⟩ := hok
  intro H locs ls hR hS hL
  exact lv_lsub hx hb hd (hk H locs ls hR hS hL)
theorem gw_lmul {X : gz_Cx} {M : gz_Mi} {cells slots pc : Nat} {env st : List Value} {h : gz_H} (hok : gz_ok X M) {x y : Int64} (hd : decode M.1 pc = .ok (.lmul, 1)) (hk : gz_W X M.2.1 cells slots (pc + 1) env (.long (x * y) :: st) h) : gz_W X M.2.1 cells slots pc env (.long y :: .long x :: st) h := by
  obtain ⟨p, l, e, R, s, m, args, below, meth, c, Q, D, cA, base, b⟩ := X
  obtain ⟨cc, nL, own, fr, lo, mn⟩ := M
  obtain ⟨hx, hb, hml, hown, hts, hK, hbs, hlk, hfr, hlo, hmn⟩ := hok
  intro H locs ls hR hS hL
  exact lv_lmul hx hb hd (hk H locs ls hR hS hL)
theorem gw_land {X : gz_Cx} {M : gz_Mi} {cells slots pc : Nat} {env st : List Value} {h : gz_H} (hok : gz_ok X M) {x y : Int64} (hd : decode M.1 pc = .ok (.land, 1)) (hk : gz_W X M.2.1 cells slots (pc + 1) env (.long (x &&& y) :: st) h) : gz_W X M.2.1 cells slots pc env (.long y :: .long x :: st) h := by
  obtain ⟨p, l, e, R, s, m, args, below, meth, c, Q, D, cA, base, b⟩ := X
  obtain ⟨cc, nL, own, fr, lo, mn⟩ := M
  obtain ⟨hx, hb, hml, hown, hts, hK, hbs, hlk, hfr, hlo, hmn⟩ := hok
  intro H locs ls hR hS hL
  exact lv_land hx hb hd (hk H locs ls hR hS hL)
theorem gw_lor {X : gz_Cx} {M : gz_Mi} {cells slots pc : Nat} {env st : List Value} {h : gz_H} (hok : gz_ok X M) {x y : Int64} (hd : decode M.1 pc = .ok (.lor, 1)) (hk : gz_W X M.2.1 cells slots (pc + 1) env (.long (x ||| y) :: st) h) : gz_W X M.2.1 cells slots pc env (.long y :: .long x :: st) h := by
  obtain ⟨p, l, e, R, s, m, args, below, meth, c, Q, D, cA, base, b⟩ := X
  obtain ⟨cc, nL, own, fr, lo, mn⟩ := M
  obtain ⟨hx, hb, hml, hown, hts, hK, hbs, hlk, hfr, hlo, hmn⟩ := hok
  intro H locs ls hR hS hL
  exact lv_lor hx hb hd (hk H locs ls hR hS hL)
theorem gw_ldiv {X : gz_Cx} {M : gz_Mi} {cells slots pc : Nat} {env st : List Value} {h : gz_H} (hok : gz_ok X M) {x y : Int64} (hd : decode M.1 pc = .ok (.ldiv, 1)) (hne : ¬ y = 0) (hk : gz_W X M.2.1 cells slots (pc + 1) env (.long (x / y) :: st) h) : gz_W X M.2.1 cells slots pc env (.long y :: .long x :: st) h := by
  obtain ⟨p, l, e, R, s, m, args, below, meth, c, Q, D, cA, base, b⟩ := X
  obtain ⟨cc, nL, own, fr, lo, mn⟩ := M
  obtain ⟨hx, hb, hml, hown, hts, hK, hbs, hlk, hfr, hlo, hmn⟩ := hok
  intro H locs ls hR hS hL
  exact lv_ldiv hx hb hd hne (hk H locs ls hR hS hL)
theorem gw_lushr {X : gz_Cx} {M : gz_Mi} {cells slots pc : Nat} {env st : List Value} {h : gz_H} (hok : gz_ok X M) {x : Int64} {y : Int32} (hd : decode M.1 pc = .ok (.lushr, 1)) (hk : gz_W X M.2.1 cells slots (pc + 1) env (.long ((x.toUInt64 >>> (y.toInt64.toUInt64 &&& Int64.toUInt64 63)).toInt64) :: st) h) : gz_W X M.2.1 cells slots pc env (.int y :: .long x :: st) h := by
  obtain ⟨p, l, e, R, s, m, args, below, meth, c, Q, D, cA, base, b⟩ := X
  obtain ⟨cc, nL, own, fr, lo, mn⟩ := M
  obtain ⟨hx, hb, hml, hown, hts, hK, hbs, hlk, hfr, hlo, hmn⟩ := hok
  intro H locs ls hR hS hL
  exact lv_lushr hx hb hd rfl (hk H locs ls hR hS hL)
theorem gw_lshl {X : gz_Cx} {M : gz_Mi} {cells slots pc : Nat} {env st : List Value} {h : gz_H} (hok : gz_ok X M) {x : Int64} {y : Int32} (hd : decode M.1 pc = .ok (.lshl, 1)) (hk : gz_W X M.2.1 cells slots (pc + 1) env (.long (x <<< (y.toInt64 &&& 63)) :: st) h) : gz_W X M.2.1 cells slots pc env (.int y :: .long x :: st) h := by
  obtain ⟨p, l, e, R, s, m, args, below, meth, c, Q, D, cA, base, b⟩ := X
  obtain ⟨cc, nL, own, fr, lo, mn⟩ := M
  obtain ⟨hx, hb, hml, hown, hts, hK, hbs, hlk, hfr, hlo, hmn⟩ := hok
  intro H locs ls hR hS hL
  exact lv_lshl hx hb hd rfl (hk H locs ls hR hS hL)
theorem gw_lcmp {X : gz_Cx} {M : gz_Mi} {cells slots pc : Nat} {env st : List Value} {h : gz_H} (hok : gz_ok X M) {x y : Int64} (hd : decode M.1 pc = .ok (.lcmp, 1)) (hk : gz_W X M.2.1 cells slots (pc + 1) env (.int (lg_cmp x y) :: st) h) : gz_W X M.2.1 cells slots pc env (.long y :: .long x :: st) h := by
  obtain ⟨p, l, e, R, s, m, args, below, meth, c, Q, D, cA, base, b⟩ := X
  obtain ⟨cc, nL, own, fr, lo, mn⟩ := M
  obtain ⟨hx, hb, hml, hown, hts, hK, hbs, hlk, hfr, hlo, hmn⟩ := hok
  intro H locs ls hR hS hL
  exact W.lcmp hx hb hd (hk H locs ls hR hS hL)
theorem gw_i2l {X : gz_Cx} {M : gz_Mi} {cells slots pc : Nat} {env st : List Value} {h : gz_H} (hok : gz_ok X M) {x : Int32} (hd : decode M.1 pc = .ok (.i2l, 1)) (hk : gz_W X M.2.1 cells slots (pc + 1) env (.long x.toInt64 :: st) h) : gz_W X M.2.1 cells slots pc env (.int x :: st) h := by
  obtain ⟨p, l, e, R, s, m, args, below, meth, c, Q, D, cA, base, b⟩ := X
  obtain ⟨cc, nL, own, fr, lo, mn⟩ := M
  obtain ⟨hx, hb, hml, hown, hts, hK, hbs, hlk, hfr, hlo, hmn⟩ := hok
  intro H locs ls hR hS hL
  exact lv_i2l hx hb hd rfl (hk H locs ls hR hS hL)
theorem gw_l2i {X : gz_Cx} {M : gz_Mi} {cells slots pc : Nat} {env st : List Value} {h : gz_H} (hok : gz_ok X M) {x : Int64} (hd : decode M.1 pc = .ok (.l2i, 1)) (hk : gz_W X M.2.1 cells slots (pc + 1) env (.int x.toInt32 :: st) h) : gz_W X M.2.1 cells slots pc env (.long x :: st) h := by
  obtain ⟨p, l, e, R, s, m, args, below, meth, c, Q, D, cA, base, b⟩ := X
  obtain ⟨cc, nL, own, fr, lo, mn⟩ := M
  obtain ⟨hx, hb, hml, hown, hts, hK, hbs, hlk, hfr, hlo, hmn⟩ := hok
  intro H locs ls hR hS hL
  exact lv_l2i hx hb hd rfl (hk H locs ls hR hS hL)
theorem gw_dup {X : gz_Cx} {M : gz_Mi} {cells slots pc : Nat} {env st : List Value} {h : gz_H} (hok : gz_ok X M) {v : Value} (hd : decode M.1 pc = .ok (.dup, 1)) (hv : v.category = 1) (hk : gz_W X M.2.1 cells slots (pc + 1) env (v :: v :: st) h) : gz_W X M.2.1 cells slots pc env (v :: st) h := by
  obtain ⟨p, l, e, R, s, m, args, below, meth, c, Q, D, cA, base, b⟩ := X
  obtain ⟨cc, nL, own, fr, lo, mn⟩ := M
  obtain ⟨hx, hb, hml, hown, hts, hK, hbs, hlk, hfr, hlo, hmn⟩ := hok
  intro H locs ls hR hS hL
  exact lv_dup hx hb hd ((gz_c_cat base b v).trans hv) (hk H locs ls hR hS hL)
theorem gw_dup2 {X : gz_Cx} {M : gz_Mi} {cells slots pc : Nat} {env st : List Value} {h : gz_H} (hok : gz_ok X M) {v u : Value} (hd : decode M.1 pc = .ok (.dup2, 1)) (hv : v.category = 1) (hu : u.category = 1) (hk : gz_W X M.2.1 cells slots (pc + 1) env (v :: u :: v :: u :: st) h) : gz_W X M.2.1 cells slots pc env (v :: u :: st) h := by
  obtain ⟨p, l, e, R, s, m, args, below, meth, c, Q, D, cA, base, b⟩ := X
  obtain ⟨cc, nL, own, fr, lo, mn⟩ := M
  obtain ⟨hx, hb, hml, hown, hts, hK, hbs, hlk, hfr, hlo, hmn⟩ := hok
  intro H locs ls hR hS hL
  exact lv_dup2_11 hx hb hd ((gz_c_cat base b v).trans hv) ((gz_c_cat base b u).trans hu) (hk H locs ls hR hS hL)
theorem gw_pop {X : gz_Cx} {M : gz_Mi} {cells slots pc : Nat} {env st : List Value} {h : gz_H} (hok : gz_ok X M) {v : Value} (hd : decode M.1 pc = .ok (.pop, 1)) (hv : v.category = 1) (hk : gz_W X M.2.1 cells slots (pc + 1) env (st) h) : gz_W X M.2.1 cells slots pc env (v :: st) h := by
  obtain ⟨p, l, e, R, s, m, args, below, meth, c, Q, D, cA, base, b⟩ := X
  obtain ⟨cc, nL, own, fr, lo, mn⟩ := M
  obtain ⟨hx, hb, hml, hown, hts, hK, hbs, hlk, hfr, hlo, hmn⟩ := hok
  intro H locs ls hR hS hL
  exact lv_pop hx hb hd ((gz_c_cat base b v).trans hv) (hk H locs ls hR hS hL)
theorem gw_goto {X : gz_Cx} {M : gz_Mi} {cells slots pc : Nat} {env st : List Value} {h : gz_H} (hok : gz_ok X M) {off : Int} {tgt : Nat} (hd : decode M.1 pc = .ok (.goto off, 3)) (ht : (pc : Int) + off = (tgt : Int)) (hk : gz_W X M.2.1 cells slots tgt env (st) h) : gz_W X M.2.1 cells slots pc env (st) h := by
  obtain ⟨p, l, e, R, s, m, args, below, meth, c, Q, D, cA, base, b⟩ := X
  obtain ⟨cc, nL, own, fr, lo, mn⟩ := M
  obtain ⟨hx, hb, hml, hown, hts, hK, hbs, hlk, hfr, hlo, hmn⟩ := hok
  intro H locs ls hR hS hL
  exact lv_goto hx hb hd ht (hk H locs ls hR hS hL)
theorem gw_istore {X : gz_Cx} {M : gz_Mi} {cells slots pc : Nat} {env st : List Value} {h : gz_H} (hok : gz_ok X M) {k : Fin 4} {i : Nat} {x : Int32} (hd : decode M.1 pc = .ok (.istore_n k, 1)) (hi : (k : Nat) = i) (hn : i < M.2.1) (hk : gz_W X M.2.1 cells slots (pc + 1) (gz_st env i (.int x)) st h) : gz_W X M.2.1 cells slots pc env (.int x :: st) h := by
  obtain ⟨p, l, e, R, s, m, args, below, meth, c, Q, D, cA, base, b⟩ := X
  obtain ⟨cc, nL, own, fr, lo, mn⟩ := M
  obtain ⟨hx, hb, hml, hown, hts, hK, hbs, hlk, hfr, hlo, hmn⟩ := hok
  intro H locs ls hR hS hL
  exact lv_istore_n hx hb hd hi hL hn rfl (fun ls' hl' => hk H locs ls' hR hS (gz_L.st1 (v := .int x) hl'))
theorem gw_istore' {X : gz_Cx} {M : gz_Mi} {cells slots pc : Nat} {env st : List Value} {h : gz_H} (hok : gz_ok X M) {i : Nat} {x : Int32} (hd : decode M.1 pc = .ok (.istore i, 2)) (hn : i < M.2.1) (hk : gz_W X M.2.1 cells slots (pc + 2) (gz_st env i (.int x)) st h) : gz_W X M.2.1 cells slots pc env (.int x :: st) h := by
  obtain ⟨p, l, e, R, s, m, args, below, meth, c, Q, D, cA, base, b⟩ := X
  obtain ⟨cc, nL, own, fr, lo, mn⟩ := M
  obtain ⟨hx, hb, hml, hown, hts, hK, hbs, hlk, hfr, hlo, hmn⟩ := hok
  intro H locs ls hR hS hL
  exact lv_istore hx hb hd hL hn rfl (fun ls' hl' => hk H locs ls' hR hS (gz_L.st1 (v := .int x) hl'))
theorem gw_lstore {X : gz_Cx} {M : gz_Mi} {cells slots pc : Nat} {env st : List Value} {h : gz_H} (hok : gz_ok X M) {k : Fin 4} {i : Nat} {x : Int64} (hd : decode M.1 pc = .ok (.lstore_n k, 1)) (hi : (k : Nat) = i) (hn : i + 1 < M.2.1) (hk : gz_W X M.2.1 cells slots (pc + 1) (gz_st2 env i (.long x)) st h) : gz_W X M.2.1 cells slots pc env (.long x :: st) h := by
  obtain ⟨p, l, e, R, s, m, args, below, meth, c, Q, D, cA, base, b⟩ := X
  obtain ⟨cc, nL, own, fr, lo, mn⟩ := M
  obtain ⟨hx, hb, hml, hown, hts, hK, hbs, hlk, hfr, hlo, hmn⟩ := hok
  intro H locs ls hR hS hL
  exact lv_lstore_n hx hb hd hi hL hn rfl (fun ls' hl' => hk H locs ls' hR hS (gz_L.st2 (v := .long x) hl'))
theorem gw_lstore' {X : gz_Cx} {M : gz_Mi} {cells slots pc : Nat} {env st : List Value} {h : gz_H} (hok : gz_ok X M) {i : Nat} {x : Int64} (hd : decode M.1 pc = .ok (.lstore i, 2)) (hn : i + 1 < M.2.1) (hk : gz_W X M.2.1 cells slots (pc + 2) (gz_st2 env i (.long x)) st h) : gz_W X M.2.1 cells slots pc env (.long x :: st) h := by
  obtain ⟨p, l, e, R, s, m, args, below, meth, c, Q, D, cA, base, b⟩ := X
  obtain ⟨cc, nL, own, fr, lo, mn⟩ := M
  obtain ⟨hx, hb, hml, hown, hts, hK, hbs, hlk, hfr, hlo, hmn⟩ := hok
  intro H locs ls hR hS hL
  exact lv_lstore hx hb hd hL hn rfl (fun ls' hl' => hk H locs ls' hR hS (gz_L.st2 (v := .long x) hl'))
theorem gw_astorer {X : gz_Cx} {M : gz_Mi} {cells slots pc : Nat} {env st : List Value} {h : gz_H} (hok : gz_ok X M) {k : Fin 4} {i : Nat} {x : Nat} (hd : decode M.1 pc = .ok (.astore_n k, 1)) (hi : (k : Nat) = i) (hn : i < M.2.1) (hk : gz_W X M.2.1 cells slots (pc + 1) (gz_st env i (.ref x)) st h) : gz_W X M.2.1 cells slots pc env (.ref x :: st) h := by
  obtain ⟨p, l, e, R, s, m, args, below, meth, c, Q, D, cA, base, b⟩ := X
  obtain ⟨cc, nL, own, fr, lo, mn⟩ := M
  obtain ⟨hx, hb, hml, hown, hts, hK, hbs, hlk, hfr, hlo, hmn⟩ := hok
  intro H locs ls hR hS hL
  exact lv_astore_n hx hb hd hi hL hn rfl (fun ls' hl' => hk H locs ls' hR hS (gz_L.st1 (v := .ref x) hl'))
theorem gw_astorer' {X : gz_Cx} {M : gz_Mi} {cells slots pc : Nat} {env st : List Value} {h : gz_H} (hok : gz_ok X M) {i : Nat} {x : Nat} (hd : decode M.1 pc = .ok (.astore i, 2)) (hn : i < M.2.1) (hk : gz_W X M.2.1 cells slots (pc + 2) (gz_st env i (.ref x)) st h) : gz_W X M.2.1 cells slots pc env (.ref x :: st) h := by
  obtain ⟨p, l, e, R, s, m, args, below, meth, c, Q, D, cA, base, b⟩ := X
  obtain ⟨cc, nL, own, fr, lo, mn⟩ := M
  obtain ⟨hx, hb, hml, hown, hts, hK, hbs, hlk, hfr, hlo, hmn⟩ := hok
  intro H locs ls hR hS hL
  exact lv_astore hx hb hd hL hn rfl (fun ls' hl' => hk H locs ls' hR hS (gz_L.st1 (v := .ref x) hl'))
theorem gw_astorez {X : gz_Cx} {M : gz_Mi} {cells slots pc : Nat} {env st : List Value} {h : gz_H} (hok : gz_ok X M) {k : Fin 4} {i : Nat}  (hd : decode M.1 pc = .ok (.astore_n k, 1)) (hi : (k : Nat) = i) (hn : i < M.2.1) (hk : gz_W X M.2.1 cells slots (pc + 1) (gz_st env i (.null)) st h) : gz_W X M.2.1 cells slots pc env (.null :: st) h := by
  obtain ⟨p, l, e, R, s, m, args, below, meth, c, Q, D, cA, base, b⟩ := X
  obtain ⟨cc, nL, own, fr, lo, mn⟩ := M
  obtain ⟨hx, hb, hml, hown, hts, hK, hbs, hlk, hfr, hlo, hmn⟩ := hok
  intro H locs ls hR hS hL
  exact lv_astore_nN hx hb hd hi hL hn rfl (fun ls' hl' => hk H locs ls' hR hS (gz_L.st1 (v := .null) hl'))
theorem gw_astorez' {X : gz_Cx} {M : gz_Mi} {cells slots pc : Nat} {env st : List Value} {h : gz_H} (hok : gz_ok X M) {i : Nat}  (hd : decode M.1 pc = .ok (.astore i, 2)) (hn : i < M.2.1) (hk : gz_W X M.2.1 cells slots (pc + 2) (gz_st env i (.null)) st h) : gz_W X M.2.1 cells slots pc env (.null :: st) h := by
  obtain ⟨p, l, e, R, s, m, args, below, meth, c, Q, D, cA, base, b⟩ := X
  obtain ⟨cc, nL, own, fr, lo, mn⟩ := M
  obtain ⟨hx, hb, hml, hown, hts, hK, hbs, hlk, hfr, hlo, hmn⟩ := hok
  intro H locs ls hR hS hL
  exact lv_astoreN hx hb hd hL hn rfl (fun ls' hl' => hk H locs ls' hR hS (gz_L.st1 (v := .null) hl'))
theorem gw_iinc {X : gz_Cx} {M : gz_Mi} {cells slots pc : Nat} {env st : List Value} {h : gz_H} (hok : gz_ok X M) {i : Nat} {n : Int} {x : Int32} (hd : decode M.1 pc = .ok (.iinc i n, 3)) (hv : env[i]? = some (.int x)) (hn : i < M.2.1) (hk : gz_W X M.2.1 cells slots (pc + 3) (gz_st env i (.int (x + Int32.ofInt n))) st h) : gz_W X M.2.1 cells slots pc env st h := by
  obtain ⟨p, l, e, R, s, m, args, below, meth, c, Q, D, cA, base, b⟩ := X
  obtain ⟨cc, nL, own, fr, lo, mn⟩ := M
  obtain ⟨hx, hb, hml, hown, hts, hK, hbs, hlk, hfr, hlo, hmn⟩ := hok
  intro H locs ls hR hS hL
  have hmem : (i, Value.int x) ∈ gz_lv base b env := (gz_lv_mem base b env _).mpr ⟨.int x, hv, rfl, rfl⟩
  obtain ⟨k, hk2⟩ := List.getElem?_of_mem hmem
  exact lv_iinc hx hb hd hL hk2 rfl hn rfl (fun ls' hl' => hk H locs ls' hR hS (gz_L.st1 (v := .int (x + Int32.ofInt n)) hl'))
theorem gw_if_eq {X : gz_Cx} {M : gz_Mi} {cells slots pc : Nat} {env st : List Value} {h : gz_H} (hok : gz_ok X M) {x : Int32} {off : Int} {tgt : Nat} (hd : decode M.1 pc = .ok (.ifCond .eq off, 3)) (ht : (pc : Int) + off = (tgt : Int)) (kt : x = 0 → gz_W X M.2.1 cells slots tgt env st h) (kf : ¬ x = 0 → gz_W X M.2.1 cells slots (pc + 3) env st h) : gz_W X M.2.1 cells slots pc env (.int x :: st) h := by
  obtain ⟨p, l, e, R, s, m, args, below, meth, c, Q, D, cA, base, b⟩ := X
  obtain ⟨cc, nL, own, fr, lo, mn⟩ := M
  obtain ⟨hx, hb, hml, hown, hts, hK, hbs, hlk, hfr, hlo, hmn⟩ := hok
  intro H locs ls hR hS hL
  exact lv_if_eq hx hb hd ht (fun q => kt q H locs ls hR hS hL) (fun q => kf q H locs ls hR hS hL)
theorem gw_ic_eq {X : gz_Cx} {M : gz_Mi} {cells slots pc : Nat} {env st : List Value} {h : gz_H} (hok : gz_ok X M) {x y : Int32} {off : Int} {tgt : Nat} (hd : decode M.1 pc = .ok (.if_icmp .eq off, 3)) (ht : (pc : Int) + off = (tgt : Int)) (kt : x = y → gz_W X M.2.1 cells slots tgt env st h) (kf : ¬ x = y → gz_W X M.2.1 cells slots (pc + 3) env st h) : gz_W X M.2.1 cells slots pc env (.int y :: .int x :: st) h := by
  obtain ⟨p, l, e, R, s, m, args, below, meth, c, Q, D, cA, base, b⟩ := X
  obtain ⟨cc, nL, own, fr, lo, mn⟩ := M
  obtain ⟨hx, hb, hml, hown, hts, hK, hbs, hlk, hfr, hlo, hmn⟩ := hok
  intro H locs ls hR hS hL
  exact lv_icmp_eq hx hb hd ht (fun q => kt q H locs ls hR hS hL) (fun q => kf q H locs ls hR hS hL)
theorem gw_if_ne {X : gz_Cx} {M : gz_Mi} {cells slots pc : Nat} {env st : List Value} {h : gz_H} (hok : gz_ok X M) {x : Int32} {off : Int} {tgt : Nat} (hd : decode M.1 pc = .ok (.ifCond .ne off, 3)) (ht : (pc : Int) + off = (tgt : Int)) (kt : ¬ x = 0 → gz_W X M.2.1 cells slots tgt env st h) (kf : x = 0 → gz_W X M.2.1 cells slots (pc + 3) env st h) : gz_W X M.2.1 cells slots pc env (.int x :: st) h := by
  obtain ⟨p, l, e, R, s, m, args, below, meth, c, Q, D, cA, base, b⟩ := X
  obtain ⟨cc, nL, own, fr, lo, mn⟩ := M
  obtain ⟨hx, hb, hml, hown, hts, hK, hbs, hlk, hfr, hlo, hmn⟩ := hok
  intro H locs ls hR hS hL
  exact lv_if_ne hx hb hd ht (fun q => kt q H locs ls hR hS hL) (fun q => kf q H locs ls hR hS hL)
theorem gw_ic_ne {X : gz_Cx} {M : gz_Mi} {cells slots pc : Nat} {env st : List Value} {h : gz_H} (hok : gz_ok X M) {x y : Int32} {off : Int} {tgt : Nat} (hd : decode M.1 pc = .ok (.if_icmp .ne off, 3)) (ht : (pc : Int) + off = (tgt : Int)) (kt : ¬ x = y → gz_W X M.2.1 cells slots tgt env st h) (kf : x = y → gz_W X M.2.1 cells slots (pc + 3) env st h) : gz_W X M.2.1 cells slots pc env (.int y :: .int x :: st) h := by
  obtain ⟨p, l, e, R, s, m, args, below, meth, c, Q, D, cA, base, b⟩ := X
  obtain ⟨cc, nL, own, fr, lo, mn⟩ := M
  obtain ⟨hx, hb, hml, hown, hts, hK, hbs, hlk, hfr, hlo, hmn⟩ := hok
  intro H locs ls hR hS hL
  exact lv_icmp_ne hx hb hd ht (fun q => kt q H locs ls hR hS hL) (fun q => kf q H locs ls hR hS hL)
theorem gw_if_lt {X : gz_Cx} {M : gz_Mi} {cells slots pc : Nat} {env st : List Value} {h : gz_H} (hok : gz_ok X M) {x : Int32} {off : Int} {tgt : Nat} (hd : decode M.1 pc = .ok (.ifCond .lt off, 3)) (ht : (pc : Int) + off = (tgt : Int)) (kt : x < 0 → gz_W X M.2.1 cells slots tgt env st h) (kf : ¬ x < 0 → gz_W X M.2.1 cells slots (pc + 3) env st h) : gz_W X M.2.1 cells slots pc env (.int x :: st) h := by
  obtain ⟨p, l, e, R, s, m, args, below, meth, c, Q, D, cA, base, b⟩ := X
  obtain ⟨cc, nL, own, fr, lo, mn⟩ := M
  obtain ⟨hx, hb, hml, hown, hts, hK, hbs, hlk, hfr, hlo, hmn⟩ := hok
  intro H locs ls hR hS hL
  exact lv_if_lt hx hb hd ht (fun q => kt q H locs ls hR hS hL) (fun q => kf q H locs ls hR hS hL)
theorem gw_ic_lt {X : gz_Cx} {M : gz_Mi} {cells slots pc : Nat} {env st : List Value} {h : gz_H} (hok : gz_ok X M) {x y : Int32} {off : Int} {tgt : Nat} (hd : decode M.1 pc = .ok (.if_icmp .lt off, 3)) (ht : (pc : Int) + off = (tgt : Int)) (kt : x < y → gz_W X M.2.1 cells slots tgt env st h) (kf : ¬ x < y → gz_W X M.2.1 cells slots (pc + 3) env st h) : gz_W X M.2.1 cells slots pc env (.int y :: .int x :: st) h := by
  obtain ⟨p, l, e, R, s, m, args, below, meth, c, Q, D, cA, base, b⟩ := X
  obtain ⟨cc, nL, own, fr, lo, mn⟩ := M
  obtain ⟨hx, hb, hml, hown, hts, hK, hbs, hlk, hfr, hlo, hmn⟩ := hok
  intro H locs ls hR hS hL
  exact lv_icmp_lt hx hb hd ht (fun q => kt q H locs ls hR hS hL) (fun q => kf q H locs ls hR hS hL)
theorem gw_if_ge {X : gz_Cx} {M : gz_Mi} {cells slots pc : Nat} {env st : List Value} {h : gz_H} (hok : gz_ok X M) {x : Int32} {off : Int} {tgt : Nat} (hd : decode M.1 pc = .ok (.ifCond .ge off, 3)) (ht : (pc : Int) + off = (tgt : Int)) (kt : 0 ≤ x → gz_W X M.2.1 cells slots tgt env st h) (kf : ¬ 0 ≤ x → gz_W X M.2.1 cells slots (pc + 3) env st h) : gz_W X M.2.1 cells slots pc env (.int x :: st) h := by
  obtain ⟨p, l, e, R, s, m, args, below, meth, c, Q, D, cA, base, b⟩ := X
  obtain ⟨cc, nL, own, fr, lo, mn⟩ := M
  obtain ⟨hx, hb, hml, hown, hts, hK, hbs, hlk, hfr, hlo, hmn⟩ := hok
  intro H locs ls hR hS hL
  exact lv_if_ge hx hb hd ht (fun q => kt q H locs ls hR hS hL) (fun q => kf q H locs ls hR hS hL)
theorem gw_ic_ge {X : gz_Cx} {M : gz_Mi} {cells slots pc : Nat} {env st : List Value} {h : gz_H} (hok : gz_ok X M) {x y : Int32} {off : Int} {tgt : Nat} (hd : decode M.1 pc = .ok (.if_icmp .ge off, 3)) (ht : (pc : Int) + off = (tgt : Int)) (kt : y ≤ x → gz_W X M.2.1 cells slots tgt env st h) (kf : ¬ y ≤ x → gz_W X M.2.1 cells slots (pc + 3) env st h) : gz_W X M.2.1 cells slots pc env (.int y :: .int x :: st) h := by
  obtain ⟨p, l, e, R, s, m, args, below, meth, c, Q, D, cA, base, b⟩ := X
  obtain ⟨cc, nL, own, fr, lo, mn⟩ := M
  obtain ⟨hx, hb, hml, hown, hts, hK, hbs, hlk, hfr, hlo, hmn⟩ := hok
  intro H locs ls hR hS hL
  exact lv_icmp_ge hx hb hd ht (fun q => kt q H locs ls hR hS hL) (fun q => kf q H locs ls hR hS hL)
theorem gw_if_gt {X : gz_Cx} {M : gz_Mi} {cells slots pc : Nat} {env st : List Value} {h : gz_H} (hok : gz_ok X M) {x : Int32} {off : Int} {tgt : Nat} (hd : decode M.1 pc = .ok (.ifCond .gt off, 3)) (ht : (pc : Int) + off = (tgt : Int)) (kt : 0 < x → gz_W X M.2.1 cells slots tgt env st h) (kf : ¬ 0 < x → gz_W X M.2.1 cells slots (pc + 3) env st h) : gz_W X M.2.1 cells slots pc env (.int x :: st) h := by
  obtain ⟨p, l, e, R, s, m, args, below, meth, c, Q, D, cA, base, b⟩ := X
  obtain ⟨cc, nL, own, fr, lo, mn⟩ := M
  obtain ⟨hx, hb, hml, hown, hts, hK, hbs, hlk, hfr, hlo, hmn⟩ := hok
  intro H locs ls hR hS hL
  exact lv_if_gt hx hb hd ht (fun q => kt q H locs ls hR hS hL) (fun q => kf q H locs ls hR hS hL)
theorem gw_ic_gt {X : gz_Cx} {M : gz_Mi} {cells slots pc : Nat} {env st : List Value} {h : gz_H} (hok : gz_ok X M) {x y : Int32} {off : Int} {tgt : Nat} (hd : decode M.1 pc = .ok (.if_icmp .gt off, 3)) (ht : (pc : Int) + off = (tgt : Int)) (kt : y < x → gz_W X M.2.1 cells slots tgt env st h) (kf : ¬ y < x → gz_W X M.2.1 cells slots (pc + 3) env st h) : gz_W X M.2.1 cells slots pc env (.int y :: .int x :: st) h := by
  obtain ⟨p, l, e, R, s, m, args, below, meth, c, Q, D, cA, base, b⟩ := X
  obtain ⟨cc, nL, own, fr, lo, mn⟩ := M
  obtain ⟨hx, hb, hml, hown, hts, hK, hbs, hlk, hfr, hlo, hmn⟩ := hok
  intro H locs ls hR hS hL
  exact lv_icmp_gt hx hb hd ht (fun q => kt q H locs ls hR hS hL) (fun q => kf q H locs ls hR hS hL)
theorem gw_if_le {X : gz_Cx} {M : gz_Mi} {cells slots pc : Nat} {env st : List Value} {h : gz_H} (hok : gz_ok X M) {x : Int32} {off : Int} {tgt : Nat} (hd : decode M.1 pc = .ok (.ifCond .le off, 3)) (ht : (pc : Int) + off = (tgt : Int)) (kt : x ≤ 0 → gz_W X M.2.1 cells slots tgt env st h) (kf : ¬ x ≤ 0 → gz_W X M.2.1 cells slots (pc + 3) env st h) : gz_W X M.2.1 cells slots pc env (.int x :: st) h := by
  obtain ⟨p, l, e, R, s, m, args, below, meth, c, Q, D, cA, base, b⟩ := X
  obtain ⟨cc, nL, own, fr, lo, mn⟩ := M
  obtain ⟨hx, hb, hml, hown, hts, hK, hbs, hlk, hfr, hlo, hmn⟩ := hok
  intro H locs ls hR hS hL
  exact lv_if_le hx hb hd ht (fun q => kt q H locs ls hR hS hL) (fun q => kf q H locs ls hR hS hL)
theorem gw_ic_le {X : gz_Cx} {M : gz_Mi} {cells slots pc : Nat} {env st : List Value} {h : gz_H} (hok : gz_ok X M) {x y : Int32} {off : Int} {tgt : Nat} (hd : decode M.1 pc = .ok (.if_icmp .le off, 3)) (ht : (pc : Int) + off = (tgt : Int)) (kt : x ≤ y → gz_W X M.2.1 cells slots tgt env st h) (kf : ¬ x ≤ y → gz_W X M.2.1 cells slots (pc + 3) env st h) : gz_W X M.2.1 cells slots pc env (.int y :: .int x :: st) h := by
  obtain ⟨p, l, e, R, s, m, args, below, meth, c, Q, D, cA, base, b⟩ := X
  obtain ⟨cc, nL, own, fr, lo, mn⟩ := M
  obtain ⟨hx, hb, hml, hown, hts, hK, hbs, hlk, hfr, hlo, hmn⟩ := hok
  intro H locs ls hR hS hL
  exact lv_icmp_le hx hb hd ht (fun q => kt q H locs ls hR hS hL) (fun q => kf q H locs ls hR hS hL)
theorem gw_nullr {X : gz_Cx} {M : gz_Mi} {cells slots pc : Nat} {env st : List Value} {h : gz_H} (hok : gz_ok X M) {x : Nat} {off : Int} (hd : decode M.1 pc = .ok (.ifnull off, 3)) (hk : gz_W X M.2.1 cells slots (pc + 3) env (st) h) : gz_W X M.2.1 cells slots pc env (.ref x :: st) h := by
  obtain ⟨p, l, e, R, s, m, args, below, meth, c, Q, D, cA, base, b⟩ := X
  obtain ⟨cc, nL, own, fr, lo, mn⟩ := M
  obtain ⟨hx, hb, hml, hown, hts, hK, hbs, hlk, hfr, hlo, hmn⟩ := hok
  intro H locs ls hR hS hL
  exact lv_ifnull hx hb hd (hk H locs ls hR hS hL)
theorem gw_nullz {X : gz_Cx} {M : gz_Mi} {cells slots pc : Nat} {env st : List Value} {h : gz_H} (hok : gz_ok X M) {off : Int} {tgt : Nat} (hd : decode M.1 pc = .ok (.ifnull off, 3)) (ht : (pc : Int) + off = (tgt : Int)) (hk : gz_W X M.2.1 cells slots tgt env (st) h) : gz_W X M.2.1 cells slots pc env (.null :: st) h := by
  obtain ⟨p, l, e, R, s, m, args, below, meth, c, Q, D, cA, base, b⟩ := X
  obtain ⟨cc, nL, own, fr, lo, mn⟩ := M
  obtain ⟨hx, hb, hml, hown, hts, hK, hbs, hlk, hfr, hlo, hmn⟩ := hok
  intro H locs ls hR hS hL
  exact lv_ifnullN hx hb hd ht (hk H locs ls hR hS hL)
theorem gw_nonr {X : gz_Cx} {M : gz_Mi} {cells slots pc : Nat} {env st : List Value} {h : gz_H} (hok : gz_ok X M) {x : Nat} {off : Int} {tgt : Nat} (hd : decode M.1 pc = .ok (.ifnonnull off, 3)) (ht : (pc : Int) + off = (tgt : Int)) (hk : gz_W X M.2.1 cells slots tgt env (st) h) : gz_W X M.2.1 cells slots pc env (.ref x :: st) h := by
  obtain ⟨p, l, e, R, s, m, args, below, meth, c, Q, D, cA, base, b⟩ := X
  obtain ⟨cc, nL, own, fr, lo, mn⟩ := M
  obtain ⟨hx, hb, hml, hown, hts, hK, hbs, hlk, hfr, hlo, hmn⟩ := hok
  intro H locs ls hR hS hL
  exact lv_ifnonnull hx hb hd ht (hk H locs ls hR hS hL)
theorem gw_nonz {X : gz_Cx} {M : gz_Mi} {cells slots pc : Nat} {env st : List Value} {h : gz_H} (hok : gz_ok X M) {off : Int} (hd : decode M.1 pc = .ok (.ifnonnull off, 3)) (hk : gz_W X M.2.1 cells slots (pc + 3) env (st) h) : gz_W X M.2.1 cells slots pc env (.null :: st) h := by
  obtain ⟨p, l, e, R, s, m, args, below, meth, c, Q, D, cA, base, b⟩ := X
  obtain ⟨cc, nL, own, fr, lo, mn⟩ := M
  obtain ⟨hx, hb, hml, hown, hts, hK, hbs, hlk, hfr, hlo, hmn⟩ := hok
  intro H locs ls hR hS hL
  exact lv_ifnonnullN hx hb hd (hk H locs ls hR hS hL)
end
section
theorem gz_ci {ci N : Nat} {C : String} {T : u_T} (hc : vwCl[ci]? = some (C, T, N)) : ci < 100 := by
  have h : ci < 9 := (List.getElem?_eq_some_iff.mp hc).1
  omega
theorem gw_get {X : gz_Cx} {M : gz_Mi} {cells slots pc : Nat} {env st : List Value} {h : gz_H} (hok : gz_ok X M) {x ci N k idx : Nat} {C : String} {T : u_T} (hc : vwCl[ci]? = some (C, T, N)) (hk0 : k < N) (hin : ∀ w ∈ u_ws C T N, w ∈ gz_tb) (hl : Cond.fieldLink M.2.2.1 idx (T k).1 (T k).2.1 (T k).2.2.1 ∈ gz_tb) (hd : decode M.1 pc = .ok (.getfield idx, 3)) (hx0 : x < h.1) (hkd : gz_k h x = (ci, N)) (hk : gz_W X M.2.1 cells slots (pc + 3) env (gz_v h x k :: st) h) : gz_W X M.2.1 cells slots pc env (.ref x :: st) h := by
  obtain ⟨p, l, e, R, s, m, args, below, meth, c, Q, D, cA, base, b⟩ := X
  obtain ⟨cc, nL, own, fr, lo, mn⟩ := M
  obtain ⟨hx, hb, hml, hown, hts, hK, hbs, hlk, hfr, hlo, hmn⟩ := hok
  intro H locs ls hR hS hL
  have ho := (hR.2 x hx0).1 (by rw [hkd]; exact gz_ci hc)
  rw [hkd] at ho
  obtain ⟨cell, q1, q2, q3, q4⟩ := ho
  obtain ⟨hSl, hfc, kC, hkC, hkind⟩ := hK.1.1 ci _ hc
  obtain ⟨cf, kf, fi, f, hi, hsl⟩ := hSl k hk0
  refine W.getf hx hb hown (hts _ hl) hi (u_facts hfc hkC (u_lays hts hin hk0) hi).1 q1 (by rw [q3]; exact fun h => by cases h) (v := gz_c base b (gz_v h x k)) ?_ rfl rfl hd (hk H locs ls hR hS hL)
  rw [hsl, q4 k hk0]
/-- what a field of a type takes -/
def gz_fit (ty : FieldType) (v : Value) : Bool := match ty, v with
  | .int, .int _ => true
  | .boolean, .int x => x == 0 || x == 1
  | .long, .long _ => true
  | .object _, .ref _ => true
  | .object _, .null => true
  | .array _, .ref _ => true
  | .array _, .null => true
  | _, _ => false
theorem gz_fit_ok (base b : Nat) {ty : FieldType} {v : Value} (h : gz_fit ty v = true) : narrow ty (gz_c base b v) = gz_c base b v ∧ fits ty (gz_c base b v) = true := by
  cases ty <;> cases v <;> first | (exact ⟨rfl, rfl⟩) | (simp [gz_fit] at h; done) | skip
  rename_i x
  simp only [gz_fit, Bool.or_eq_true, beq_iff_eq] at h
  rcases h with rfl | rfl
  · exact ⟨(by decide : narrow .boolean (.int 0) = .int 0), (by decide : fits .boolean (.int 0) = true)⟩
  · exact ⟨(by decide : narrow .boolean (.int 1) = .int 1), (by decide : fits .boolean (.int 1) = true)⟩
theorem gw_put {X : gz_Cx} {M : gz_Mi} {cells slots pc : Nat} {env st : List Value} {h : gz_H} (hok : gz_ok X M) {x ci N k idx : Nat} {C : String} {T : u_T} (hc : vwCl[ci]? = some (C, T, N)) (hk0 : k < N) (hin : ∀ w ∈ u_ws C T N, w ∈ gz_tb) (hl : Cond.fieldLink M.2.2.1 idx (T k).1 (T k).2.1 (T k).2.2.1 ∈ gz_tb) (ty0 : Nat → FieldType) (hty : ∀ k, k < N → parseFieldDescriptor (T k).2.2.1 = some (ty0 k)) (hnm : ∀ a, a < N → ∀ b, b < N → a ≠ b → (T a).2.1 ≠ (T b).2.1) (hfin : (T k).2.2.2 = false) {v : Value} (hf : gz_fit (ty0 k) v = true) (hd : decode M.1 pc = .ok (.putfield idx, 3)) (hx0 : x < h.1) (hkd : gz_k h x = (ci, N)) (hk : gz_W X M.2.1 cells slots (pc + 3) env st (gz_set h x k v)) : gz_W X M.2.1 cells slots pc env (v :: .ref x :: st) h := by
  obtain ⟨p, l, e, R, s, m, args, below, meth, c, Q, D, cA, base, b⟩ := X
  obtain ⟨cc, nL, own, fr, lo, mn⟩ := M
  obtain ⟨hx, hb, hml, hown, hts, hK, hbs, hlk, hfr, hlo, hmn⟩ := hok
  intro H locs ls hR hS hL
  have hap := va_apart (own := own) hts hin ty0 hty hnm hK.1 hc
  have ho := (hR.2 x hx0).1 (by rw [hkd]; exact gz_ci hc)
  rw [hkd] at ho
  obtain ⟨cell, q1, q2, q3, q4⟩ := ho
  obtain ⟨hSl, hfc, kC, hkC, hkind⟩ := hK.1.1 ci _ hc
  obtain ⟨cf, kf, fi, f, hi, hsl⟩ := hSl k hk0
  have hlay := hts _ (hin _ (u_in_lay hk0))
  unfold u_lay at hlay
  rw [if_neg (by rw [hfin]; decide)] at hlay
  have hst := (u_facts hfc hkC (u_lays hts hin hk0) hi).1
  have h6 := u_store hfc hkC hkind hlay hi (hty k hk0) (gz_fit_ok base b hf).1 (gz_fit_ok base b hf).2
  refine W.putK hx hb (f := f) ⟨hown, hts _ hl, ⟨_, _, _, hi⟩, hst⟩ (by rw [q2]; exact h6) q1 q3 (by rw [hsl]; exact k2_hasslot (q4 k hk0)) rfl rfl hd fun H' e1 e2 e3 => ?_
  rw [hsl] at e1 ⊢
  exact hk H' _ ls (hR.setO (by rw [hkd]; exact gz_ci hc) (by rw [hkd]; exact ⟨_, e1, q2, q3, t_set q4 hap hk0 _⟩) e2 e3) (hS.put e2 e3 (Nat.le_add_right base x)) hL
theorem gw_putF {X : gz_Cx} {M : gz_Mi} {cells slots pc : Nat} {env st : List Value} {h : gz_H} (hok : gz_ok X M) {x ci N k idx : Nat} {C : String} {T : u_T} (hc : vwCl[ci]? = some (C, T, N)) (hk0 : k < N) (hin : ∀ w ∈ u_ws C T N, w ∈ gz_tb) (hl : Cond.fieldLink M.2.2.1 idx (T k).1 (T k).2.1 (T k).2.2.1 ∈ gz_tb) (ty0 : Nat → FieldType) (hty : ∀ k, k < N → parseFieldDescriptor (T k).2.2.1 = some (ty0 k)) (hnm : ∀ a, a < N → ∀ b, b < N → a ≠ b → (T a).2.1 ≠ (T b).2.1) (hfin : (T k).2.2.2 = true) (hini : M.2.2.2.2.2 = "<init>") (hdecl : (T k).1 = M.2.2.1) {v : Value} (hf : gz_fit (ty0 k) v = true) (hd : decode M.1 pc = .ok (.putfield idx, 3)) (hx0 : x < h.1) (hkd : gz_k h x = (ci, N)) (hk : gz_W X M.2.1 cells slots (pc + 3) env st (gz_set h x k v)) : gz_W X M.2.1 cells slots pc env (v :: .ref x :: st) h := by
  obtain ⟨p, l, e, R, s, m, args, below, meth, c, Q, D, cA, base, b⟩ := X
  obtain ⟨cc, nL, own, fr, lo, mn⟩ := M
  obtain ⟨hx, hb, hml, hown, hts, hK, hbs, hlk, hfr, hlo, hmn⟩ := hok
  intro H locs ls hR hS hL
  have hap := va_apart (own := own) hts hin ty0 hty hnm hK.1 hc
  have ho := (hR.2 x hx0).1 (by rw [hkd]; exact gz_ci hc)
  rw [hkd] at ho
  obtain ⟨cell, q1, q2, q3, q4⟩ := ho
  obtain ⟨hSl, hfc, kC, hkC, hkind⟩ := hK.1.1 ci _ hc
  obtain ⟨cf, kf, fi, f, hi, hsl⟩ := hSl k hk0
  have hlay := hts _ (hin _ (u_in_lay hk0))
  unfold u_lay at hlay
  rw [if_pos hfin] at hlay
  have hst := (u_facts hfc hkC (u_lays hts hin hk0) hi).1
  have hcf : m.cls = cf := by
    obtain ⟨_, _, c', _, _, _, -, -, hf', -, -, -, hown2, -⟩ := Cond.laysFinal_spec hlay
    have e1 : c' = cf := by have := hi.symm.trans hf'; simp at this; exact this.1.symm
    have hdecl' : (T k).1 = own := hdecl
    rw [hdecl'] at hown2
    rw [← e1]; exact Option.some.inj (hown.symm.trans hown2)
  have h6 := u_fits hfc hkC hkind (Or.inr hlay) hi (hty k hk0) (gz_fit_ok base b hf).1 (gz_fit_ok base b hf).2
  refine W.putFinK hx hb hown (hts _ hl) hi hst hcf (hmn.trans hini) (by rw [q2]; exact h6) q1 q3 (by rw [hsl]; exact k2_hasslot (q4 k hk0)) rfl rfl hd fun H' e1 e2 e3 => ?_
  rw [hsl] at e1 ⊢
  exact hk H' _ ls (hR.setO (by rw [hkd]; exact gz_ci hc) (by rw [hkd]; exact ⟨_, e1, q2, q3, t_set q4 hap hk0 _⟩) e2 e3) (hS.put e2 e3 (Nat.le_add_right base x)) hL
/-- a place of an array of a kind -/
abbrev gz_ix (h : gz_H) (ct x : Nat) (j : Int32) : Prop := x < h.1 ∧ (gz_k h x).1 = ct ∧ ¬ j < 0 ∧ j.toNatClampNeg < (gz_k h x).2
theorem gw_iald {X : gz_Cx} {M : gz_Mi} {cells slots pc : Nat} {env st : List Value} {h : gz_H} (hok : gz_ok X M) {x : Nat} {j : Int32} (hd : decode M.1 pc = .ok (.iaload, 1)) (hi : gz_ix h 100 x j) (hk : gz_W X M.2.1 cells slots (pc + 1) env (gz_v h x j.toNatClampNeg :: st) h) : gz_W X M.2.1 cells slots pc env (.int j :: .ref x :: st) h := by
  obtain ⟨p, l, e, R, s, m, args, below, meth, c, Q, D, cA, base, b⟩ := X
  obtain ⟨cc, nL, own, fr, lo, mn⟩ := M
  obtain ⟨hx, hb, hml, hown, hts, hK, hbs, hlk, hfr, hlo, hmn⟩ := hok
  intro H locs ls hR hS hL
  obtain ⟨h1, h2, h3, h4⟩ := hi
  have ho := (hR.2 x h1).2 (by rw [h2]; decide)
  have ht := (hK.1.2 0 (cA 100, .int) rfl).1
  rw [h2] at ho
  exact W.iald hx hb ho (ht _ _) (fun q => by cases q) (by rw [arrV_size]; rintro (q | q); exact h3 q; omega) (by rw [arrV_read _ _ h4]) rfl rfl hd (hk H locs ls hR hS hL)
theorem gw_zald {X : gz_Cx} {M : gz_Mi} {cells slots pc : Nat} {env st : List Value} {h : gz_H} (hok : gz_ok X M) {x : Nat} {j : Int32} (hd : decode M.1 pc = .ok (.baload, 1)) (hi : gz_ix h 101 x j) (hk : gz_W X M.2.1 cells slots (pc + 1) env (gz_v h x j.toNatClampNeg :: st) h) : gz_W X M.2.1 cells slots pc env (.int j :: .ref x :: st) h := by
  obtain ⟨p, l, e, R, s, m, args, below, meth, c, Q, D, cA, base, b⟩ := X
  obtain ⟨cc, nL, own, fr, lo, mn⟩ := M
  obtain ⟨hx, hb, hml, hown, hts, hK, hbs, hlk, hfr, hlo, hmn⟩ := hok
  intro H locs ls hR hS hL
  obtain ⟨h1, h2, h3, h4⟩ := hi
  have ho := (hR.2 x h1).2 (by rw [h2]; decide)
  have ht := (hK.1.2 1 (cA 101, .boolean) rfl).1
  rw [h2] at ho
  exact W.zald hx hb ho (ht _ _) (fun q => by cases q) (by rw [arrV_size]; rintro (q | q); exact h3 q; omega) (by rw [arrV_read _ _ h4]) rfl rfl hd (hk H locs ls hR hS hL)
theorem gw_lald {X : gz_Cx} {M : gz_Mi} {cells slots pc : Nat} {env st : List Value} {h : gz_H} (hok : gz_ok X M) {x : Nat} {j : Int32} (hd : decode M.1 pc = .ok (.laload, 1)) (hi : gz_ix h 102 x j) (hk : gz_W X M.2.1 cells slots (pc + 1) env (gz_v h x j.toNatClampNeg :: st) h) : gz_W X M.2.1 cells slots pc env (.int j :: .ref x :: st) h := by
  obtain ⟨p, l, e, R, s, m, args, below, meth, c, Q, D, cA, base, b⟩ := X
  obtain ⟨cc, nL, own, fr, lo, mn⟩ := M
  obtain ⟨hx, hb, hml, hown, hts, hK, hbs, hlk, hfr, hlo, hmn⟩ := hok
  intro H locs ls hR hS hL
  obtain ⟨h1, h2, h3, h4⟩ := hi
  have ho := (hR.2 x h1).2 (by rw [h2]; decide)
  have ht := (hK.1.2 2 (cA 102, .long) rfl).1
  rw [h2] at ho
  exact W.lald hx hb ho (ht _ _) (fun q => by cases q) (by rw [arrV_size]; rintro (q | q); exact h3 q; omega) (by rw [arrV_read _ _ h4]) rfl rfl hd (hk H locs ls hR hS hL)
theorem gw_aald103 {X : gz_Cx} {M : gz_Mi} {cells slots pc : Nat} {env st : List Value} {h : gz_H} (hok : gz_ok X M) {x : Nat} {j : Int32} (hd : decode M.1 pc = .ok (.aaload, 1)) (hi : gz_ix h 103 x j) (hk : gz_W X M.2.1 cells slots (pc + 1) env (gz_v h x j.toNatClampNeg :: st) h) : gz_W X M.2.1 cells slots pc env (.int j :: .ref x :: st) h := by
  obtain ⟨p, l, e, R, s, m, args, below, meth, c, Q, D, cA, base, b⟩ := X
  obtain ⟨cc, nL, own, fr, lo, mn⟩ := M
  obtain ⟨hx, hb, hml, hown, hts, hK, hbs, hlk, hfr, hlo, hmn⟩ := hok
  intro H locs ls hR hS hL
  obtain ⟨h1, h2, h3, h4⟩ := hi
  have ho := (hR.2 x h1).2 (by rw [h2]; decide)
  have ht := (hK.1.2 3 (cA 103, .object RX3) rfl).1
  rw [h2] at ho
  exact W.aald hx hb ho (ht _ _) rfl (fun q => by cases q) (by rw [arrV_size]; rintro (q | q); exact h3 q; omega) (by rw [arrV_read _ _ h4]) rfl rfl hd (hk H locs ls hR hS hL)
theorem gw_aald104 {X : gz_Cx} {M : gz_Mi} {cells slots pc : Nat} {env st : List Value} {h : gz_H} (hok : gz_ok X M) {x : Nat} {j : Int32} (hd : decode M.1 pc = .ok (.aaload, 1)) (hi : gz_ix h 104 x j) (hk : gz_W X M.2.1 cells slots (pc + 1) env (gz_v h x j.toNatClampNeg :: st) h) : gz_W X M.2.1 cells slots pc env (.int j :: .ref x :: st) h := by
  obtain ⟨p, l, e, R, s, m, args, below, meth, c, Q, D, cA, base, b⟩ := X
  obtain ⟨cc, nL, own, fr, lo, mn⟩ := M
  obtain ⟨hx, hb, hml, hown, hts, hK, hbs, hlk, hfr, hlo, hmn⟩ := hok
  intro H locs ls hR hS hL
  obtain ⟨h1, h2, h3, h4⟩ := hi
  have ho := (hR.2 x h1).2 (by rw [h2]; decide)
  have ht := (hK.1.2 4 (cA 104, .object RX1) rfl).1
  rw [h2] at ho
  exact W.aald hx hb ho (ht _ _) rfl (fun q => by cases q) (by rw [arrV_size]; rintro (q | q); exact h3 q; omega) (by rw [arrV_read _ _ h4]) rfl rfl hd (hk H locs ls hR hS hL)
theorem gw_aald105 {X : gz_Cx} {M : gz_Mi} {cells slots pc : Nat} {env st : List Value} {h : gz_H} (hok : gz_ok X M) {x : Nat} {j : Int32} (hd : decode M.1 pc = .ok (.aaload, 1)) (hi : gz_ix h 105 x j) (hk : gz_W X M.2.1 cells slots (pc + 1) env (gz_v h x j.toNatClampNeg :: st) h) : gz_W X M.2.1 cells slots pc env (.int j :: .ref x :: st) h := by
  obtain ⟨p, l, e, R, s, m, args, below, meth, c, Q, D, cA, base, b⟩ := X
  obtain ⟨cc, nL, own, fr, lo, mn⟩ := M
  obtain ⟨hx, hb, hml, hown, hts, hK, hbs, hlk, hfr, hlo, hmn⟩ := hok
  intro H locs ls hR hS hL
  obtain ⟨h1, h2, h3, h4⟩ := hi
  have ho := (hR.2 x h1).2 (by rw [h2]; decide)
  have ht := (hK.1.2 5 (cA 105, .object RX2) rfl).1
  rw [h2] at ho
  exact W.aald hx hb ho (ht _ _) rfl (fun q => by cases q) (by rw [arrV_size]; rintro (q | q); exact h3 q; omega) (by rw [arrV_read _ _ h4]) rfl rfl hd (hk H locs ls hR hS hL)
theorem gw_iast {X : gz_Cx} {M : gz_Mi} {cells slots pc : Nat} {env st : List Value} {h : gz_H} (hok : gz_ok X M) {x : Nat} {j : Int32} {y : Int32} (hd : decode M.1 pc = .ok (.iastore, 1)) (hi : gz_ix h 100 x j) (hk : gz_W X M.2.1 cells slots (pc + 1) env st (gz_set h x j.toNatClampNeg (.int y))) : gz_W X M.2.1 cells slots pc env (.int y :: .int j :: .ref x :: st) h := by
  obtain ⟨p, l, e, R, s, m, args, below, meth, c, Q, D, cA, base, b⟩ := X
  obtain ⟨cc, nL, own, fr, lo, mn⟩ := M
  obtain ⟨hx, hb, hml, hown, hts, hK, hbs, hlk, hfr, hlo, hmn⟩ := hok
  intro H locs ls hR hS hL
  obtain ⟨h1, h2, h3, h4⟩ := hi
  have ho := (hR.2 x h1).2 (by rw [h2]; decide)
  have ht := (hK.1.2 0 (cA 100, .int) rfl).1
  have ho' := ho
  rw [h2] at ho
  refine W.iast hx hb ho (ht _ _) (fun q => by cases q) (by rw [arrV_size]; rintro (q | q); exact h3 q; omega) rfl rfl hd fun H1 e1 z oq => ?_
  exact hk H1 _ ls (hR.setA (v := .int y) (by rw [h2]; decide) (by rw [h2]; exact e1) z oq) (hS.put z oq (Nat.le_add_right base x)) hL
theorem gw_last {X : gz_Cx} {M : gz_Mi} {cells slots pc : Nat} {env st : List Value} {h : gz_H} (hok : gz_ok X M) {x : Nat} {j : Int32} {y : Int64} (hd : decode M.1 pc = .ok (.lastore, 1)) (hi : gz_ix h 102 x j) (hk : gz_W X M.2.1 cells slots (pc + 1) env st (gz_set h x j.toNatClampNeg (.long y))) : gz_W X M.2.1 cells slots pc env (.long y :: .int j :: .ref x :: st) h := by
  obtain ⟨p, l, e, R, s, m, args, below, meth, c, Q, D, cA, base, b⟩ := X
  obtain ⟨cc, nL, own, fr, lo, mn⟩ := M
  obtain ⟨hx, hb, hml, hown, hts, hK, hbs, hlk, hfr, hlo, hmn⟩ := hok
  intro H locs ls hR hS hL
  obtain ⟨h1, h2, h3, h4⟩ := hi
  have ho := (hR.2 x h1).2 (by rw [h2]; decide)
  have ht := (hK.1.2 2 (cA 102, .long) rfl).1
  have ho' := ho
  rw [h2] at ho
  refine W.last hx hb ho (ht _ _) (fun q => by cases q) (by rw [arrV_size]; rintro (q | q); exact h3 q; omega) rfl rfl hd fun H1 e1 z oq => ?_
  exact hk H1 _ ls (hR.setA (v := .long y) (by rw [h2]; decide) (by rw [h2]; exact e1) z oq) (hS.put z oq (Nat.le_add_right base x)) hL
theorem gw_zast {X : gz_Cx} {M : gz_Mi} {cells slots pc : Nat} {env st : List Value} {h : gz_H} (hok : gz_ok X M) {x : Nat} {j y : Int32} (hd : decode M.1 pc = .ok (.bastore, 1)) (hy : y = 0 ∨ y = 1) (hi : gz_ix h 101 x j) (hk : gz_W X M.2.1 cells slots (pc + 1) env st (gz_set h x j.toNatClampNeg (.int y))) : gz_W X M.2.1 cells slots pc env (.int y :: .int j :: .ref x :: st) h := by
  obtain ⟨p, l, e, R, s, m, args, below, meth, c, Q, D, cA, base, b⟩ := X
  obtain ⟨cc, nL, own, fr, lo, mn⟩ := M
  obtain ⟨hx, hb, hml, hown, hts, hK, hbs, hlk, hfr, hlo, hmn⟩ := hok
  intro H locs ls hR hS hL
  obtain ⟨h1, h2, h3, h4⟩ := hi
  have ho := (hR.2 x h1).2 (by rw [h2]; decide)
  have ht := (hK.1.2 1 (cA 101, .boolean) rfl).1
  rw [h2] at ho
  have hn : narrow .boolean (.int y) = gz_c base b (.int y) := by rcases hy with rfl | rfl <;> rfl
  refine W.zast hx hb ho (ht _ _) (fun q => by cases q) (by rw [arrV_size]; rintro (q | q); exact h3 q; omega) rfl rfl hd fun H1 e1 z oq => ?_
  rw [hn] at e1
  exact hk H1 _ ls (hR.setA (v := .int y) (by rw [h2]; decide) (by rw [h2]; exact e1) z oq) (hS.put z oq (Nat.le_add_right base x)) hL
theorem gw_aast103 {X : gz_Cx} {M : gz_Mi} {cells slots pc : Nat} {env st : List Value} {h : gz_H} (hok : gz_ok X M) {x y : Nat} {j : Int32} (hd : decode M.1 pc = .ok (.aastore, 1)) (hy0 : y < h.1) (hyk : (gz_k h y).1 = 3) (hi : gz_ix h 103 x j) (hk : gz_W X M.2.1 cells slots (pc + 1) env st (gz_set h x j.toNatClampNeg (.ref y))) : gz_W X M.2.1 cells slots pc env (.ref y :: .int j :: .ref x :: st) h := by
  obtain ⟨p, l, e, R, s, m, args, below, meth, c, Q, D, cA, base, b⟩ := X
  obtain ⟨cc, nL, own, fr, lo, mn⟩ := M
  obtain ⟨hx, hb, hml, hown, hts, hK, hbs, hlk, hfr, hlo, hmn⟩ := hok
  intro H locs ls hR hS hL
  obtain ⟨h1, h2, h3, h4⟩ := hi
  have ho := (hR.2 x h1).2 (by rw [h2]; decide)
  rw [h2] at ho
  have hv := (hR.2 y hy0).1 (by rw [hyk]; decide)
  rw [hyk] at hv
  obtain ⟨cellV, g1, g2, g3, -⟩ := hv
  have hcls := (hK.1.1 3 (RX3, TX3, 14) rfl).2
  obtain ⟨kA, comp, k1, k2, k3, -⟩ := (hK.1.2 3 (cA 103, .object RX3) rfl).2
  have hcomp : comp = D.1 3 := Option.some.inj (k3.symm.trans hcls.1)
  subst hcomp
  obtain ⟨kC, hkC, -⟩ := hcls.2
  refine W.aast hx hb ho (fun q h => by cases h) (fun h => by cases h) k1 k2 rfl hkC ⟨h3, by rw [arrV_size]; exact h4⟩ g1 (fun q h => by rw [g3] at h; cases h) (by rw [g2]; exact hkC) (by rw [g2]; exact va_assign hcls) rfl rfl hd fun H1 e1 z oq => ?_
  exact hk H1 _ ls (hR.setA (v := .ref y) (by rw [h2]; decide) (by rw [h2]; exact e1) z oq) (hS.put z oq (Nat.le_add_right base x)) hL
theorem gw_aast104 {X : gz_Cx} {M : gz_Mi} {cells slots pc : Nat} {env st : List Value} {h : gz_H} (hok : gz_ok X M) {x y : Nat} {j : Int32} (hd : decode M.1 pc = .ok (.aastore, 1)) (hy0 : y < h.1) (hyk : (gz_k h y).1 = 1) (hi : gz_ix h 104 x j) (hk : gz_W X M.2.1 cells slots (pc + 1) env st (gz_set h x j.toNatClampNeg (.ref y))) : gz_W X M.2.1 cells slots pc env (.ref y :: .int j :: .ref x :: st) h := by
  obtain ⟨p, l, e, R, s, m, args, below, meth, c, Q, D, cA, base, b⟩ := X
  obtain ⟨cc, nL, own, fr, lo, mn⟩ := M
  obtain ⟨hx, hb, hml, hown, hts, hK, hbs, hlk, hfr, hlo, hmn⟩ := hok
  intro H locs ls hR hS hL
  obtain ⟨h1, h2, h3, h4⟩ := hi
  have ho := (hR.2 x h1).2 (by rw [h2]; decide)
  rw [h2] at ho
  have hv := (hR.2 y hy0).1 (by rw [hyk]; decide)
  rw [hyk] at hv
  obtain ⟨cellV, g1, g2, g3, -⟩ := hv
  have hcls := (hK.1.1 1 (RX1, TX1, 11) rfl).2
  obtain ⟨kA, comp, k1, k2, k3, -⟩ := (hK.1.2 4 (cA 104, .object RX1) rfl).2
  have hcomp : comp = D.1 1 := Option.some.inj (k3.symm.trans hcls.1)
  subst hcomp
  obtain ⟨kC, hkC, -⟩ := hcls.2
  refine W.aast hx hb ho (fun q h => by cases h) (fun h => by cases h) k1 k2 rfl hkC ⟨h3, by rw [arrV_size]; exact h4⟩ g1 (fun q h => by rw [g3] at h; cases h) (by rw [g2]; exact hkC) (by rw [g2]; exact va_assign hcls) rfl rfl hd fun H1 e1 z oq => ?_
  exact hk H1 _ ls (hR.setA (v := .ref y) (by rw [h2]; decide) (by rw [h2]; exact e1) z oq) (hS.put z oq (Nat.le_add_right base x)) hL
theorem gw_aast105 {X : gz_Cx} {M : gz_Mi} {cells slots pc : Nat} {env st : List Value} {h : gz_H} (hok : gz_ok X M) {x y : Nat} {j : Int32} (hd : decode M.1 pc = .ok (.aastore, 1)) (hy0 : y < h.1) (hyk : (gz_k h y).1 = 2) (hi : gz_ix h 105 x j) (hk : gz_W X M.2.1 cells slots (pc + 1) env st (gz_set h x j.toNatClampNeg (.ref y))) : gz_W X M.2.1 cells slots pc env (.ref y :: .int j :: .ref x :: st) h := by
  obtain ⟨p, l, e, R, s, m, args, below, meth, c, Q, D, cA, base, b⟩ := X
  obtain ⟨cc, nL, own, fr, lo, mn⟩ := M
  obtain ⟨hx, hb, hml, hown, hts, hK, hbs, hlk, hfr, hlo, hmn⟩ := hok
  intro H locs ls hR hS hL
  obtain ⟨h1, h2, h3, h4⟩ := hi
  have ho := (hR.2 x h1).2 (by rw [h2]; decide)
  rw [h2] at ho
  have hv := (hR.2 y hy0).1 (by rw [hyk]; decide)
  rw [hyk] at hv
  obtain ⟨cellV, g1, g2, g3, -⟩ := hv
  have hcls := (hK.1.1 2 (RX2, TX2, 9) rfl).2
  obtain ⟨kA, comp, k1, k2, k3, -⟩ := (hK.1.2 5 (cA 105, .object RX2) rfl).2
  have hcomp : comp = D.1 2 := Option.some.inj (k3.symm.trans hcls.1)
  subst hcomp
  obtain ⟨kC, hkC, -⟩ := hcls.2
  refine W.aast hx hb ho (fun q h => by cases h) (fun h => by cases h) k1 k2 rfl hkC ⟨h3, by rw [arrV_size]; exact h4⟩ g1 (fun q h => by rw [g3] at h; cases h) (by rw [g2]; exact hkC) (by rw [g2]; exact va_assign hcls) rfl rfl hd fun H1 e1 z oq => ?_
  exact hk H1 _ ls (hR.setA (v := .ref y) (by rw [h2]; decide) (by rw [h2]; exact e1) z oq) (hS.put z oq (Nat.le_add_right base x)) hL
theorem gw_alen {X : gz_Cx} {M : gz_Mi} {cells slots pc : Nat} {env st : List Value} {h : gz_H} (hok : gz_ok X M) {x : Nat} (hd : decode M.1 pc = .ok (.arraylength, 1)) (h1 : x < h.1) (h2 : (gz_k h x).1 = 100) (hk : gz_W X M.2.1 cells slots (pc + 1) env (.int (Int32.ofNat (gz_k h x).2) :: st) h) : gz_W X M.2.1 cells slots pc env (.ref x :: st) h := by
  obtain ⟨p, l, e, R, s, m, args, below, meth, c, Q, D, cA, base, b⟩ := X
  obtain ⟨cc, nL, own, fr, lo, mn⟩ := M
  obtain ⟨hx, hb, hml, hown, hts, hK, hbs, hlk, hfr, hlo, hmn⟩ := hok
  intro H locs ls hR hS hL
  have ho := (hR.2 x h1).2 (by rw [h2]; decide)
  have ht := (hK.1.2 0 (cA 100, .int) rfl).1
  rw [h2] at ho
  exact W.alen hx hb ho (ht _ _) (by rw [arrV_size] <;> rfl) rfl rfl hd (hk H locs ls hR hS hL)
def gz_nf (v : Value) : Bool := match v with
  | .float _ => false
  | .ref _ => false
  | _ => true
theorem gz_nf_c {base b : Nat} {v : Value} (h : gz_nf v = true) : gz_c base b v = v := by cases v <;> first | rfl | (simp [gz_nf] at h)
theorem gw_new {X : gz_Cx} {M : gz_Mi} {cells slots pc : Nat} {env st : List Value} {h : gz_H} (hok : gz_ok X M) {ci N idx : Nat} {C : String} {T : u_T} (hc : vwCl[ci]? = some (C, T, N)) (hin : ∀ w ∈ u_ws C T N, w ∈ gz_tb) (ty0 : Nat → FieldType) (hty : ∀ k, k < N → parseFieldDescriptor (T k).2.2.1 = some (ty0 k)) (hnf : ∀ k, k < N → gz_nf (defaultValue (ty0 k)) = true) (hcl : Cond.classLink M.2.2.1 idx C ∈ gz_tb) (hins : Cond.instantiable C N ∈ gz_tb) (hini : Cond.initialized C ∈ gz_tb) (hd : decode M.1 pc = .ok (.new idx, 3)) (hce : cells + 1 ≤ gz_rc X) (hsl : slots + N ≤ gz_rs X) (hk : gz_W X M.2.1 (cells + 1) (slots + N) (pc + 3) env (.ref h.1 :: st) (gz_new h (ci, N) (fun j => defaultValue (ty0 j)))) : gz_W X M.2.1 cells slots pc env st h := by
  obtain ⟨p, l, e, R, s, m, args, below, meth, c, Q, D, cA, base, b⟩ := X
  obtain ⟨cc, nL, own, fr, lo, mn⟩ := M
  obtain ⟨hx, hb, hml, hown, hts, hK, hbs, hlk, hfr, hlo, hmn⟩ := hok
  intro H locs ls hR hS hL
  have hKn := hK.1.1 ci _ hc
  refine W.newcK hx hb hown (hts _ hcl) (hts _ hins) (hts _ hini) rfl hd hce hsl hKn.2.1 hR.1 fun H1 kC hkC e1 z1 o1 => ?_
  have hb1 := u_born ty0 hts hin hKn hkC e1 hty
  refine hk H1 locs ls (hR.new z1 o1 ⟨fun _ => ?_, fun q => ?_⟩) ⟨Nat.le_trans hS.1 (by have := hR.1; omega), fun q h1 h2 => (o1 q (Nat.lt_of_lt_of_le h1 (by have := hS.1; have := hR.1; omega))).trans (hS.2.1 q h1 h2), hS.2.2⟩ hL
  · simp only [gz_k, gz_v, gz_new, if_true]
    exact hb1.to (fun j hj => (gz_nf_c (hnf j hj)).symm)
  · simp only [gz_k, gz_new, if_true] at q
    have := gz_ci hc
    omega
theorem gw_newI {X : gz_Cx} {M : gz_Mi} {cells slots pc : Nat} {env st : List Value} {h : gz_H} (hok : gz_ok X M) {n : Int32} (har : Cond.arrayClass .int ∈ gz_tb) (hd : decode M.1 pc = .ok (.newarray .int, 2)) (hn : ¬ n < 0) (hn2 : n.toNatClampNeg ≤ 10000) (hce : cells + 1 ≤ gz_rc X) (hsl : slots + n.toNatClampNeg ≤ gz_rs X) (hk : gz_W X M.2.1 (cells + 1) (slots + n.toNatClampNeg) (pc + 2) env (.ref h.1 :: st) (gz_new h (100, n.toNatClampNeg) (fun _ => defaultValue .int))) : gz_W X M.2.1 cells slots pc env (.int n :: st) h := by
  obtain ⟨p, l, e, R, s, m, args, below, meth, c, Q, D, cA, base, b⟩ := X
  obtain ⟨cc, nL, own, fr, lo, mn⟩ := M
  obtain ⟨hx, hb, hml, hown, hts, hK, hbs, hlk, hfr, hlo, hmn⟩ := hok
  intro H locs ls hR hS hL
  refine va_newaK hx hb (atype := .int) (hts _ har) rfl hd rfl hn rfl (by show _ * 4 ≤ _; omega) hce hsl hR.1 fun H1 cA' e1 z1 o1 hAr hNm => ?_
  have hcA : cA' = cA 100 := Option.some.inj (hNm.symm.trans (hK.1.2 0 (cA 100, .int) rfl).2)
  subst hcA
  refine hk H1 locs ls (hR.new z1 o1 ⟨fun q => ?_, fun _ => ?_⟩) ⟨Nat.le_trans hS.1 (by have := hR.1; omega), fun q h1 h2 => (o1 q (Nat.lt_of_lt_of_le h1 (by have := hS.1; have := hR.1; omega))).trans (hS.2.1 q h1 h2), hS.2.2⟩ hL
  · simp only [gz_k, gz_new, if_true] at q
    omega
  · simp only [gz_k, gz_v, gz_new, if_true]
    exact e1
theorem gw_newZ {X : gz_Cx} {M : gz_Mi} {cells slots pc : Nat} {env st : List Value} {h : gz_H} (hok : gz_ok X M) {n : Int32} (har : Cond.arrayClass .boolean ∈ gz_tb) (hd : decode M.1 pc = .ok (.newarray .boolean, 2)) (hn : ¬ n < 0) (hn2 : n.toNatClampNeg ≤ 10000) (hce : cells + 1 ≤ gz_rc X) (hsl : slots + n.toNatClampNeg ≤ gz_rs X) (hk : gz_W X M.2.1 (cells + 1) (slots + n.toNatClampNeg) (pc + 2) env (.ref h.1 :: st) (gz_new h (101, n.toNatClampNeg) (fun _ => defaultValue .boolean))) : gz_W X M.2.1 cells slots pc env (.int n :: st) h := by
  obtain ⟨p, l, e, R, s, m, args, below, meth, c, Q, D, cA, base, b⟩ := X
  obtain ⟨cc, nL, own, fr, lo, mn⟩ := M
  obtain ⟨hx, hb, hml, hown, hts, hK, hbs, hlk, hfr, hlo, hmn⟩ := hok
  intro H locs ls hR hS hL
  refine va_newaK hx hb (atype := .boolean) (hts _ har) rfl hd rfl hn rfl (by show _ * 1 ≤ _; omega) hce hsl hR.1 fun H1 cA' e1 z1 o1 hAr hNm => ?_
  have hcA : cA' = cA 101 := Option.some.inj (hNm.symm.trans (hK.1.2 1 (cA 101, .boolean) rfl).2)
  subst hcA
  refine hk H1 locs ls (hR.new z1 o1 ⟨fun q => ?_, fun _ => ?_⟩) ⟨Nat.le_trans hS.1 (by have := hR.1; omega), fun q h1 h2 => (o1 q (Nat.lt_of_lt_of_le h1 (by have := hS.1; have := hR.1; omega))).trans (hS.2.1 q h1 h2), hS.2.2⟩ hL
  · simp only [gz_k, gz_new, if_true] at q
    omega
  · simp only [gz_k, gz_v, gz_new, if_true]
    exact e1
theorem gw_newJ {X : gz_Cx} {M : gz_Mi} {cells slots pc : Nat} {env st : List Value} {h : gz_H} (hok : gz_ok X M) {n : Int32} (har : Cond.arrayClass .long ∈ gz_tb) (hd : decode M.1 pc = .ok (.newarray .long, 2)) (hn : ¬ n < 0) (hn2 : n.toNatClampNeg ≤ 10000) (hce : cells + 1 ≤ gz_rc X) (hsl : slots + n.toNatClampNeg ≤ gz_rs X) (hk : gz_W X M.2.1 (cells + 1) (slots + n.toNatClampNeg) (pc + 2) env (.ref h.1 :: st) (gz_new h (102, n.toNatClampNeg) (fun _ => defaultValue .long))) : gz_W X M.2.1 cells slots pc env (.int n :: st) h := by
  obtain ⟨p, l, e, R, s, m, args, below, meth, c, Q, D, cA, base, b⟩ := X
  obtain ⟨cc, nL, own, fr, lo, mn⟩ := M
  obtain ⟨hx, hb, hml, hown, hts, hK, hbs, hlk, hfr, hlo, hmn⟩ := hok
  intro H locs ls hR hS hL
  refine va_newaK hx hb (atype := .long) (hts _ har) rfl hd rfl hn rfl (by show _ * 8 ≤ _; omega) hce hsl hR.1 fun H1 cA' e1 z1 o1 hAr hNm => ?_
  have hcA : cA' = cA 102 := Option.some.inj (hNm.symm.trans (hK.1.2 2 (cA 102, .long) rfl).2)
  subst hcA
  refine hk H1 locs ls (hR.new z1 o1 ⟨fun q => ?_, fun _ => ?_⟩) ⟨Nat.le_trans hS.1 (by have := hR.1; omega), fun q h1 h2 => (o1 q (Nat.lt_of_lt_of_le h1 (by have := hS.1; have := hR.1; omega))).trans (hS.2.1 q h1 h2), hS.2.2⟩ hL
  · simp only [gz_k, gz_new, if_true] at q
    omega
  · simp only [gz_k, gz_v, gz_new, if_true]
    exact e1
theorem gw_anew103 {X : gz_Cx} {M : gz_Mi} {cells slots pc : Nat} {env st : List Value} {h : gz_H} (hok : gz_ok X M) {n : Int32} {idx : Nat} (hcl : Cond.classLink M.2.2.1 idx RX3 ∈ gz_tb) (hd : decode M.1 pc = .ok (.anewarray idx, 3)) (hn : ¬ n < 0) (hn2 : n.toNatClampNeg ≤ 10000) (hce : cells + 1 ≤ gz_rc X) (hsl : slots + n.toNatClampNeg ≤ gz_rs X) (hk : gz_W X M.2.1 (cells + 1) (slots + n.toNatClampNeg) (pc + 3) env (.ref h.1 :: st) (gz_new h (103, n.toNatClampNeg) (fun _ => .null))) : gz_W X M.2.1 cells slots pc env (.int n :: st) h := by
  obtain ⟨p, l, e, R, s, m, args, below, meth, c, Q, D, cA, base, b⟩ := X
  obtain ⟨cc, nL, own, fr, lo, mn⟩ := M
  obtain ⟨hx, hb, hml, hown, hts, hK, hbs, hlk, hfr, hlo, hmn⟩ := hok
  intro H locs ls hR hS hL
  refine W.anew hx hb hown (hts _ hcl) (va_AO.use hK.2.2.2.2.2.2.1) rfl hd rfl hn (by omega) hce hsl fun cA' kA comp f1 f2 f3 f4 => ?_
  obtain ⟨kA', comp', k1, k2, k3, k4⟩ := (hK.1.2 3 (cA 103, .object RX3) rfl).2
  have hcA : cA' = cA 103 := Option.some.inj (f1.symm.trans k4)
  subst hcA
  have hz : H.size = base + h.1 := hR.1
  have key := hk (H.push ({ cls := cA 103, slots := Array.replicate n.toNatClampNeg .null, vm := .none } : Cell)) locs ls (hR.new (by rw [Array.size_push, hz]) (fun q hq => by rw [Array.getElem?_push, if_neg (by omega)]) ⟨fun q => ?_, fun _ => ?_⟩) ⟨Nat.le_trans hS.1 (by rw [Array.size_push]; omega), fun q h1 h2 => (by rw [Array.getElem?_push, if_neg (by have := hS.1; omega)]; exact hS.2.1 q h1 h2), hS.2.2⟩ hL
  · simpa [gz_c, hz] using key
  · simp only [gz_k, gz_new, if_true] at q
    omega
  · simp only [gz_k, gz_v, gz_new, if_true]
    rw [← hz, Array.getElem?_push_size, arrV_new]
    rfl
theorem gw_anew104 {X : gz_Cx} {M : gz_Mi} {cells slots pc : Nat} {env st : List Value} {h : gz_H} (hok : gz_ok X M) {n : Int32} {idx : Nat} (hcl : Cond.classLink M.2.2.1 idx RX1 ∈ gz_tb) (hd : decode M.1 pc = .ok (.anewarray idx, 3)) (hn : ¬ n < 0) (hn2 : n.toNatClampNeg ≤ 10000) (hce : cells + 1 ≤ gz_rc X) (hsl : slots + n.toNatClampNeg ≤ gz_rs X) (hk : gz_W X M.2.1 (cells + 1) (slots + n.toNatClampNeg) (pc + 3) env (.ref h.1 :: st) (gz_new h (104, n.toNatClampNeg) (fun _ => .null))) : gz_W X M.2.1 cells slots pc env (.int n :: st) h := by
  obtain ⟨p, l, e, R, s, m, args, below, meth, c, Q, D, cA, base, b⟩ := X
  obtain ⟨cc, nL, own, fr, lo, mn⟩ := M
  obtain ⟨hx, hb, hml, hown, hts, hK, hbs, hlk, hfr, hlo, hmn⟩ := hok
  intro H locs ls hR hS hL
  refine W.anew hx hb hown (hts _ hcl) (va_AO.use hK.2.2.2.2.2.2.2.1) rfl hd rfl hn (by omega) hce hsl fun cA' kA comp f1 f2 f3 f4 => ?_
  obtain ⟨kA', comp', k1, k2, k3, k4⟩ := (hK.1.2 4 (cA 104, .object RX1) rfl).2
  have hcA : cA' = cA 104 := Option.some.inj (f1.symm.trans k4)
  subst hcA
  have hz : H.size = base + h.1 := hR.1
  have key := hk (H.push ({ cls := cA 104, slots := Array.replicate n.toNatClampNeg .null, vm := .none } : Cell)) locs ls (hR.new (by rw [Array.size_push, hz]) (fun q hq => by rw [Array.getElem?_push, if_neg (by omega)]) ⟨fun q => ?_, fun _ => ?_⟩) ⟨Nat.le_trans hS.1 (by rw [Array.size_push]; omega), fun q h1 h2 => (by rw [Array.getElem?_push, if_neg (by have := hS.1; omega)]; exact hS.2.1 q h1 h2), hS.2.2⟩ hL
  · simpa [gz_c, hz] using key
  · simp only [gz_k, gz_new, if_true] at q
    omega
  · simp only [gz_k, gz_v, gz_new, if_true]
    rw [← hz, Array.getElem?_push_size, arrV_new]
    rfl
theorem gw_anew105 {X : gz_Cx} {M : gz_Mi} {cells slots pc : Nat} {env st : List Value} {h : gz_H} (hok : gz_ok X M) {n : Int32} {idx : Nat} (hcl : Cond.classLink M.2.2.1 idx RX2 ∈ gz_tb) (hd : decode M.1 pc = .ok (.anewarray idx, 3)) (hn : ¬ n < 0) (hn2 : n.toNatClampNeg ≤ 10000) (hce : cells + 1 ≤ gz_rc X) (hsl : slots + n.toNatClampNeg ≤ gz_rs X) (hk : gz_W X M.2.1 (cells + 1) (slots + n.toNatClampNeg) (pc + 3) env (.ref h.1 :: st) (gz_new h (105, n.toNatClampNeg) (fun _ => .null))) : gz_W X M.2.1 cells slots pc env (.int n :: st) h := by
  obtain ⟨p, l, e, R, s, m, args, below, meth, c, Q, D, cA, base, b⟩ := X
  obtain ⟨cc, nL, own, fr, lo, mn⟩ := M
  obtain ⟨hx, hb, hml, hown, hts, hK, hbs, hlk, hfr, hlo, hmn⟩ := hok
  intro H locs ls hR hS hL
  refine W.anew hx hb hown (hts _ hcl) (va_AO.use hK.2.2.2.2.2.2.2.2) rfl hd rfl hn (by omega) hce hsl fun cA' kA comp f1 f2 f3 f4 => ?_
  obtain ⟨kA', comp', k1, k2, k3, k4⟩ := (hK.1.2 5 (cA 105, .object RX2) rfl).2
  have hcA : cA' = cA 105 := Option.some.inj (f1.symm.trans k4)
  subst hcA
  have hz : H.size = base + h.1 := hR.1
  have key := hk (H.push ({ cls := cA 105, slots := Array.replicate n.toNatClampNeg .null, vm := .none } : Cell)) locs ls (hR.new (by rw [Array.size_push, hz]) (fun q hq => by rw [Array.getElem?_push, if_neg (by omega)]) ⟨fun q => ?_, fun _ => ?_⟩) ⟨Nat.le_trans hS.1 (by rw [Array.size_push]; omega), fun q h1 h2 => (by rw [Array.getElem?_push, if_neg (by have := hS.1; omega)]; exact hS.2.1 q h1 h2), hS.2.2⟩ hL
  · simpa [gz_c, hz] using key
  · simp only [gz_k, gz_new, if_true] at q
    omega
  · simp only [gz_k, gz_v, gz_new, if_true]
    rw [← hz, Array.getElem?_push_size, arrV_new]
    rfl
end
section
def gz_Pc (D : va_G) (cA : Nat → ClassId) (base b : Nat) (av : List Value) (h : gz_H) : Array Value → State → Prop := fun v U => v = (av.map (gz_c base b)).toArray ∧ gz_R D cA base b h U.heap ∧ gz_K D cA U
def gz_Qc (D : va_G) (cA : Nat → ClassId) (base b : Nat) (r : Option Value) (h' : gz_H) : Array Value → State → Outcome → State → Prop := fun _ st o t => o = .returned (r.map (gz_c base b)) ∧ gz_R D cA base b h' t.heap ∧ st.heap.size ≤ t.heap.size ∧ ∀ q : Nat, q < base → t.heap[q]? = st.heap[q]?
/-- a method does what 'sem' says -/
def gz_Mt (y : MethodName) (cc : ByteArray) (maxL : Nat) (ret : Option FieldType) (rm : Room) (sem : gz_Me) : Prop := ∀ (l : Launch) (D : va_G) (cA : Nat → ClassId) (base b : Nat) (av : List Value) (h : gz_H) (r : Option Value) (h' : gz_H), sem av h = some (r, h') → Met l y (Cond.code y cc maxL ret :: gz_tb) rm (gz_Pc D cA base b av h) (gz_Qc D cA base b r h') rm.cells rm.slots (fun q => base ≤ q)
theorem gz_blind {D : va_G} {cA : Nat → ClassId} {base b : Nat} {av : List Value} {h : gz_H} : FrameBlind (gz_Pc D cA base b av h) := fun a U g mk q => ⟨q.1, q.2.1, gz_K.same (s := U) (U := U.calling g mk a) rfl q.2.2⟩
section GZA
variable {p : Program} {l : Launch} {e : Env} {R : Room} {s : State} {m : MethodId} {args : Array Value} {below : List Frame} {meth : Method} {c : Code} {H : Heap} {locs : List Loc} {cells slots : Nat} {Q : State → Prop}
theorem gz_after {D : va_G} {cA : Nat → ClassId} {base b pc mc ms : Nat} {ls : Array Slot} {st0 rest : List Value} {r : Option Value} {h' : gz_H} {a : Array Value} (hr : va_Run p l e R s m args below meth c H locs cells slots mc ms (F0 m pc ls st0) rest (gz_Qc D cA base b r h' a) (fun q => base ≤ q)) (hbs : base ≤ s.heap.size) (hS : va_S (fun q : Nat => base ≤ q) s.heap H locs)
    (kk : ∀ (H1 : Heap) (locs1 : List Loc), gz_R D cA base b h' H1 → va_S (fun q : Nat => base ≤ q) s.heap H1 locs1 → W p l e R s m args below meth c H1 locs1 (cells + mc) (slots + ms) Q (F0 m (pc + 3) ls ((r.map (gz_c base b)).toList ++ rest))) : W p l e R s m args below meth c H locs cells slots Q (F0 m pc ls st0) := by
  intro T hT X
  obtain ⟨v, st₀, t, T', L, h0, X', hL, e1, e2, ⟨hv, hR', hz, hk⟩, st⟩ := hr T hT X
  cases hv
  rw [h0] at hz hk
  obtain ⟨t2, a1, b1⟩ := kk T'.heap (locs ++ L) (by rw [e1]; exact hR')
    ⟨Nat.le_trans hS.1 (by rw [e1]; exact hz), fun q h1 h2 => by rw [e1, hk q (by omega)]; exact hS.2.1 q h1 h2, fun q hq => by
      rcases List.mem_append.mp hq with h | h
      · exact hS.2.2 q h
      · exact hL q h⟩ T' rfl X'
  exact ⟨t2, st t2 a1, b1⟩
end GZA
theorem gz_tl (base b : Nat) (r : Option Value) (st : List Value) : (r.toList ++ st).map (gz_c base b) = (r.map (gz_c base b)).toList ++ st.map (gz_c base b) := by cases r <;> rfl
theorem gw_callV {X : gz_Cx} {M : gz_Mi} {cells slots pc : Nat} {env st : List Value} {h : gz_H} (hok : gz_ok X M) {y : MethodName} {cc' : ByteArray} {maxL : Nat} {ret : Option FieldType} {rm : Room} {sem : gz_Me} (hM : gz_Mt y cc' maxL ret rm sem) {x idx n ci N : Nat} {C : String} {T : u_T} {As : List Value} {r : Option Value} {h' : gz_H} (hs : sem (.ref x :: As) h = some (r, h')) (hc : vwCl[ci]? = some (C, T, N)) (hcode : Cond.code y cc' maxL ret ∈ gz_tb) (hini : Cond.initialized y.cls ∈ gz_tb) (hdesc : y.cls ≠ "java/lang/invoke/MethodHandle" ∧ y.cls ≠ "java/lang/invoke/VarHandle" ∧ (parseMethodDescriptor y.desc).map (fun d => d.parameters.length) = some n) (hn : As.length = n) (hrf : rm.frames + 1 ≤ M.2.2.2.1) (hrl : 8 + (maxL + 11) + rm.locals ≤ M.2.2.2.2.1) (hl : Cond.methodLink M.2.2.1 idx y ∈ gz_tb) (hin : Cond.instanceMethod y ∈ gz_tb) (hse : Cond.selects C y y ∈ gz_tb) (hd : decode M.1 pc = .ok (.invokevirtual idx, 3)) (hx0 : x < h.1) (hkd : gz_k h x = (ci, N)) (hsm : gz_sm st ≤ 8) (hce : cells + rm.cells ≤ gz_rc X) (hsl : slots + rm.slots ≤ gz_rs X) (hk : gz_W X M.2.1 (cells + rm.cells) (slots + rm.slots) (pc + 3) env (r.toList ++ st) h') : gz_W X M.2.1 cells slots pc env (As.reverse ++ .ref x :: st) h := by
  obtain ⟨p, l, e, R, s, m, args, below, meth, c, Q, D, cA, base, b⟩ := X
  obtain ⟨cc, nL, own, fr, lo, mn⟩ := M
  obtain ⟨hx, hb, hml, hown, hts, hK, hbs, hlk, hfr, hlo, hmn⟩ := hok
  intro H locs ls hR hS hL
  have hMM := hM l D cA base b _ h r h' hs
  have ho := (hR.2 x hx0).1 (by rw [hkd]; exact gz_ci hc)
  rw [hkd] at ho
  obtain ⟨cell, q1, q2, q3, -⟩ := ho
  have hcl := (hK.1.1 ci _ hc).2.1
  refine gz_after (va_runV (As := As.map (gz_c base b)) (rest := st.map (gz_c base b)) (b := base + x) (C := C) ⟨hx, hb, hml, hown, hts⟩ hMM ⟨callB_of n hts (gz_goodIn hcode) rfl rfl rfl (hts _ hini) (hts _ hl) hdesc ⟨Nat.le_trans hrf hfr, Nat.le_trans hrl hlo⟩, hts _ hin, hts _ hse⟩ ⟨gz_blind, ⟨cell, q1, by rw [q3]; rfl, by rw [q2]; exact hcl⟩, fun U hU hW => ⟨rfl, by rw [hU]; exact hR, hK.warm hW⟩⟩ rfl (by rw [List.length_map]; exact hn) hL.1 (by simp [gz_c]) (lv_room (by rw [gz_c_sum]; exact hsm)) hd ⟨hce, hsl⟩) hbs hS (fun H1 locs1 hR1 hS1 => ?_)
  have k1 := hk H1 locs1 ls hR1 hS1 hL
  rw [gz_tl] at k1
  exact k1
theorem gw_callS {X : gz_Cx} {M : gz_Mi} {cells slots pc : Nat} {env st : List Value} {h : gz_H} (hok : gz_ok X M) {y : MethodName} {cc' : ByteArray} {maxL : Nat} {ret : Option FieldType} {rm : Room} {sem : gz_Me} (hM : gz_Mt y cc' maxL ret rm sem) {idx n : Nat} {As : List Value} {r : Option Value} {h' : gz_H} (hs : sem As h = some (r, h')) (hcode : Cond.code y cc' maxL ret ∈ gz_tb) (hini : Cond.initialized y.cls ∈ gz_tb) (hdesc : y.cls ≠ "java/lang/invoke/MethodHandle" ∧ y.cls ≠ "java/lang/invoke/VarHandle" ∧ (parseMethodDescriptor y.desc).map (fun d => d.parameters.length) = some n) (hn : As.length = n) (hrf : rm.frames + 1 ≤ M.2.2.2.1) (hrl : 8 + (maxL + 11) + rm.locals ≤ M.2.2.2.2.1) (hl : Cond.methodLink M.2.2.1 idx y ∈ gz_tb) (hstt : Cond.static y ∈ gz_tb) (hd : decode M.1 pc = .ok (.invokestatic idx, 3)) (hsm : gz_sm st ≤ 8) (hce : cells + rm.cells ≤ gz_rc X) (hsl : slots + rm.slots ≤ gz_rs X) (hk : gz_W X M.2.1 (cells + rm.cells) (slots + rm.slots) (pc + 3) env (r.toList ++ st) h') : gz_W X M.2.1 cells slots pc env (As.reverse ++ st) h := by
  obtain ⟨p, l, e, R, s, m, args, below, meth, c, Q, D, cA, base, b⟩ := X
  obtain ⟨cc, nL, own, fr, lo, mn⟩ := M
  obtain ⟨hx, hb, hml, hown, hts, hK, hbs, hlk, hfr, hlo, hmn⟩ := hok
  intro H locs ls hR hS hL
  have hMM := hM l D cA base b _ h r h' hs
  refine gz_after (va_runS (As := As.map (gz_c base b)) (rest := st.map (gz_c base b)) ⟨hx, hb, hml, hown, hts⟩ hMM ⟨callB_of n hts (gz_goodIn hcode) rfl rfl rfl (hts _ hini) (hts _ hl) hdesc ⟨Nat.le_trans hrf hfr, Nat.le_trans hrl hlo⟩, hts _ hstt⟩ ⟨gz_blind, fun U hU hW => ⟨rfl, by rw [hU]; exact hR, hK.warm hW⟩⟩ rfl (by rw [List.length_map]; exact hn) hL.1 (by simp) (lv_room (by rw [gz_c_sum]; exact hsm)) hd ⟨hce, hsl⟩) hbs hS (fun H1 locs1 hR1 hS1 => ?_)
  have k1 := hk H1 locs1 ls hR1 hS1 hL
  rw [gz_tl] at k1
  exact k1
theorem gw_callI {X : gz_Cx} {M : gz_Mi} {cells slots pc : Nat} {env st : List Value} {h : gz_H} (hok : gz_ok X M) {y : MethodName} {cc' : ByteArray} {maxL : Nat} {rm : Room} {sem : gz_Me} (hM : gz_Mt y cc' maxL none rm sem) {x idx n : Nat} {As : List Value} {r : Option Value} {h' : gz_H} (hs : sem (.ref x :: As) h = some (r, h')) (hcode : Cond.code y cc' maxL none ∈ gz_tb) (hini : Cond.initialized y.cls ∈ gz_tb) (hdesc : y.cls ≠ "java/lang/invoke/MethodHandle" ∧ y.cls ≠ "java/lang/invoke/VarHandle" ∧ (parseMethodDescriptor y.desc).map (fun d => d.parameters.length) = some n) (hn : As.length = n) (hrf : rm.frames + 1 ≤ M.2.2.2.1) (hrl : 8 + (maxL + 11) + rm.locals ≤ M.2.2.2.2.1) (hl : Cond.methodLink M.2.2.1 idx y ∈ gz_tb) (hin : Cond.instanceMethod y ∈ gz_tb) (hy1 : y.name = "<init>") (hd : decode M.1 pc = .ok (.invokespecial idx, 3)) (hsm : gz_sm st ≤ 8) (hce : cells + rm.cells ≤ gz_rc X) (hsl : slots + rm.slots ≤ gz_rs X) (hk : gz_W X M.2.1 (cells + rm.cells) (slots + rm.slots) (pc + 3) env (r.toList ++ st) h') : gz_W X M.2.1 cells slots pc env (As.reverse ++ .ref x :: st) h := by
  obtain ⟨p, l, e, R, s, m, args, below, meth, c, Q, D, cA, base, b⟩ := X
  obtain ⟨cc, nL, own, fr, lo, mn⟩ := M
  obtain ⟨hx, hb, hml, hown, hts, hK, hbs, hlk, hfr, hlo, hmn⟩ := hok
  intro H locs ls hR hS hL
  have hMM := hM l D cA base b _ h r h' hs
  refine gz_after (va_runI (As := As.map (gz_c base b)) (rest := st.map (gz_c base b)) (b := base + x) ⟨hx, hb, hml, hown, hts⟩ hMM ⟨callB_of n hts (gz_goodIn hcode) rfl rfl rfl (hts _ hini) (hts _ hl) hdesc ⟨Nat.le_trans hrf hfr, Nat.le_trans hrl hlo⟩, hy1, hts _ hin⟩ ⟨gz_blind, fun U hU hW => ⟨rfl, by rw [hU]; exact hR, hK.warm hW⟩⟩ rfl (by rw [List.length_map]; exact hn) hL.1 (by simp [gz_c]) (lv_room (by rw [gz_c_sum]; exact hsm)) hd ⟨hce, hsl⟩) hbs hS (fun H1 locs1 hR1 hS1 => ?_)
  have k1 := hk H1 locs1 ls hR1 hS1 hL
  rw [gz_tl] at k1
  exact k1
theorem gw_callN {X : gz_Cx} {M : gz_Mi} {cells slots pc : Nat} {env st : List Value} {h : gz_H} (hok : gz_ok X M) {y : MethodName} {cc' : ByteArray} {maxL : Nat} {rm : Room} {sem : gz_Me} (hM : gz_Mt y cc' maxL none rm sem) {x idx n : Nat} {host : String} {As : List Value} {r : Option Value} {h' : gz_H} (hs : sem (.ref x :: As) h = some (r, h')) (hcode : Cond.code y cc' maxL none ∈ gz_tb) (hini : Cond.initialized y.cls ∈ gz_tb) (hdesc : y.cls ≠ "java/lang/invoke/MethodHandle" ∧ y.cls ≠ "java/lang/invoke/VarHandle" ∧ (parseMethodDescriptor y.desc).map (fun d => d.parameters.length) = some n) (hn : As.length = n) (hrf : rm.frames + 1 ≤ M.2.2.2.1) (hrl : 8 + (maxL + 11) + rm.locals ≤ M.2.2.2.2.1) (hl : ∀ U : State, gz_nest U → va_Nw (.methodLinkNest M.2.2.1 idx y host) U) (hin : Cond.instanceMethod y ∈ gz_tb) (hy1 : y.name = "<init>") (hd : decode M.1 pc = .ok (.invokespecial idx, 3)) (hsm : gz_sm st ≤ 8) (hce : cells + rm.cells ≤ gz_rc X) (hsl : slots + rm.slots ≤ gz_rs X) (hk : gz_W X M.2.1 (cells + rm.cells) (slots + rm.slots) (pc + 3) env (r.toList ++ st) h') : gz_W X M.2.1 cells slots pc env (As.reverse ++ .ref x :: st) h := by
  obtain ⟨p, l, e, R, s, m, args, below, meth, c, Q, D, cA, base, b⟩ := X
  obtain ⟨cc, nL, own, fr, lo, mn⟩ := M
  obtain ⟨hx, hb, hml, hown, hts, hK, hbs, hlk, hfr, hlo, hmn⟩ := hok
  intro H locs ls hR hS hL
  have hMM := hM l D cA base b _ h r h' hs
  refine gz_after (va_runIN (As := As.map (gz_c base b)) (rest := st.map (gz_c base b)) (b := base + x) ⟨hx, hb, hml, hown, hts⟩ hMM ⟨va_cnB n hts (gz_goodIn hcode) rfl rfl rfl (hl s hK.2) (hts _ hini) hdesc ⟨Nat.le_trans hrf hfr, Nat.le_trans hrl hlo⟩, hy1, hts _ hin⟩ ⟨gz_blind, fun U hU hW => ⟨rfl, by rw [hU]; exact hR, hK.warm hW⟩⟩ rfl (by rw [List.length_map]; exact hn) hL.1 (by simp [gz_c]) (lv_room (by rw [gz_c_sum]; exact hsm)) hd ⟨hce, hsl⟩) hbs hS (fun H1 locs1 hR1 hS1 => ?_)
  have k1 := hk H1 locs1 ls hR1 hS1 hL
  rw [gz_tl] at k1
  exact k1
theorem gw_obj {X : gz_Cx} {M : gz_Mi} {cells slots pc : Nat} {env st : List Value} {h : gz_H} (hok : gz_ok X M) {x idx : Nat} (hl : Cond.methodLink M.2.2.1 idx Lib.objectInit ∈ gz_tb) (hin : Cond.instanceMethod Lib.objectInit ∈ gz_tb) (hcode : Cond.code Lib.objectInit ⟨#[0xb1]⟩ 1 none ∈ gz_tb) (hrf : 1 ≤ M.2.2.2.1) (hrl : 12 ≤ M.2.2.2.2.1) (hd : decode M.1 pc = .ok (.invokespecial idx, 3)) (hk : gz_W X M.2.1 cells slots (pc + 3) env [] h) : gz_W X M.2.1 cells slots pc env [.ref x] h := by
  obtain ⟨p, l, e, R, s, m, args, below, meth, c, Q, D, cA, base, b⟩ := X
  obtain ⟨cc, nL, own, fr, lo, mn⟩ := M
  obtain ⟨hx, hb, hml, hown, hts, hK, hbs, hlk, hfr, hlo, hmn⟩ := hok
  intro H locs ls hR hS hL
  exact W.objInit hx hb hown (hts _ hl) (hts _ hin) (hts _ hcode) rfl (hL.1.trans hml.symm) rfl hd (Nat.le_trans hrf hfr) (by have h8 := lv_room (m := m) (pc := pc) (ls := ls) (rest := [.ref (base + x)]) (st := []) (by decide); have h9 : 2 * (F0 m pc ls [.ref (base + x)]).monitorRoom = 0 := rfl; simp only [List.map_nil, List.sum_nil]; have : lo ≤ R.locals := hlo; have : 12 ≤ lo := hrl; omega) (hk H locs ls hR hS hL)
def gz_rok (ret : Option FieldType) (r : Option Value) : Bool := match ret, r with
  | none, none => true
  | some ty, some v => gz_fit ty v
  | _, _ => false
/-- a method out of its body -/
def gz_sem (ret : Option FieldType) (maxL : Nat) (t : gz_Sx) : gz_Me := fun av h => if (gz_ae av).length ≤ maxL then (match t (gz_ae av) h with
  | some (.inr (r, h')) => if gz_rok ret r = true then some (r, h') else none
  | _ => none) else none
theorem gz_ae_len (base b : Nat) (av : List Value) : (lg_sl (av.map (gz_c base b))).length = (gz_ae av).length := by
  induction av with
  | nil => rfl
  | cons v t ih =>
    simp only [List.map_cons, lg_sl, List.flatMap_cons, List.length_append, gz_ae]
    have ih' : (List.flatMap (fun v : Value => if v.category = 2 then [Slot.val v, Slot.second] else [Slot.val v]) (List.map (gz_c base b) t)).length = (gz_ae t).length := ih
    rw [ih', gz_c_cat]
    by_cases hc : v.category = 2
    · simp [hc]; omega
    · simp [hc]; omega
theorem gz_met {y : MethodName} {cc : ByteArray} {maxL : Nat} {ret : Option FieldType} {rm : Room} {t : gz_Sx} {dc ds : Nat} (hy : plainName y.cls = true) (hb : gz_OkS (cc, maxL, y.cls, rm.frames, rm.locals, y.name) dc ds 0 t) (hdc : dc ≤ rm.cells) (hds : ds ≤ rm.slots) : gz_Mt y cc maxL ret rm (gz_sem ret maxL t) := by
  intro l D cA base b av h r h' hs
  unfold gz_sem at hs
  by_cases hae : (gz_ae av).length ≤ maxL
  case neg => rw [if_neg hae] at hs; cases hs
  rw [if_pos hae] at hs
  have ht : t (gz_ae av) h = some (.inr (r, h')) ∧ gz_rok ret r = true := by
    cases hq : t (gz_ae av) h with
    | none => rw [hq] at hs; cases hs
    | some o =>
      rw [hq] at hs
      cases o with
      | inl q => cases hs
      | inr q =>
        obtain ⟨r2, h2⟩ := q
        by_cases hro : gz_rok ret r2 = true
        · simp only [hro, if_true, Option.some.injEq, Prod.mk.injEq] at hs
          obtain ⟨rfl, rfl⟩ := hs
          exact ⟨rfl, hro⟩
        · simp only [hro] at hs
          cases hs
  obtain ⟨ht, hro⟩ := ht
  refine Met.ofW (cc := cc) (maxL := maxL) (ret := ret) hy rfl ?_
  intro p e s m args below meth c s₁ B hml hv
  obtain ⟨rfl, hR, hK⟩ := hv
  have hts := atoms_spec (ws := Cond.code y cc maxL ret :: gz_tb) B.pre
  have hlk := B.notSynchronized
  rw [lg_entry_eq]
  have hl := lv_entry (av.map (gz_c base b)) (n := maxL) (by rw [gz_ae_len]; exact hae)
  generalize (lg_sl (av.map (gz_c base b)) ++ List.replicate (maxL - (lg_sl (av.map (gz_c base b))).length) Slot.unset).toArray = ls at hl ⊢
  have key := hb (p, l, e, rm, s, m, (av.map (gz_c base b)).toArray, below, meth, c, MQ below (gz_Qc D cA base b r h') (av.map (gz_c base b)).toArray s rm.cells rm.slots (fun q => base ≤ q), D, cA, base, b) ⟨B.exec, B.bytes, hml, findClass_of_methodNamed B.named, fun w hw => hts w (List.mem_cons_of_mem _ hw), hK, by rw [hR.1]; omega, hlk, Nat.le_refl _, Nat.le_refl _, (name_of_methodNamed B.named B.method).1⟩ (gz_ae av) h _ 0 0 (by rw [Nat.zero_add]; exact hdc) (by rw [Nat.zero_add]; exact hds) ht ?_
  · exact key s.heap [] ls hR va_S.rf (gz_L.args hl)
  · show gz_Rt _ _ (0 + dc) (0 + ds) r h'
    rw [Nat.zero_add, Nat.zero_add]
    refine gz_Rt.widen hdc hds ?_
    intro pc env
    have fin : ∀ (H : Heap) (locs : List Loc), gz_R D cA base b h' H → va_S (fun q : Nat => base ≤ q) s.heap H locs → ∀ t : State, t.heap = H → s.WarmedH t.vm → gz_Qc D cA base b r h' (av.map (gz_c base b)).toArray s (.returned (r.map (gz_c base b))) t := fun H locs hR' hS' t ht _ => ⟨rfl, by rw [ht]; exact hR', by rw [ht]; exact hS'.1, fun q hq => by rw [ht]; exact hS'.2.1 q (Nat.lt_of_lt_of_le hq (by rw [hR.1]; omega)) (by omega)⟩
    have hr := B.returns
    match ret, r, hro, hr, fin with
    | none, none, _, hr, fin => exact fun hd H locs ls' hR' hS' hL' => W.vret B.exec B.bytes hr (fin H locs hR' hS') hS'.2.2 hd
    | some .int, some (.int v), _, hr, fin => exact fun hd H locs ls' hR' hS' hL' => W.iret B.exec B.bytes hr (fin H locs hR' hS') hS'.2.2 hd
    | some .long, some (.long v), _, hr, fin => exact fun hd H locs ls' hR' hS' hL' => W.lret B.exec B.bytes hr (fin H locs hR' hS') hS'.2.2 hd
    | some .boolean, some (.int v), ho, hr, fin => exact fun hd H locs ls' hR' hS' hL' => W.zret B.exec B.bytes hr (gz_fit_ok base b (ty := .boolean) (v := .int v) ho).1 (fin H locs hR' hS') hS'.2.2 hd
    | some (.object n), some (.ref v), _, hr, fin => exact fun hd H locs ls' hR' hS' hL' => W.aret B.exec B.bytes hr (Or.inl ⟨_, rfl⟩) (Or.inr ⟨_, rfl⟩) (fin H locs hR' hS') hS'.2.2 hd
    | some (.object n), some .null, _, hr, fin => exact fun hd H locs ls' hR' hS' hL' => W.aret B.exec B.bytes hr (Or.inl ⟨_, rfl⟩) (Or.inl rfl) (fin H locs hR' hS') hS'.2.2 hd
    | some (.array n), some (.ref v), _, hr, fin => exact fun hd H locs ls' hR' hS' hL' => W.aret B.exec B.bytes hr (Or.inr ⟨_, rfl⟩) (Or.inr ⟨_, rfl⟩) (fin H locs hR' hS') hS'.2.2 hd
    | some (.array n), some .null, _, hr, fin => exact fun hd H locs ls' hR' hS' hL' => W.aret B.exec B.bytes hr (Or.inr ⟨_, rfl⟩) (Or.inl rfl) (fin H locs hR' hS') hS'.2.2 hd
end
section
def gz_i (v : Int32) : gz_Ex := fun _ _ h => some (.int v, h)
def gz_l (v : Int64) : gz_Ex := fun _ _ h => some (.long v, h)
def gz_nu : gz_Ex := fun _ _ h => some (.null, h)
def gz_li (k : Nat) : gz_Ex := fun env _ h => match env[k]? with
  | some (.int x) => some (.int x, h)
  | _ => none
def gz_ll (k : Nat) : gz_Ex := fun env _ h => match env[k]? with
  | some (.long x) => some (.long x, h)
  | _ => none
def gz_la (k : Nat) : gz_Ex := fun env _ h => match env[k]? with
  | some (.ref x) => some (.ref x, h)
  | some .null => some (.null, h)
  | some (.float x) => some (.float x, h)
  | _ => none
def gz_ib (f : Int32 → Int32 → Int32) (a b : gz_Ex) : gz_Ex := fun env st h => match a env st h with
  | some (.int x, h1) => (match b env (.int x :: st) h1 with
    | some (.int y, h2) => some (.int (f x y), h2)
    | _ => none)
  | _ => none
def gz_iz (f : Int32 → Int32 → Int32) (a b : gz_Ex) : gz_Ex := fun env st h => match a env st h with
  | some (.int x, h1) => (match b env (.int x :: st) h1 with
    | some (.int y, h2) => if y = 0 then none else some (.int (f x y), h2)
    | _ => none)
  | _ => none
def gz_lb (f : Int64 → Int64 → Int64) (a b : gz_Ex) : gz_Ex := fun env st h => match a env st h with
  | some (.long x, h1) => (match b env (.long x :: st) h1 with
    | some (.long y, h2) => some (.long (f x y), h2)
    | _ => none)
  | _ => none
def gz_lz (f : Int64 → Int64 → Int64) (a b : gz_Ex) : gz_Ex := fun env st h => match a env st h with
  | some (.long x, h1) => (match b env (.long x :: st) h1 with
    | some (.long y, h2) => if y = 0 then none else some (.long (f x y), h2)
    | _ => none)
  | _ => none
def gz_ls (f : Int64 → Int32 → Int64) (a b : gz_Ex) : gz_Ex := fun env st h => match a env st h with
  | some (.long x, h1) => (match b env (.long x :: st) h1 with
    | some (.int y, h2) => some (.long (f x y), h2)
    | _ => none)
  | _ => none
def gz_lc (a b : gz_Ex) : gz_Ex := fun env st h => match a env st h with
  | some (.long x, h1) => (match b env (.long x :: st) h1 with
    | some (.long y, h2) => some (.int (lg_cmp x y), h2)
    | _ => none)
  | _ => none
def gz_i2l (a : gz_Ex) : gz_Ex := fun env st h => match a env st h with
  | some (.int x, h1) => some (.long x.toInt64, h1)
  | _ => none
def gz_l2i (a : gz_Ex) : gz_Ex := fun env st h => match a env st h with
  | some (.long x, h1) => some (.int x.toInt32, h1)
  | _ => none
def gz_get (ci N k : Nat) (a : gz_Ex) : gz_Ex := fun env st h => match a env st h with
  | some (.ref x, h1) => if x < h1.1 ∧ gz_k h1 x = (ci, N) then some (gz_v h1 x k, h1) else none
  | _ => none
def gz_ald (ct : Nat) (a b : gz_Ex) : gz_Ex := fun env st h => match a env st h with
  | some (.ref x, h1) => (match b env (.ref x :: st) h1 with
    | some (.int j, h2) => if gz_ix h2 ct x j then some (gz_v h2 x j.toNatClampNeg, h2) else none
    | _ => none)
  | _ => none
def gz_len (a : gz_Ex) : gz_Ex := fun env st h => match a env st h with
  | some (.ref x, h1) => if x < h1.1 ∧ (gz_k h1 x).1 = 100 then some (.int (Int32.ofNat (gz_k h1 x).2), h1) else none
  | _ => none
def gz_dup : gz_Ex := fun _ st h => match st with
  | v :: _ => if v.category = 1 then some (v, h) else none
  | [] => none
def gz_d2 (ct : Nat) : gz_Ex := fun _ st h => match st with
  | .int j :: .ref x :: _ => if gz_ix h ct x j then some (gz_v h x j.toNatClampNeg, h) else none
  | _ => none
def gz_nar (ct : Nat) (d : Value) (a : gz_Ex) (n : Nat) : gz_Ex := fun env st h => match a env st h with
  | some (.int x, h1) => if x = Int32.ofNat n then some (.ref h1.1, gz_new h1 (ct, n) (fun _ => d)) else none
  | _ => none
def gz_a0 : gz_Ax := fun _ _ h => some ([], h)
def gz_a1 (as : gz_Ax) (e : gz_Ex) : gz_Ax := fun env st h => match as env st h with
  | some (vs, h1) => (match e env (vs.reverse ++ st) h1 with
    | some (v, h2) => some (vs ++ [v], h2)
    | none => none)
  | none => none
def gz_cs (sem : gz_Me) (as : gz_Ax) : gz_Ex := fun env st h => match as env st h with
  | some (vs, h1) => (match sem vs h1 with
    | some (some v, h2) => some (v, h2)
    | _ => none)
  | none => none
def gz_cv (ci N : Nat) (sem : gz_Me) (as : gz_Ax) : gz_Ex := fun env st h => match as env st h with
  | some (.ref x :: vs, h1) => if x < h1.1 ∧ gz_k h1 x = (ci, N) then (match sem (.ref x :: vs) h1 with
    | some (some v, h2) => some (v, h2)
    | _ => none) else none
  | _ => none
def gz_mk (ci N : Nat) (d : Nat → Value) (sem : gz_Me) (as : gz_Ax) : gz_Ex := fun env st h => match as env (.ref h.1 :: .ref h.1 :: st) (gz_new h (ci, N) d) with
  | some (vs, h1) => (match sem (.ref h.1 :: vs) h1 with
    | some (none, h2) => some (.ref h.1, h2)
    | _ => none)
  | none => none
def gz_te (j : gz_Jx) (a b : gz_Ex) : gz_Ex := fun env st h => match j env st h with
  | some (true, h1) => a env st h1
  | some (false, h1) => b env st h1
  | none => none
def gz_j1 (f : Int32 → Bool) (a : gz_Ex) : gz_Jx := fun env st h => match a env st h with
  | some (.int x, h1) => some (f x, h1)
  | _ => none
def gz_j2 (f : Int32 → Int32 → Bool) (a b : gz_Ex) : gz_Jx := fun env st h => match a env st h with
  | some (.int x, h1) => (match b env (.int x :: st) h1 with
    | some (.int y, h2) => some (f x y, h2)
    | _ => none)
  | _ => none
def gz_jn (a : gz_Ex) : gz_Jx := fun env st h => match a env st h with
  | some (.ref _, h1) => some (false, h1)
  | some (.null, h1) => some (true, h1)
  | _ => none
def gz_jk (a : gz_Ex) : gz_Jx := fun env st h => match a env st h with
  | some (.ref _, h1) => some (true, h1)
  | some (.null, h1) => some (false, h1)
  | _ => none
def gz_jo (a b : gz_Jx) : gz_Jx := fun env st h => match a env st h with
  | some (true, h1) => some (true, h1)
  | some (false, h1) => b env st h1
  | none => none
def gz_ja (a b : gz_Jx) : gz_Jx := fun env st h => match a env st h with
  | some (true, h1) => some (false, h1)
  | some (false, h1) => b env st h1
  | none => none
theorem ok_iconst {M : gz_Mi} {d pc : Nat} {n : Int} {v : Int32} (hd : decode M.1 pc = .ok (.iconst n, 1)) (hv : Int32.ofInt n = v) : gz_OkE M d 0 0 pc (pc + 1) (gz_i v) := by
  intro X hok env st h v' h' cells slots hst hc hs ht hk
  simp only [gz_i, Option.some.injEq, Prod.mk.injEq] at ht
  obtain ⟨rfl, rfl⟩ := ht
  exact gw_iconst hok hd hv hk
theorem ok_bipush {M : gz_Mi} {d pc : Nat} {n : Int} {v : Int32} (hd : decode M.1 pc = .ok (.bipush n, 2)) (hv : (Int8.ofInt n).toInt32 = v) : gz_OkE M d 0 0 pc (pc + 2) (gz_i v) := by
  intro X hok env st h v' h' cells slots hst hc hs ht hk
  simp only [gz_i, Option.some.injEq, Prod.mk.injEq] at ht
  obtain ⟨rfl, rfl⟩ := ht
  exact gw_bipush hok hd hv hk
theorem ok_sipush {M : gz_Mi} {d pc : Nat} {n : Int} {v : Int32} (hd : decode M.1 pc = .ok (.sipush n, 3)) (hv : (Int16.ofInt n).toInt32 = v) : gz_OkE M d 0 0 pc (pc + 3) (gz_i v) := by
  intro X hok env st h v' h' cells slots hst hc hs ht hk
  simp only [gz_i, Option.some.injEq, Prod.mk.injEq] at ht
  obtain ⟨rfl, rfl⟩ := ht
  exact gw_sipush hok hd hv hk
theorem ok_ldc {M : gz_Mi} {d pc : Nat} {i : Nat} {v : Int32} (hcn : Cond.constant M.2.2.1 i v ∈ gz_tb) (hd : decode M.1 pc = .ok (.ldc i, 2)) : gz_OkE M d 0 0 pc (pc + 2) (gz_i v) := by
  intro X hok env st h v' h' cells slots hst hc hs ht hk
  simp only [gz_i, Option.some.injEq, Prod.mk.injEq] at ht
  obtain ⟨rfl, rfl⟩ := ht
  exact gw_ldc hok hcn hd hk
theorem ok_lconst {M : gz_Mi} {d pc : Nat} {n : Fin 2} {v : Int64} (hd : decode M.1 pc = .ok (.lconst n, 1)) (hv : Int64.ofNat (n : Nat) = v) : gz_OkE M d 0 0 pc (pc + 1) (gz_l v) := by
  intro X hok env st h v' h' cells slots hst hc hs ht hk
  simp only [gz_l, Option.some.injEq, Prod.mk.injEq] at ht
  obtain ⟨rfl, rfl⟩ := ht
  exact gw_lconst hok hd hv hk
theorem ok_ldc2 {M : gz_Mi} {d pc : Nat} {i : Nat} {v : Int64} (hcn : Cond.constantLong M.2.2.1 i v ∈ gz_tb) (hd : decode M.1 pc = .ok (.ldc2_w i, 3)) : gz_OkE M d 0 0 pc (pc + 3) (gz_l v) := by
  intro X hok env st h v' h' cells slots hst hc hs ht hk
  simp only [gz_l, Option.some.injEq, Prod.mk.injEq] at ht
  obtain ⟨rfl, rfl⟩ := ht
  exact gw_ldc2 hok hcn hd hk
theorem ok_null {M : gz_Mi} {d pc : Nat} (hd : decode M.1 pc = .ok (.aconst_null, 1)) : gz_OkE M d 0 0 pc (pc + 1) (gz_nu) := by
  intro X hok env st h v' h' cells slots hst hc hs ht hk
  simp only [gz_nu, Option.some.injEq, Prod.mk.injEq] at ht
  obtain ⟨rfl, rfl⟩ := ht
  exact gw_null hok hd hk
theorem ok_iload_n {M : gz_Mi} {d pc : Nat} {k : Fin 4} {i : Nat} (hd : decode M.1 pc = .ok (.iload_n k, 1)) (hi : (k : Nat) = i) : gz_OkE M d 0 0 pc (pc + 1) (gz_li i) := by
  intro X hok env st h v' h' cells slots hst hc hs ht hk
  unfold gz_li at ht
  split at ht
  · rename_i x e1
    simp only [Option.some.injEq, Prod.mk.injEq] at ht
    obtain ⟨rfl, rfl⟩ := ht
    exact gw_iload_n hok hd hi e1 hk
  · cases ht
theorem ok_iload {M : gz_Mi} {d pc : Nat} {i : Nat} (hd : decode M.1 pc = .ok (.iload i, 2)) : gz_OkE M d 0 0 pc (pc + 2) (gz_li i) := by
  intro X hok env st h v' h' cells slots hst hc hs ht hk
  unfold gz_li at ht
  split at ht
  · rename_i x e1
    simp only [Option.some.injEq, Prod.mk.injEq] at ht
    obtain ⟨rfl, rfl⟩ := ht
    exact gw_iload hok hd  e1 hk
  · cases ht
theorem ok_lload_n {M : gz_Mi} {d pc : Nat} {k : Fin 4} {i : Nat} (hd : decode M.1 pc = .ok (.lload_n k, 1)) (hi : (k : Nat) = i) : gz_OkE M d 0 0 pc (pc + 1) (gz_ll i) := by
  intro X hok env st h v' h' cells slots hst hc hs ht hk
  unfold gz_ll at ht
  split at ht
  · rename_i x e1
    simp only [Option.some.injEq, Prod.mk.injEq] at ht
    obtain ⟨rfl, rfl⟩ := ht
    exact gw_lload_n hok hd hi e1 hk
  · cases ht
theorem ok_lload {M : gz_Mi} {d pc : Nat} {i : Nat} (hd : decode M.1 pc = .ok (.lload i, 2)) : gz_OkE M d 0 0 pc (pc + 2) (gz_ll i) := by
  intro X hok env st h v' h' cells slots hst hc hs ht hk
  unfold gz_ll at ht
  split at ht
  · rename_i x e1
    simp only [Option.some.injEq, Prod.mk.injEq] at ht
    obtain ⟨rfl, rfl⟩ := ht
    exact gw_lload hok hd  e1 hk
  · cases ht
theorem ok_aload_n {M : gz_Mi} {d pc : Nat} {k : Fin 4} {i : Nat} (hd : decode M.1 pc = .ok (.aload_n k, 1)) (hi : (k : Nat) = i) : gz_OkE M d 0 0 pc (pc + 1) (gz_la i) := by
  intro X hok env st h v' h' cells slots hst hc hs ht hk
  unfold gz_la at ht
  split at ht
  · rename_i x e1
    simp only [Option.some.injEq, Prod.mk.injEq] at ht
    obtain ⟨rfl, rfl⟩ := ht
    exact gw_aload_nr hok hd hi e1 hk
  · rename_i e1
    simp only [Option.some.injEq, Prod.mk.injEq] at ht
    obtain ⟨rfl, rfl⟩ := ht
    exact gw_aload_nz hok hd hi e1 hk
  · rename_i x e1
    simp only [Option.some.injEq, Prod.mk.injEq] at ht
    obtain ⟨rfl, rfl⟩ := ht
    exact gw_aload_nf hok hd hi e1 hk
  · cases ht
theorem ok_aload {M : gz_Mi} {d pc : Nat} {i : Nat} (hd : decode M.1 pc = .ok (.aload i, 2)) : gz_OkE M d 0 0 pc (pc + 2) (gz_la i) := by
  intro X hok env st h v' h' cells slots hst hc hs ht hk
  unfold gz_la at ht
  split at ht
  · rename_i x e1
    simp only [Option.some.injEq, Prod.mk.injEq] at ht
    obtain ⟨rfl, rfl⟩ := ht
    exact gw_aloadr hok hd  e1 hk
  · rename_i e1
    simp only [Option.some.injEq, Prod.mk.injEq] at ht
    obtain ⟨rfl, rfl⟩ := ht
    exact gw_aloadz hok hd  e1 hk
  · rename_i x e1
    simp only [Option.some.injEq, Prod.mk.injEq] at ht
    obtain ⟨rfl, rfl⟩ := ht
    exact gw_aloadf hok hd  e1 hk
  · cases ht
theorem ok_iadd {M : gz_Mi} {d pc p1 p2 c1 s1 c2 s2 : Nat} {a b : gz_Ex} (ha : gz_OkE M d c1 s1 pc p1 a) (hb : gz_OkE M (d + 1) c2 s2 p1 p2 b) (hd : decode M.1 p2 = .ok (.iadd, 1)) : gz_OkE M d (c1 + c2) (s1 + s2) pc (p2 + 1) (gz_ib (fun x y => x + y) a b) := by
  intro X hok env st h v' h' cells slots hst hc hs ht hk
  unfold gz_ib at ht
  split at ht
  · rename_i x h1 e1
    split at ht
    · rename_i y h2 e2
      simp only [Option.some.injEq, Prod.mk.injEq] at ht
      obtain ⟨rfl, rfl⟩ := ht
      refine ha X hok env st h _ _ cells slots hst (by omega) (by omega) e1 ?_
      refine hb X hok env _ _ _ _ _ _ (by rw [gz_sm_cons]; simp only [Value.category]; omega) (by omega) (by omega) e2 ?_
      refine gw_iadd hok hd ?_
      rw [Nat.add_assoc, Nat.add_assoc]
      exact hk
    · cases ht
  · cases ht
theorem ok_isub {M : gz_Mi} {d pc p1 p2 c1 s1 c2 s2 : Nat} {a b : gz_Ex} (ha : gz_OkE M d c1 s1 pc p1 a) (hb : gz_OkE M (d + 1) c2 s2 p1 p2 b) (hd : decode M.1 p2 = .ok (.isub, 1)) : gz_OkE M d (c1 + c2) (s1 + s2) pc (p2 + 1) (gz_ib (fun x y => x - y) a b) := by
  intro X hok env st h v' h' cells slots hst hc hs ht hk
  unfold gz_ib at ht
  split at ht
  · rename_i x h1 e1
    split at ht
    · rename_i y h2 e2
      simp only [Option.some.injEq, Prod.mk.injEq] at ht
      obtain ⟨rfl, rfl⟩ := ht
      refine ha X hok env st h _ _ cells slots hst (by omega) (by omega) e1 ?_
      refine hb X hok env _ _ _ _ _ _ (by rw [gz_sm_cons]; simp only [Value.category]; omega) (by omega) (by omega) e2 ?_
      refine gw_isub hok hd ?_
      rw [Nat.add_assoc, Nat.add_assoc]
      exact hk
    · cases ht
  · cases ht
theorem ok_imul {M : gz_Mi} {d pc p1 p2 c1 s1 c2 s2 : Nat} {a b : gz_Ex} (ha : gz_OkE M d c1 s1 pc p1 a) (hb : gz_OkE M (d + 1) c2 s2 p1 p2 b) (hd : decode M.1 p2 = .ok (.imul, 1)) : gz_OkE M d (c1 + c2) (s1 + s2) pc (p2 + 1) (gz_ib (fun x y => x * y) a b) := by
  intro X hok env st h v' h' cells slots hst hc hs ht hk
  unfold gz_ib at ht
  split at ht
  · rename_i x h1 e1
    split at ht
    · rename_i y h2 e2
      simp only [Option.some.injEq, Prod.mk.injEq] at ht
      obtain ⟨rfl, rfl⟩ := ht
      refine ha X hok env st h _ _ cells slots hst (by omega) (by omega) e1 ?_
      refine hb X hok env _ _ _ _ _ _ (by rw [gz_sm_cons]; simp only [Value.category]; omega) (by omega) (by omega) e2 ?_
      refine gw_imul hok hd ?_
      rw [Nat.add_assoc, Nat.add_assoc]
      exact hk
    · cases ht
  · cases ht
theorem ok_iand {M : gz_Mi} {d pc p1 p2 c1 s1 c2 s2 : Nat} {a b : gz_Ex} (ha : gz_OkE M d c1 s1 pc p1 a) (hb : gz_OkE M (d + 1) c2 s2 p1 p2 b) (hd : decode M.1 p2 = .ok (.iand, 1)) : gz_OkE M d (c1 + c2) (s1 + s2) pc (p2 + 1) (gz_ib (fun x y => x &&& y) a b) := by
  intro X hok env st h v' h' cells slots hst hc hs ht hk
  unfold gz_ib at ht
  split at ht
  · rename_i x h1 e1
    split at ht
    · rename_i y h2 e2
      simp only [Option.some.injEq, Prod.mk.injEq] at ht
      obtain ⟨rfl, rfl⟩ := ht
      refine ha X hok env st h _ _ cells slots hst (by omega) (by omega) e1 ?_
      refine hb X hok env _ _ _ _ _ _ (by rw [gz_sm_cons]; simp only [Value.category]; omega) (by omega) (by omega) e2 ?_
      refine gw_iand hok hd ?_
      rw [Nat.add_assoc, Nat.add_assoc]
      exact hk
    · cases ht
  · cases ht
theorem ok_ior {M : gz_Mi} {d pc p1 p2 c1 s1 c2 s2 : Nat} {a b : gz_Ex} (ha : gz_OkE M d c1 s1 pc p1 a) (hb : gz_OkE M (d + 1) c2 s2 p1 p2 b) (hd : decode M.1 p2 = .ok (.ior, 1)) : gz_OkE M d (c1 + c2) (s1 + s2) pc (p2 + 1) (gz_ib (fun x y => x ||| y) a b) := by
  intro X hok env st h v' h' cells slots hst hc hs ht hk
  unfold gz_ib at ht
  split at ht
  · rename_i x h1 e1
    split at ht
    · rename_i y h2 e2
      simp only [Option.some.injEq, Prod.mk.injEq] at ht
      obtain ⟨rfl, rfl⟩ := ht
      refine ha X hok env st h _ _ cells slots hst (by omega) (by omega) e1 ?_
      refine hb X hok env _ _ _ _ _ _ (by rw [gz_sm_cons]; simp only [Value.category]; omega) (by omega) (by omega) e2 ?_
      refine gw_ior hok hd ?_
      rw [Nat.add_assoc, Nat.add_assoc]
      exact hk
    · cases ht
  · cases ht
theorem ok_ixor {M : gz_Mi} {d pc p1 p2 c1 s1 c2 s2 : Nat} {a b : gz_Ex} (ha : gz_OkE M d c1 s1 pc p1 a) (hb : gz_OkE M (d + 1) c2 s2 p1 p2 b) (hd : decode M.1 p2 = .ok (.ixor, 1)) : gz_OkE M d (c1 + c2) (s1 + s2) pc (p2 + 1) (gz_ib (fun x y => x ^^^ y) a b) := by
  intro X hok env st h v' h' cells slots hst hc hs ht hk
  unfold gz_ib at ht
  split at ht
  · rename_i x h1 e1
    split at ht
    · rename_i y h2 e2
      simp only [Option.some.injEq, Prod.mk.injEq] at ht
      obtain ⟨rfl, rfl⟩ := ht
      refine ha X hok env st h _ _ cells slots hst (by omega) (by omega) e1 ?_
      refine hb X hok env _ _ _ _ _ _ (by rw [gz_sm_cons]; simp only [Value.category]; omega) (by omega) (by omega) e2 ?_
      refine gw_ixor hok hd ?_
      rw [Nat.add_assoc, Nat.add_assoc]
      exact hk
    · cases ht
  · cases ht
theorem ok_ishl {M : gz_Mi} {d pc p1 p2 c1 s1 c2 s2 : Nat} {a b : gz_Ex} (ha : gz_OkE M d c1 s1 pc p1 a) (hb : gz_OkE M (d + 1) c2 s2 p1 p2 b) (hd : decode M.1 p2 = .ok (.ishl, 1)) : gz_OkE M d (c1 + c2) (s1 + s2) pc (p2 + 1) (gz_ib (fun x y => x <<< (y &&& 31)) a b) := by
  intro X hok env st h v' h' cells slots hst hc hs ht hk
  unfold gz_ib at ht
  split at ht
  · rename_i x h1 e1
    split at ht
    · rename_i y h2 e2
      simp only [Option.some.injEq, Prod.mk.injEq] at ht
      obtain ⟨rfl, rfl⟩ := ht
      refine ha X hok env st h _ _ cells slots hst (by omega) (by omega) e1 ?_
      refine hb X hok env _ _ _ _ _ _ (by rw [gz_sm_cons]; simp only [Value.category]; omega) (by omega) (by omega) e2 ?_
      refine gw_ishl hok hd ?_
      rw [Nat.add_assoc, Nat.add_assoc]
      exact hk
    · cases ht
  · cases ht
theorem ok_ishr {M : gz_Mi} {d pc p1 p2 c1 s1 c2 s2 : Nat} {a b : gz_Ex} (ha : gz_OkE M d c1 s1 pc p1 a) (hb : gz_OkE M (d + 1) c2 s2 p1 p2 b) (hd : decode M.1 p2 = .ok (.ishr, 1)) : gz_OkE M d (c1 + c2) (s1 + s2) pc (p2 + 1) (gz_ib (fun x y => x >>> (y &&& 31)) a b) := by
  intro X hok env st h v' h' cells slots hst hc hs ht hk
  unfold gz_ib at ht
  split at ht
  · rename_i x h1 e1
    split at ht
    · rename_i y h2 e2
      simp only [Option.some.injEq, Prod.mk.injEq] at ht
      obtain ⟨rfl, rfl⟩ := ht
      refine ha X hok env st h _ _ cells slots hst (by omega) (by omega) e1 ?_
      refine hb X hok env _ _ _ _ _ _ (by rw [gz_sm_cons]; simp only [Value.category]; omega) (by omega) (by omega) e2 ?_
      refine gw_ishr hok hd ?_
      rw [Nat.add_assoc, Nat.add_assoc]
      exact hk
    · cases ht
  · cases ht
theorem ok_idiv {M : gz_Mi} {d pc p1 p2 c1 s1 c2 s2 : Nat} {a b : gz_Ex} (ha : gz_OkE M d c1 s1 pc p1 a) (hb : gz_OkE M (d + 1) c2 s2 p1 p2 b) (hd : decode M.1 p2 = .ok (.idiv, 1)) : gz_OkE M d (c1 + c2) (s1 + s2) pc (p2 + 1) (gz_iz (fun x y => x / y) a b) := by
  intro X hok env st h v' h' cells slots hst hc hs ht hk
  unfold gz_iz at ht
  split at ht
  · rename_i x h1 e1
    split at ht
    · rename_i y h2 e2
      split at ht
      · cases ht
      rename_i hne
      simp only [Option.some.injEq, Prod.mk.injEq] at ht
      obtain ⟨rfl, rfl⟩ := ht
      refine ha X hok env st h _ _ cells slots hst (by omega) (by omega) e1 ?_
      refine hb X hok env _ _ _ _ _ _ (by rw [gz_sm_cons]; simp only [Value.category]; omega) (by omega) (by omega) e2 ?_
      refine gw_idiv hok hd hne ?_
      rw [Nat.add_assoc, Nat.add_assoc]
      exact hk
    · cases ht
  · cases ht
theorem ok_irem {M : gz_Mi} {d pc p1 p2 c1 s1 c2 s2 : Nat} {a b : gz_Ex} (ha : gz_OkE M d c1 s1 pc p1 a) (hb : gz_OkE M (d + 1) c2 s2 p1 p2 b) (hd : decode M.1 p2 = .ok (.irem, 1)) : gz_OkE M d (c1 + c2) (s1 + s2) pc (p2 + 1) (gz_iz (fun x y => x - x / y * y) a b) := by
  intro X hok env st h v' h' cells slots hst hc hs ht hk
  unfold gz_iz at ht
  split at ht
  · rename_i x h1 e1
    split at ht
    · rename_i y h2 e2
      split at ht
      · cases ht
      rename_i hne
      simp only [Option.some.injEq, Prod.mk.injEq] at ht
      obtain ⟨rfl, rfl⟩ := ht
      refine ha X hok env st h _ _ cells slots hst (by omega) (by omega) e1 ?_
      refine hb X hok env _ _ _ _ _ _ (by rw [gz_sm_cons]; simp only [Value.category]; omega) (by omega) (by omega) e2 ?_
      refine gw_irem hok hd hne ?_
      rw [Nat.add_assoc, Nat.add_assoc]
      exact hk
    · cases ht
  · cases ht
theorem ok_ladd {M : gz_Mi} {d pc p1 p2 c1 s1 c2 s2 : Nat} {a b : gz_Ex} (ha : gz_OkE M d c1 s1 pc p1 a) (hb : gz_OkE M (d + 2) c2 s2 p1 p2 b) (hd : decode M.1 p2 = .ok (.ladd, 1)) : gz_OkE M d (c1 + c2) (s1 + s2) pc (p2 + 1) (gz_lb (fun x y => x + y) a b) := by
  intro X hok env st h v' h' cells slots hst hc hs ht hk
  unfold gz_lb at ht
  split at ht
  · rename_i x h1 e1
    split at ht
    · rename_i y h2 e2
      simp only [Option.some.injEq, Prod.mk.injEq] at ht
      obtain ⟨rfl, rfl⟩ := ht
      refine ha X hok env st h _ _ cells slots hst (by omega) (by omega) e1 ?_
      refine hb X hok env _ _ _ _ _ _ (by rw [gz_sm_cons]; simp only [Value.category]; omega) (by omega) (by omega) e2 ?_
      refine gw_ladd hok hd ?_
      rw [Nat.add_assoc, Nat.add_assoc]
      exact hk
    · cases ht
  · cases ht
theorem ok_lsub {M : gz_Mi} {d pc p1 p2 c1 s1 c2 s2 : Nat} {a b : gz_Ex} (ha : gz_OkE M d c1 s1 pc p1 a) (hb : gz_OkE M (d + 2) c2 s2 p1 p2 b) (hd : decode M.1 p2 = .ok (.lsub, 1)) : gz_OkE M d (c1 + c2) (s1 + s2) pc (p2 + 1) (gz_lb (fun x y => x - y) a b) := by
  intro X hok env st h v' h' cells slots hst hc hs ht hk
  unfold gz_lb at ht
  split at ht
  · rename_i x h1 e1
    split at ht
    · rename_i y h2 e2
      simp only [Option.some.injEq, Prod.mk.injEq] at ht
      obtain ⟨rfl, rfl⟩ := ht
      refine ha X hok env st h _ _ cells slots hst (by omega) (by omega) e1 ?_
      refine hb X hok env _ _ _ _ _ _ (by rw [gz_sm_cons]; simp only [Value.category]; omega) (by omega) (by omega) e2 ?_
      refine gw_lsub hok hd ?_
      rw [Nat.add_assoc, Nat.add_assoc]
      exact hk
    · cases ht
  · cases ht
theorem ok_lmul {M : gz_Mi} {d pc p1 p2 c1 s1 c2 s2 : Nat} {a b : gz_Ex} (ha : gz_OkE M d c1 s1 pc p1 a) (hb : gz_OkE M (d + 2) c2 s2 p1 p2 b) (hd : decode M.1 p2 = .ok (.lmul, 1)) : gz_OkE M d (c1 + c2) (s1 + s2) pc (p2 + 1) (gz_lb (fun x y => x * y) a b) := by
  intro X hok env st h v' h' cells slots hst hc hs ht hk
  unfold gz_lb at ht
  split at ht
  · rename_i x h1 e1
    split at ht
    · rename_i y h2 e2
      simp only [Option.some.injEq, Prod.mk.injEq] at ht
      obtain ⟨rfl, rfl⟩ := ht
      refine ha X hok env st h _ _ cells slots hst (by omega) (by omega) e1 ?_
      refine hb X hok env _ _ _ _ _ _ (by rw [gz_sm_cons]; simp only [Value.category]; omega) (by omega) (by omega) e2 ?_
      refine gw_lmul hok hd ?_
      rw [Nat.add_assoc, Nat.add_assoc]
      exact hk
    · cases ht
  · cases ht
theorem ok_land {M : gz_Mi} {d pc p1 p2 c1 s1 c2 s2 : Nat} {a b : gz_Ex} (ha : gz_OkE M d c1 s1 pc p1 a) (hb : gz_OkE M (d + 2) c2 s2 p1 p2 b) (hd : decode M.1 p2 = .ok (.land, 1)) : gz_OkE M d (c1 + c2) (s1 + s2) pc (p2 + 1) (gz_lb (fun x y => x &&& y) a b) := by
  intro X hok env st h v' h' cells slots hst hc hs ht hk
  unfold gz_lb at ht
  split at ht
  · rename_i x h1 e1
    split at ht
    · rename_i y h2 e2
      simp only [Option.some.injEq, Prod.mk.injEq] at ht
      obtain ⟨rfl, rfl⟩ := ht
      refine ha X hok env st h _ _ cells slots hst (by omega) (by omega) e1 ?_
      refine hb X hok env _ _ _ _ _ _ (by rw [gz_sm_cons]; simp only [Value.category]; omega) (by omega) (by omega) e2 ?_
      refine gw_land hok hd ?_
      rw [Nat.add_assoc, Nat.add_assoc]
      exact hk
    · cases ht
  · cases ht
theorem ok_lor {M : gz_Mi} {d pc p1 p2 c1 s1 c2 s2 : Nat} {a b : gz_Ex} (ha : gz_OkE M d c1 s1 pc p1 a) (hb : gz_OkE M (d + 2) c2 s2 p1 p2 b) (hd : decode M.1 p2 = .ok (.lor, 1)) : gz_OkE M d (c1 + c2) (s1 + s2) pc (p2 + 1) (gz_lb (fun x y => x ||| y) a b) := by
  intro X hok env st h v' h' cells slots hst hc hs ht hk
  unfold gz_lb at ht
  split at ht
  · rename_i x h1 e1
    split at ht
    · rename_i y h2 e2
      simp only [Option.some.injEq, Prod.mk.injEq] at ht
      obtain ⟨rfl, rfl⟩ := ht
      refine ha X hok env st h _ _ cells slots hst (by omega) (by omega) e1 ?_
      refine hb X hok env _ _ _ _ _ _ (by rw [gz_sm_cons]; simp only [Value.category]; omega) (by omega) (by omega) e2 ?_
      refine gw_lor hok hd ?_
      rw [Nat.add_assoc, Nat.add_assoc]
      exact hk
    · cases ht
  · cases ht
theorem ok_ldiv {M : gz_Mi} {d pc p1 p2 c1 s1 c2 s2 : Nat} {a b : gz_Ex} (ha : gz_OkE M d c1 s1 pc p1 a) (hb : gz_OkE M (d + 2) c2 s2 p1 p2 b) (hd : decode M.1 p2 = .ok (.ldiv, 1)) : gz_OkE M d (c1 + c2) (s1 + s2) pc (p2 + 1) (gz_lz (fun x y => x / y) a b) := by
  intro X hok env st h v' h' cells slots hst hc hs ht hk
  unfold gz_lz at ht
  split at ht
  · rename_i x h1 e1
    split at ht
    · rename_i y h2 e2
      split at ht
      · cases ht
      rename_i hne
      simp only [Option.some.injEq, Prod.mk.injEq] at ht
      obtain ⟨rfl, rfl⟩ := ht
      refine ha X hok env st h _ _ cells slots hst (by omega) (by omega) e1 ?_
      refine hb X hok env _ _ _ _ _ _ (by rw [gz_sm_cons]; simp only [Value.category]; omega) (by omega) (by omega) e2 ?_
      refine gw_ldiv hok hd hne ?_
      rw [Nat.add_assoc, Nat.add_assoc]
      exact hk
    · cases ht
  · cases ht
theorem ok_lushr {M : gz_Mi} {d pc p1 p2 c1 s1 c2 s2 : Nat} {a b : gz_Ex} (ha : gz_OkE M d c1 s1 pc p1 a) (hb : gz_OkE M (d + 2) c2 s2 p1 p2 b) (hd : decode M.1 p2 = .ok (.lushr, 1)) : gz_OkE M d (c1 + c2) (s1 + s2) pc (p2 + 1) (gz_ls (fun x y => (x.toUInt64 >>> (y.toInt64.toUInt64 &&& Int64.toUInt64 63)).toInt64) a b) := by
  intro X hok env st h v' h' cells slots hst hc hs ht hk
  unfold gz_ls at ht
  split at ht
  · rename_i x h1 e1
    split at ht
    · rename_i y h2 e2
      simp only [Option.some.injEq, Prod.mk.injEq] at ht
      obtain ⟨rfl, rfl⟩ := ht
      refine ha X hok env st h _ _ cells slots hst (by omega) (by omega) e1 ?_
      refine hb X hok env _ _ _ _ _ _ (by rw [gz_sm_cons]; simp only [Value.category]; omega) (by omega) (by omega) e2 ?_
      refine gw_lushr hok hd ?_
      rw [Nat.add_assoc, Nat.add_assoc]
      exact hk
    · cases ht
  · cases ht
theorem ok_lshl {M : gz_Mi} {d pc p1 p2 c1 s1 c2 s2 : Nat} {a b : gz_Ex} (ha : gz_OkE M d c1 s1 pc p1 a) (hb : gz_OkE M (d + 2) c2 s2 p1 p2 b) (hd : decode M.1 p2 = .ok (.lshl, 1)) : gz_OkE M d (c1 + c2) (s1 + s2) pc (p2 + 1) (gz_ls (fun x y => x <<< (y.toInt64 &&& 63)) a b) := by
  intro X hok env st h v' h' cells slots hst hc hs ht hk
  unfold gz_ls at ht
  split at ht
  · rename_i x h1 e1
    split at ht
    · rename_i y h2 e2
      simp only [Option.some.injEq, Prod.mk.injEq] at ht
      obtain ⟨rfl, rfl⟩ := ht
      refine ha X hok env st h _ _ cells slots hst (by omega) (by omega) e1 ?_
      refine hb X hok env _ _ _ _ _ _ (by rw [gz_sm_cons]; simp only [Value.category]; omega) (by omega) (by omega) e2 ?_
      refine gw_lshl hok hd ?_
      rw [Nat.add_assoc, Nat.add_assoc]
      exact hk
    · cases ht
  · cases ht
theorem ok_lcmp {M : gz_Mi} {d pc p1 p2 c1 s1 c2 s2 : Nat} {a b : gz_Ex} (ha : gz_OkE M d c1 s1 pc p1 a) (hb : gz_OkE M (d + 2) c2 s2 p1 p2 b) (hd : decode M.1 p2 = .ok (.lcmp, 1)) : gz_OkE M d (c1 + c2) (s1 + s2) pc (p2 + 1) (gz_lc  a b) := by
  intro X hok env st h v' h' cells slots hst hc hs ht hk
  unfold gz_lc at ht
  split at ht
  · rename_i x h1 e1
    split at ht
    · rename_i y h2 e2
      simp only [Option.some.injEq, Prod.mk.injEq] at ht
      obtain ⟨rfl, rfl⟩ := ht
      refine ha X hok env st h _ _ cells slots hst (by omega) (by omega) e1 ?_
      refine hb X hok env _ _ _ _ _ _ (by rw [gz_sm_cons]; simp only [Value.category]; omega) (by omega) (by omega) e2 ?_
      refine gw_lcmp hok hd ?_
      rw [Nat.add_assoc, Nat.add_assoc]
      exact hk
    · cases ht
  · cases ht
theorem ok_i2l {M : gz_Mi} {d pc p1 c1 s1 : Nat} {a : gz_Ex} (ha : gz_OkE M d c1 s1 pc p1 a) (hd : decode M.1 p1 = .ok (.i2l, 1)) : gz_OkE M d c1 s1 pc (p1 + 1) (gz_i2l a) := by
  intro X hok env st h v' h' cells slots hst hc hs ht hk
  unfold gz_i2l at ht
  split at ht
  · rename_i x h1 e1
    simp only [Option.some.injEq, Prod.mk.injEq] at ht
    obtain ⟨rfl, rfl⟩ := ht
    exact ha X hok env st h _ _ cells slots hst hc hs e1 (gw_i2l hok hd hk)
  · cases ht
theorem ok_l2i {M : gz_Mi} {d pc p1 c1 s1 : Nat} {a : gz_Ex} (ha : gz_OkE M d c1 s1 pc p1 a) (hd : decode M.1 p1 = .ok (.l2i, 1)) : gz_OkE M d c1 s1 pc (p1 + 1) (gz_l2i a) := by
  intro X hok env st h v' h' cells slots hst hc hs ht hk
  unfold gz_l2i at ht
  split at ht
  · rename_i x h1 e1
    simp only [Option.some.injEq, Prod.mk.injEq] at ht
    obtain ⟨rfl, rfl⟩ := ht
    exact ha X hok env st h _ _ cells slots hst hc hs e1 (gw_l2i hok hd hk)
  · cases ht
theorem ok_get {M : gz_Mi} {d pc p1 c1 s1 : Nat} {a : gz_Ex} (ha : gz_OkE M d c1 s1 pc p1 a) {ci N k idx : Nat} {C : String} {T : u_T} (hcl : vwCl[ci]? = some (C, T, N)) (hk0 : k < N) (hin : ∀ w ∈ u_ws C T N, w ∈ gz_tb) (hl : Cond.fieldLink M.2.2.1 idx (T k).1 (T k).2.1 (T k).2.2.1 ∈ gz_tb) (hd : decode M.1 p1 = .ok (.getfield idx, 3)) : gz_OkE M d c1 s1 pc (p1 + 3) (gz_get ci N k a) := by
  intro X hok env st h v' h' cells slots hst hc hs ht hk
  unfold gz_get at ht
  split at ht
  · rename_i x h1 e1
    split at ht
    · rename_i hq
      simp only [Option.some.injEq, Prod.mk.injEq] at ht
      obtain ⟨rfl, rfl⟩ := ht
      exact ha X hok env st h _ _ cells slots hst hc hs e1 (gw_get hok hcl hk0 hin hl hd hq.1 hq.2 hk)
    · cases ht
  · cases ht
theorem ok_iald {M : gz_Mi} {d pc p1 p2 c1 s1 c2 s2 : Nat} {a b : gz_Ex} (ha : gz_OkE M d c1 s1 pc p1 a) (hb : gz_OkE M (d + 1) c2 s2 p1 p2 b) (hd : decode M.1 p2 = .ok (.iaload, 1)) : gz_OkE M d (c1 + c2) (s1 + s2) pc (p2 + 1) (gz_ald 100 a b) := by
  intro X hok env st h v' h' cells slots hst hc hs ht hk
  unfold gz_ald at ht
  split at ht
  · rename_i x h1 e1
    split at ht
    · rename_i y h2 e2
      split at ht
      · rename_i hi
        simp only [Option.some.injEq, Prod.mk.injEq] at ht
        obtain ⟨rfl, rfl⟩ := ht
        refine ha X hok env st h _ _ cells slots hst (by omega) (by omega) e1 ?_
        refine hb X hok env _ _ _ _ _ _ (by rw [gz_sm_cons]; simp only [Value.category]; omega) (by omega) (by omega) e2 ?_
        refine gw_iald hok hd hi ?_
        rw [Nat.add_assoc, Nat.add_assoc]
        exact hk
      · cases ht
    · cases ht
  · cases ht
theorem ok_d2iald {M : gz_Mi} {d pc : Nat} (hd0 : decode M.1 pc = .ok (.dup2, 1)) (hd : decode M.1 (pc + 1) = .ok (.iaload, 1)) : gz_OkE M d 0 0 pc (pc + 2) (gz_d2 100) := by
  intro X hok env st h v' h' cells slots hst hc hs ht hk
  unfold gz_d2 at ht
  split at ht
  · split at ht
    · rename_i hi
      simp only [Option.some.injEq, Prod.mk.injEq] at ht
      obtain ⟨rfl, rfl⟩ := ht
      exact gw_dup2 hok hd0 rfl rfl (gw_iald hok hd hi hk)
    · cases ht
  · cases ht
theorem ok_zald {M : gz_Mi} {d pc p1 p2 c1 s1 c2 s2 : Nat} {a b : gz_Ex} (ha : gz_OkE M d c1 s1 pc p1 a) (hb : gz_OkE M (d + 1) c2 s2 p1 p2 b) (hd : decode M.1 p2 = .ok (.baload, 1)) : gz_OkE M d (c1 + c2) (s1 + s2) pc (p2 + 1) (gz_ald 101 a b) := by
  intro X hok env st h v' h' cells slots hst hc hs ht hk
  unfold gz_ald at ht
  split at ht
  · rename_i x h1 e1
    split at ht
    · rename_i y h2 e2
      split at ht
      · rename_i hi
        simp only [Option.some.injEq, Prod.mk.injEq] at ht
        obtain ⟨rfl, rfl⟩ := ht
        refine ha X hok env st h _ _ cells slots hst (by omega) (by omega) e1 ?_
        refine hb X hok env _ _ _ _ _ _ (by rw [gz_sm_cons]; simp only [Value.category]; omega) (by omega) (by omega) e2 ?_
        refine gw_zald hok hd hi ?_
        rw [Nat.add_assoc, Nat.add_assoc]
        exact hk
      · cases ht
    · cases ht
  · cases ht
theorem ok_d2zald {M : gz_Mi} {d pc : Nat} (hd0 : decode M.1 pc = .ok (.dup2, 1)) (hd : decode M.1 (pc + 1) = .ok (.baload, 1)) : gz_OkE M d 0 0 pc (pc + 2) (gz_d2 101) := by
  intro X hok env st h v' h' cells slots hst hc hs ht hk
  unfold gz_d2 at ht
  split at ht
  · split at ht
    · rename_i hi
      simp only [Option.some.injEq, Prod.mk.injEq] at ht
      obtain ⟨rfl, rfl⟩ := ht
      exact gw_dup2 hok hd0 rfl rfl (gw_zald hok hd hi hk)
    · cases ht
  · cases ht
theorem ok_lald {M : gz_Mi} {d pc p1 p2 c1 s1 c2 s2 : Nat} {a b : gz_Ex} (ha : gz_OkE M d c1 s1 pc p1 a) (hb : gz_OkE M (d + 1) c2 s2 p1 p2 b) (hd : decode M.1 p2 = .ok (.laload, 1)) : gz_OkE M d (c1 + c2) (s1 + s2) pc (p2 + 1) (gz_ald 102 a b) := by
  intro X hok env st h v' h' cells slots hst hc hs ht hk
  unfold gz_ald at ht
  split at ht
  · rename_i x h1 e1
    split at ht
    · rename_i y h2 e2
      split at ht
      · rename_i hi
        simp only [Option.some.injEq, Prod.mk.injEq] at ht
        obtain ⟨rfl, rfl⟩ := ht
        refine ha X hok env st h _ _ cells slots hst (by omega) (by omega) e1 ?_
        refine hb X hok env _ _ _ _ _ _ (by rw [gz_sm_cons]; simp only [Value.category]; omega) (by omega) (by omega) e2 ?_
        refine gw_lald hok hd hi ?_
        rw [Nat.add_assoc, Nat.add_assoc]
        exact hk
      · cases ht
    · cases ht
  · cases ht
theorem ok_d2lald {M : gz_Mi} {d pc : Nat} (hd0 : decode M.1 pc = .ok (.dup2, 1)) (hd : decode M.1 (pc + 1) = .ok (.laload, 1)) : gz_OkE M d 0 0 pc (pc + 2) (gz_d2 102) := by
  intro X hok env st h v' h' cells slots hst hc hs ht hk
  unfold gz_d2 at ht
  split at ht
  · split at ht
    · rename_i hi
      simp only [Option.some.injEq, Prod.mk.injEq] at ht
      obtain ⟨rfl, rfl⟩ := ht
      exact gw_dup2 hok hd0 rfl rfl (gw_lald hok hd hi hk)
    · cases ht
  · cases ht
theorem ok_aald103 {M : gz_Mi} {d pc p1 p2 c1 s1 c2 s2 : Nat} {a b : gz_Ex} (ha : gz_OkE M d c1 s1 pc p1 a) (hb : gz_OkE M (d + 1) c2 s2 p1 p2 b) (hd : decode M.1 p2 = .ok (.aaload, 1)) : gz_OkE M d (c1 + c2) (s1 + s2) pc (p2 + 1) (gz_ald 103 a b) := by
  intro X hok env st h v' h' cells slots hst hc hs ht hk
  unfold gz_ald at ht
  split at ht
  · rename_i x h1 e1
    split at ht
    · rename_i y h2 e2
      split at ht
      · rename_i hi
        simp only [Option.some.injEq, Prod.mk.injEq] at ht
        obtain ⟨rfl, rfl⟩ := ht
        refine ha X hok env st h _ _ cells slots hst (by omega) (by omega) e1 ?_
        refine hb X hok env _ _ _ _ _ _ (by rw [gz_sm_cons]; simp only [Value.category]; omega) (by omega) (by omega) e2 ?_
        refine gw_aald103 hok hd hi ?_
        rw [Nat.add_assoc, Nat.add_assoc]
        exact hk
      · cases ht
    · cases ht
  · cases ht
theorem ok_d2aald103 {M : gz_Mi} {d pc : Nat} (hd0 : decode M.1 pc = .ok (.dup2, 1)) (hd : decode M.1 (pc + 1) = .ok (.aaload, 1)) : gz_OkE M d 0 0 pc (pc + 2) (gz_d2 103) := by
  intro X hok env st h v' h' cells slots hst hc hs ht hk
  unfold gz_d2 at ht
  split at ht
  · split at ht
    · rename_i hi
      simp only [Option.some.injEq, Prod.mk.injEq] at ht
      obtain ⟨rfl, rfl⟩ := ht
      exact gw_dup2 hok hd0 rfl rfl (gw_aald103 hok hd hi hk)
    · cases ht
  · cases ht
theorem ok_aald104 {M : gz_Mi} {d pc p1 p2 c1 s1 c2 s2 : Nat} {a b : gz_Ex} (ha : gz_OkE M d c1 s1 pc p1 a) (hb : gz_OkE M (d + 1) c2 s2 p1 p2 b) (hd : decode M.1 p2 = .ok (.aaload, 1)) : gz_OkE M d (c1 + c2) (s1 + s2) pc (p2 + 1) (gz_ald 104 a b) := by
  intro X hok env st h v' h' cells slots hst hc hs ht hk
  unfold gz_ald at ht
  split at ht
  · rename_i x h1 e1
    split at ht
    · rename_i y h2 e2
      split at ht
      · rename_i hi
        simp only [Option.some.injEq, Prod.mk.injEq] at ht
        obtain ⟨rfl, rfl⟩ := ht
        refine ha X hok env st h _ _ cells slots hst (by omega) (by omega) e1 ?_
        refine hb X hok env _ _ _ _ _ _ (by rw [gz_sm_cons]; simp only [Value.category]; omega) (by omega) (by omega) e2 ?_
        refine gw_aald104 hok hd hi ?_
        rw [Nat.add_assoc, Nat.add_assoc]
        exact hk
      · cases ht
    · cases ht
  · cases ht
theorem ok_d2aald104 {M : gz_Mi} {d pc : Nat} (hd0 : decode M.1 pc = .ok (.dup2, 1)) (hd : decode M.1 (pc + 1) = .ok (.aaload, 1)) : gz_OkE M d 0 0 pc (pc + 2) (gz_d2 104) := by
  intro X hok env st h v' h' cells slots hst hc hs ht hk
  unfold gz_d2 at ht
  split at ht
  · split at ht
    · rename_i hi
      simp only [Option.some.injEq, Prod.mk.injEq] at ht
      obtain ⟨rfl, rfl⟩ := ht
      exact gw_dup2 hok hd0 rfl rfl (gw_aald104 hok hd hi hk)
    · cases ht
  · cases ht
theorem ok_aald105 {M : gz_Mi} {d pc p1 p2 c1 s1 c2 s2 : Nat} {a b : gz_Ex} (ha : gz_OkE M d c1 s1 pc p1 a) (hb : gz_OkE M (d + 1) c2 s2 p1 p2 b) (hd : decode M.1 p2 = .ok (.aaload, 1)) : gz_OkE M d (c1 + c2) (s1 + s2) pc (p2 + 1) (gz_ald 105 a b) := by
  intro X hok env st h v' h' cells slots hst hc hs ht hk
  unfold gz_ald at ht
  split at ht
  · rename_i x h1 e1
    split at ht
    · rename_i y h2 e2
      split at ht
      · rename_i hi
        simp only [Option.some.injEq, Prod.mk.injEq] at ht
        obtain ⟨rfl, rfl⟩ := ht
        refine ha X hok env st h _ _ cells slots hst (by omega) (by omega) e1 ?_
        refine hb X hok env _ _ _ _ _ _ (by rw [gz_sm_cons]; simp only [Value.category]; omega) (by omega) (by omega) e2 ?_
        refine gw_aald105 hok hd hi ?_
        rw [Nat.add_assoc, Nat.add_assoc]
        exact hk
      · cases ht
    · cases ht
  · cases ht
theorem ok_d2aald105 {M : gz_Mi} {d pc : Nat} (hd0 : decode M.1 pc = .ok (.dup2, 1)) (hd : decode M.1 (pc + 1) = .ok (.aaload, 1)) : gz_OkE M d 0 0 pc (pc + 2) (gz_d2 105) := by
  intro X hok env st h v' h' cells slots hst hc hs ht hk
  unfold gz_d2 at ht
  split at ht
  · split at ht
    · rename_i hi
      simp only [Option.some.injEq, Prod.mk.injEq] at ht
      obtain ⟨rfl, rfl⟩ := ht
      exact gw_dup2 hok hd0 rfl rfl (gw_aald105 hok hd hi hk)
    · cases ht
  · cases ht
theorem ok_alen {M : gz_Mi} {d pc p1 c1 s1 : Nat} {a : gz_Ex} (ha : gz_OkE M d c1 s1 pc p1 a) (hd : decode M.1 p1 = .ok (.arraylength, 1)) : gz_OkE M d c1 s1 pc (p1 + 1) (gz_len a) := by
  intro X hok env st h v' h' cells slots hst hc hs ht hk
  unfold gz_len at ht
  split at ht
  · rename_i x h1 e1
    split at ht
    · rename_i hq
      simp only [Option.some.injEq, Prod.mk.injEq] at ht
      obtain ⟨rfl, rfl⟩ := ht
      exact ha X hok env st h _ _ cells slots hst hc hs e1 (gw_alen hok hd hq.1 hq.2 hk)
    · cases ht
  · cases ht
theorem ok_dup {M : gz_Mi} {d pc : Nat} (hd : decode M.1 pc = .ok (.dup, 1)) : gz_OkE M d 0 0 pc (pc + 1) gz_dup := by
  intro X hok env st h v' h' cells slots hst hc hs ht hk
  unfold gz_dup at ht
  split at ht
  · split at ht
    · rename_i hv
      simp only [Option.some.injEq, Prod.mk.injEq] at ht
      obtain ⟨rfl, rfl⟩ := ht
      exact gw_dup hok hd hv hk
    · cases ht
  · cases ht
theorem gz_on {n : Nat} (h : n ≤ 10000) : ¬ (Int32.ofNat n < 0) ∧ (Int32.ofNat n).toNatClampNeg = n := ⟨nI_pos (n := n) (by omega), nI_clamp (n := n) (by omega)⟩
theorem ok_newI {M : gz_Mi} {d pc p1 c1 s1 n : Nat} {a : gz_Ex} (ha : gz_OkE M d c1 s1 pc p1 a) (har : Cond.arrayClass .int ∈ gz_tb) (hn : n ≤ 10000) (hd : decode M.1 p1 = .ok (.newarray .int, 2)) : gz_OkE M d (c1 + 1) (s1 + n) pc (p1 + 2) (gz_nar 100 (.int 0) a n) := by
  intro X hok env st h v' h' cells slots hst hc hs ht hk
  unfold gz_nar at ht
  split at ht
  · rename_i x h1 e1
    split at ht
    · rename_i hq
      simp only [Option.some.injEq, Prod.mk.injEq] at ht
      obtain ⟨rfl, rfl⟩ := ht
      subst hq
      obtain ⟨g1, g2⟩ := gz_on hn
      refine ha X hok env st h _ _ cells slots hst (by omega) (by omega) e1 ?_
      refine gw_newI hok har hd g1 (by rw [g2]; exact hn) (by omega) (by rw [g2]; omega) ?_
      rw [g2, Nat.add_assoc, Nat.add_assoc]
      exact hk
    · cases ht
  · cases ht
theorem ok_newZ {M : gz_Mi} {d pc p1 c1 s1 n : Nat} {a : gz_Ex} (ha : gz_OkE M d c1 s1 pc p1 a) (har : Cond.arrayClass .boolean ∈ gz_tb) (hn : n ≤ 10000) (hd : decode M.1 p1 = .ok (.newarray .boolean, 2)) : gz_OkE M d (c1 + 1) (s1 + n) pc (p1 + 2) (gz_nar 101 (.int 0) a n) := by
  intro X hok env st h v' h' cells slots hst hc hs ht hk
  unfold gz_nar at ht
  split at ht
  · rename_i x h1 e1
    split at ht
    · rename_i hq
      simp only [Option.some.injEq, Prod.mk.injEq] at ht
      obtain ⟨rfl, rfl⟩ := ht
      subst hq
      obtain ⟨g1, g2⟩ := gz_on hn
      refine ha X hok env st h _ _ cells slots hst (by omega) (by omega) e1 ?_
      refine gw_newZ hok har hd g1 (by rw [g2]; exact hn) (by omega) (by rw [g2]; omega) ?_
      rw [g2, Nat.add_assoc, Nat.add_assoc]
      exact hk
    · cases ht
  · cases ht
theorem ok_newJ {M : gz_Mi} {d pc p1 c1 s1 n : Nat} {a : gz_Ex} (ha : gz_OkE M d c1 s1 pc p1 a) (har : Cond.arrayClass .long ∈ gz_tb) (hn : n ≤ 10000) (hd : decode M.1 p1 = .ok (.newarray .long, 2)) : gz_OkE M d (c1 + 1) (s1 + n) pc (p1 + 2) (gz_nar 102 (.long 0) a n) := by
  intro X hok env st h v' h' cells slots hst hc hs ht hk
  unfold gz_nar at ht
  split at ht
  · rename_i x h1 e1
    split at ht
    · rename_i hq
      simp only [Option.some.injEq, Prod.mk.injEq] at ht
      obtain ⟨rfl, rfl⟩ := ht
      subst hq
      obtain ⟨g1, g2⟩ := gz_on hn
      refine ha X hok env st h _ _ cells slots hst (by omega) (by omega) e1 ?_
      refine gw_newJ hok har hd g1 (by rw [g2]; exact hn) (by omega) (by rw [g2]; omega) ?_
      rw [g2, Nat.add_assoc, Nat.add_assoc]
      exact hk
    · cases ht
  · cases ht
theorem ok_anew103 {M : gz_Mi} {d pc p1 c1 s1 n idx : Nat} {a : gz_Ex} (ha : gz_OkE M d c1 s1 pc p1 a) (hcl : Cond.classLink M.2.2.1 idx RX3 ∈ gz_tb) (hn : n ≤ 10000) (hd : decode M.1 p1 = .ok (.anewarray idx, 3)) : gz_OkE M d (c1 + 1) (s1 + n) pc (p1 + 3) (gz_nar 103 .null a n) := by
  intro X hok env st h v' h' cells slots hst hc hs ht hk
  unfold gz_nar at ht
  split at ht
  · rename_i x h1 e1
    split at ht
    · rename_i hq
      simp only [Option.some.injEq, Prod.mk.injEq] at ht
      obtain ⟨rfl, rfl⟩ := ht
      subst hq
      obtain ⟨g1, g2⟩ := gz_on hn
      refine ha X hok env st h _ _ cells slots hst (by omega) (by omega) e1 ?_
      refine gw_anew103 hok hcl hd g1 (by rw [g2]; exact hn) (by omega) (by rw [g2]; omega) ?_
      rw [g2, Nat.add_assoc, Nat.add_assoc]
      exact hk
    · cases ht
  · cases ht
theorem ok_anew104 {M : gz_Mi} {d pc p1 c1 s1 n idx : Nat} {a : gz_Ex} (ha : gz_OkE M d c1 s1 pc p1 a) (hcl : Cond.classLink M.2.2.1 idx RX1 ∈ gz_tb) (hn : n ≤ 10000) (hd : decode M.1 p1 = .ok (.anewarray idx, 3)) : gz_OkE M d (c1 + 1) (s1 + n) pc (p1 + 3) (gz_nar 104 .null a n) := by
  intro X hok env st h v' h' cells slots hst hc hs ht hk
  unfold gz_nar at ht
  split at ht
  · rename_i x h1 e1
    split at ht
    · rename_i hq
      simp only [Option.some.injEq, Prod.mk.injEq] at ht
      obtain ⟨rfl, rfl⟩ := ht
      subst hq
      obtain ⟨g1, g2⟩ := gz_on hn
      refine ha X hok env st h _ _ cells slots hst (by omega) (by omega) e1 ?_
      refine gw_anew104 hok hcl hd g1 (by rw [g2]; exact hn) (by omega) (by rw [g2]; omega) ?_
      rw [g2, Nat.add_assoc, Nat.add_assoc]
      exact hk
    · cases ht
  · cases ht
theorem ok_anew105 {M : gz_Mi} {d pc p1 c1 s1 n idx : Nat} {a : gz_Ex} (ha : gz_OkE M d c1 s1 pc p1 a) (hcl : Cond.classLink M.2.2.1 idx RX2 ∈ gz_tb) (hn : n ≤ 10000) (hd : decode M.1 p1 = .ok (.anewarray idx, 3)) : gz_OkE M d (c1 + 1) (s1 + n) pc (p1 + 3) (gz_nar 105 .null a n) := by
  intro X hok env st h v' h' cells slots hst hc hs ht hk
  unfold gz_nar at ht
  split at ht
  · rename_i x h1 e1
    split at ht
    · rename_i hq
      simp only [Option.some.injEq, Prod.mk.injEq] at ht
      obtain ⟨rfl, rfl⟩ := ht
      subst hq
      obtain ⟨g1, g2⟩ := gz_on hn
      refine ha X hok env st h _ _ cells slots hst (by omega) (by omega) e1 ?_
      refine gw_anew105 hok hcl hd g1 (by rw [g2]; exact hn) (by omega) (by rw [g2]; omega) ?_
      rw [g2, Nat.add_assoc, Nat.add_assoc]
      exact hk
    · cases ht
  · cases ht
theorem gz_sm_app (a b : List Value) : gz_sm (a ++ b) = gz_sm a + gz_sm b := by
  induction a with
  | nil => simp [gz_sm]
  | cons v t ih => rw [List.cons_append, gz_sm_cons, gz_sm_cons, ih, Nat.add_assoc]
theorem gz_sm_le (a : List Value) : gz_sm a ≤ 2 * a.length := by
  induction a with
  | nil => simp [gz_sm]
  | cons v t ih => rw [gz_sm_cons, List.length_cons]; have := gz_cat_le v; omega
theorem ok_a0 {M : gz_Mi} {d pc : Nat} : gz_OkA M d 0 0 pc pc 0 gz_a0 := by
  intro X hok env st h vs h' cells slots hst hc hs ht
  simp only [gz_a0, Option.some.injEq, Prod.mk.injEq] at ht
  obtain ⟨rfl, rfl⟩ := ht
  exact ⟨rfl, fun hk => hk⟩
theorem ok_a1 {M : gz_Mi} {d pc p1 p2 n c1 s1 c2 s2 : Nat} {as : gz_Ax} {e : gz_Ex} (ha : gz_OkA M d c1 s1 pc p1 n as) (he : gz_OkE M (d + 2 * n) c2 s2 p1 p2 e) : gz_OkA M d (c1 + c2) (s1 + s2) pc p2 (n + 1) (gz_a1 as e) := by
  intro X hok env st h vs h' cells slots hst hc hs ht
  unfold gz_a1 at ht
  split at ht
  · rename_i us h1 e1
    split at ht
    · rename_i v h2 e2
      simp only [Option.some.injEq, Prod.mk.injEq] at ht
      obtain ⟨rfl, rfl⟩ := ht
      obtain ⟨g1, g2⟩ := ha X hok env st h us h1 cells slots hst (by omega) (by omega) e1
      refine ⟨by rw [List.length_append, g1]; rfl, fun hk => g2 ?_⟩
      refine he X hok env _ _ _ _ _ _ (by rw [gz_sm_app]; have := gz_sm_le us.reverse; rw [List.length_reverse, g1] at this; omega) (by omega) (by omega) e2 ?_
      rw [Nat.add_assoc, Nat.add_assoc]
      rw [List.reverse_append] at hk
      exact hk
    · cases ht
  · cases ht
theorem ok_cs {M : gz_Mi} {d pc p1 n c1 s1 idx : Nat} {as : gz_Ax} (ha : gz_OkA M d c1 s1 pc p1 n as) {y : MethodName} {cc' : ByteArray} {maxL : Nat} {ret : Option FieldType} {rm : Room} {sem : gz_Me} (hM : gz_Mt y cc' maxL ret rm sem) (hcode : Cond.code y cc' maxL ret ∈ gz_tb) (hini : Cond.initialized y.cls ∈ gz_tb) (hdesc : y.cls ≠ "java/lang/invoke/MethodHandle" ∧ y.cls ≠ "java/lang/invoke/VarHandle" ∧ (parseMethodDescriptor y.desc).map (fun d => d.parameters.length) = some n) (hrf : rm.frames + 1 ≤ M.2.2.2.1) (hrl : 8 + (maxL + 11) + rm.locals ≤ M.2.2.2.2.1) (hl : Cond.methodLink M.2.2.1 idx y ∈ gz_tb) (hstt : Cond.static y ∈ gz_tb) (hd : decode M.1 p1 = .ok (.invokestatic idx, 3)) (hd8 : d ≤ 8) : gz_OkE M d (c1 + rm.cells) (s1 + rm.slots) pc (p1 + 3) (gz_cs sem as) := by
  intro X hok env st h v' h' cells slots hst hc hs ht hk
  unfold gz_cs at ht
  split at ht
  · rename_i us h1 e1
    split at ht
    · rename_i v h2 e2
      simp only [Option.some.injEq, Prod.mk.injEq] at ht
      obtain ⟨rfl, rfl⟩ := ht
      obtain ⟨g1, g2⟩ := ha X hok env st h us h1 cells slots hst (by omega) (by omega) e1
      refine g2 (gw_callS hok hM e2 hcode hini hdesc g1 hrf hrl hl hstt hd (by omega) (by omega) (by omega) ?_)
      rw [Nat.add_assoc, Nat.add_assoc]
      exact hk
    · cases ht
  · cases ht
theorem ok_cv {M : gz_Mi} {d pc p1 n c1 s1 idx ci N : Nat} {as : gz_Ax} (ha : gz_OkA M d c1 s1 pc p1 (n + 1) as) {y : MethodName} {cc' : ByteArray} {maxL : Nat} {ret : Option FieldType} {rm : Room} {sem : gz_Me} (hM : gz_Mt y cc' maxL ret rm sem) {C : String} {T : u_T} (hcl : vwCl[ci]? = some (C, T, N)) (hcode : Cond.code y cc' maxL ret ∈ gz_tb) (hini : Cond.initialized y.cls ∈ gz_tb) (hdesc : y.cls ≠ "java/lang/invoke/MethodHandle" ∧ y.cls ≠ "java/lang/invoke/VarHandle" ∧ (parseMethodDescriptor y.desc).map (fun d => d.parameters.length) = some n) (hrf : rm.frames + 1 ≤ M.2.2.2.1) (hrl : 8 + (maxL + 11) + rm.locals ≤ M.2.2.2.2.1) (hl : Cond.methodLink M.2.2.1 idx y ∈ gz_tb) (hin : Cond.instanceMethod y ∈ gz_tb) (hse : Cond.selects C y y ∈ gz_tb) (hd : decode M.1 p1 = .ok (.invokevirtual idx, 3)) (hd8 : d ≤ 8) : gz_OkE M d (c1 + rm.cells) (s1 + rm.slots) pc (p1 + 3) (gz_cv ci N sem as) := by
  intro X hok env st h v' h' cells slots hst hc hs ht hk
  unfold gz_cv at ht
  split at ht
  · rename_i x us h1 e1
    split at ht
    · rename_i hq
      split at ht
      · rename_i v h2 e2
        simp only [Option.some.injEq, Prod.mk.injEq] at ht
        obtain ⟨rfl, rfl⟩ := ht
        obtain ⟨g1, g2⟩ := ha X hok env st h _ h1 cells slots hst (by omega) (by omega) e1
        refine g2 ?_
        rw [List.reverse_cons, List.append_assoc, List.singleton_append]
        refine gw_callV hok hM e2 hcl hcode hini hdesc (Nat.succ.inj g1) hrf hrl hl hin hse hd hq.1 hq.2 (by omega) (by omega) (by omega) ?_
        rw [Nat.add_assoc, Nat.add_assoc]
        exact hk
      · cases ht
    · cases ht
  · cases ht
theorem ok_mk {M : gz_Mi} {d pc p1 n c1 s1 idx2 : Nat} {as : gz_Ax} {ci N idx : Nat} {C : String} {T : u_T} (hcl : vwCl[ci]? = some (C, T, N)) (hinw : ∀ w ∈ u_ws C T N, w ∈ gz_tb) (ty0 : Nat → FieldType) (hty : ∀ k, k < N → parseFieldDescriptor (T k).2.2.1 = some (ty0 k)) (hnf : ∀ k, k < N → gz_nf (defaultValue (ty0 k)) = true) (hcw : Cond.classLink M.2.2.1 idx C ∈ gz_tb) (hins : Cond.instantiable C N ∈ gz_tb) (hinc : Cond.initialized C ∈ gz_tb) (hd0 : decode M.1 pc = .ok (.new idx, 3)) (hd1 : decode M.1 (pc + 3) = .ok (.dup, 1)) (ha : gz_OkA M (d + 2) c1 s1 (pc + 4) p1 n as) {y : MethodName} {cc' : ByteArray} {maxL : Nat} {rm : Room} {sem : gz_Me} (hM : gz_Mt y cc' maxL none rm sem) (hcode : Cond.code y cc' maxL none ∈ gz_tb) (hini : Cond.initialized y.cls ∈ gz_tb) (hdesc : y.cls ≠ "java/lang/invoke/MethodHandle" ∧ y.cls ≠ "java/lang/invoke/VarHandle" ∧ (parseMethodDescriptor y.desc).map (fun d => d.parameters.length) = some n) (hrf : rm.frames + 1 ≤ M.2.2.2.1) (hrl : 8 + (maxL + 11) + rm.locals ≤ M.2.2.2.2.1) (hl : Cond.methodLink M.2.2.1 idx2 y ∈ gz_tb) (hin : Cond.instanceMethod y ∈ gz_tb) (hy1 : y.name = "<init>") (hd : decode M.1 p1 = .ok (.invokespecial idx2, 3)) (hd8 : d + 1 ≤ 8) : gz_OkE M d (1 + c1 + rm.cells) (N + s1 + rm.slots) pc (p1 + 3) (gz_mk ci N (fun j => defaultValue (ty0 j)) sem as) := by
  intro X hok env st h v' h' cells slots hst hc hs ht hk
  unfold gz_mk at ht
  split at ht
  · rename_i us h1 e1
    split at ht
    · rename_i h2 e2
      simp only [Option.some.injEq, Prod.mk.injEq] at ht
      obtain ⟨rfl, rfl⟩ := ht
      refine gw_new hok hcl hinw ty0 hty hnf hcw hins hinc hd0 (by omega) (by omega) ?_
      refine gw_dup hok hd1 rfl ?_
      obtain ⟨g1, g2⟩ := ha X hok env _ _ us h1 (cells + 1) (slots + N) (by rw [gz_sm_cons, gz_sm_cons]; simp only [Value.category]; omega) (by omega) (by omega) e1
      refine g2 (gw_callI hok hM e2 hcode hini hdesc g1 hrf hrl hl hin hy1 hd (by rw [gz_sm_cons]; simp only [Value.category]; omega) (by omega) (by omega) ?_)
      rw [show cells + 1 + c1 + rm.cells = cells + (1 + c1 + rm.cells) by omega, show slots + N + s1 + rm.slots = slots + (N + s1 + rm.slots) by omega]
      exact hk
    · cases ht
  · cases ht
theorem ok_mkN {M : gz_Mi} {d pc p1 n c1 s1 idx2 : Nat} {as : gz_Ax} {ci N idx : Nat} {C : String} {T : u_T} (hcl : vwCl[ci]? = some (C, T, N)) (hinw : ∀ w ∈ u_ws C T N, w ∈ gz_tb) (ty0 : Nat → FieldType) (hty : ∀ k, k < N → parseFieldDescriptor (T k).2.2.1 = some (ty0 k)) (hnf : ∀ k, k < N → gz_nf (defaultValue (ty0 k)) = true) (hcw : Cond.classLink M.2.2.1 idx C ∈ gz_tb) (hins : Cond.instantiable C N ∈ gz_tb) (hinc : Cond.initialized C ∈ gz_tb) (hd0 : decode M.1 pc = .ok (.new idx, 3)) (hd1 : decode M.1 (pc + 3) = .ok (.dup, 1)) (ha : gz_OkA M (d + 2) c1 s1 (pc + 4) p1 n as) {y : MethodName} {cc' : ByteArray} {maxL : Nat} {rm : Room} {sem : gz_Me} (hM : gz_Mt y cc' maxL none rm sem) (hcode : Cond.code y cc' maxL none ∈ gz_tb) (hini : Cond.initialized y.cls ∈ gz_tb) (hdesc : y.cls ≠ "java/lang/invoke/MethodHandle" ∧ y.cls ≠ "java/lang/invoke/VarHandle" ∧ (parseMethodDescriptor y.desc).map (fun d => d.parameters.length) = some n) (hrf : rm.frames + 1 ≤ M.2.2.2.1) (hrl : 8 + (maxL + 11) + rm.locals ≤ M.2.2.2.2.1) {host : String} (hl : ∀ U : State, gz_nest U → va_Nw (.methodLinkNest M.2.2.1 idx2 y host) U) (hin : Cond.instanceMethod y ∈ gz_tb) (hy1 : y.name = "<init>") (hd : decode M.1 p1 = .ok (.invokespecial idx2, 3)) (hd8 : d + 1 ≤ 8) : gz_OkE M d (1 + c1 + rm.cells) (N + s1 + rm.slots) pc (p1 + 3) (gz_mk ci N (fun j => defaultValue (ty0 j)) sem as) := by
  intro X hok env st h v' h' cells slots hst hc hs ht hk
  unfold gz_mk at ht
  split at ht
  · rename_i us h1 e1
    split at ht
    · rename_i h2 e2
      simp only [Option.some.injEq, Prod.mk.injEq] at ht
      obtain ⟨rfl, rfl⟩ := ht
      refine gw_new hok hcl hinw ty0 hty hnf hcw hins hinc hd0 (by omega) (by omega) ?_
      refine gw_dup hok hd1 rfl ?_
      obtain ⟨g1, g2⟩ := ha X hok env _ _ us h1 (cells + 1) (slots + N) (by rw [gz_sm_cons, gz_sm_cons]; simp only [Value.category]; omega) (by omega) (by omega) e1
      refine g2 (gw_callN hok hM e2 hcode hini hdesc g1 hrf hrl hl hin hy1 hd (by rw [gz_sm_cons]; simp only [Value.category]; omega) (by omega) (by omega) ?_)
      rw [show cells + 1 + c1 + rm.cells = cells + (1 + c1 + rm.cells) by omega, show slots + N + s1 + rm.slots = slots + (N + s1 + rm.slots) by omega]
      exact hk
    · cases ht
  · cases ht
theorem ok_te {M : gz_Mi} {d pc X N p1 p2 c1 s1 c2 s2 c3 s3 : Nat} {off : Int} {j : gz_Jx} {a b : gz_Ex} (hj : gz_OkJ M d c1 s1 pc X N j) (hb : gz_OkE M d c2 s2 N p1 b) (hg : decode M.1 p1 = .ok (.goto off, 3)) (ht0 : (p1 : Int) + off = (p2 : Int)) (ha : gz_OkE M d c3 s3 X p2 a) : gz_OkE M d (c1 + c2 + c3) (s1 + s2 + s3) pc p2 (gz_te j a b) := by
  intro X' hok env st h v' h' cells slots hst hc hs ht hk
  unfold gz_te at ht
  split at ht
  · rename_i h1 e1
    refine hj X' hok env st h _ _ cells slots hst (by omega) (by omega) e1 (fun _ => ?_) (fun q => by cases q)
    exact ha X' hok env st h1 _ _ _ _ hst (by omega) (by omega) ht (gz_W.widen (by omega) (by omega) hk)
  · rename_i h1 e1
    refine hj X' hok env st h _ _ cells slots hst (by omega) (by omega) e1 (fun q => by cases q) (fun _ => ?_)
    exact hb X' hok env st h1 _ _ _ _ hst (by omega) (by omega) ht (gw_goto hok hg ht0 (gz_W.widen (by omega) (by omega) hk))
  · cases ht
theorem ok_if_eq {M : gz_Mi} {d pc p1 c1 s1 tgt : Nat} {off : Int} {a : gz_Ex} (ha : gz_OkE M d c1 s1 pc p1 a) (hd : decode M.1 p1 = .ok (.ifCond .eq off, 3)) (ht0 : (p1 : Int) + off = (tgt : Int)) : gz_OkJ M d c1 s1 pc tgt (p1 + 3) (gz_j1 (fun x => decide (x = 0)) a) := by
  intro X hok env st h v' h' cells slots hst hc hs ht kt kf
  unfold gz_j1 at ht
  split at ht
  · rename_i x h1 e1
    simp only [Option.some.injEq, Prod.mk.injEq] at ht
    obtain ⟨rfl, rfl⟩ := ht
    exact ha X hok env st h _ _ cells slots hst hc hs e1 (gw_if_eq hok hd ht0 (fun q => kt (decide_eq_true q)) (fun q => kf (by simp only [decide_eq_false_iff_not]; exact q)))
  · cases ht
theorem ok_ic_eq {M : gz_Mi} {d pc p1 p2 c1 s1 c2 s2 tgt : Nat} {off : Int} {a b : gz_Ex} (ha : gz_OkE M d c1 s1 pc p1 a) (hb : gz_OkE M (d + 1) c2 s2 p1 p2 b) (hd : decode M.1 p2 = .ok (.if_icmp .eq off, 3)) (ht0 : (p2 : Int) + off = (tgt : Int)) : gz_OkJ M d (c1 + c2) (s1 + s2) pc tgt (p2 + 3) (gz_j2 (fun x y => decide (x = y)) a b) := by
  intro X hok env st h v' h' cells slots hst hc hs ht kt kf
  unfold gz_j2 at ht
  split at ht
  · rename_i x h1 e1
    split at ht
    · rename_i y h2 e2
      simp only [Option.some.injEq, Prod.mk.injEq] at ht
      obtain ⟨rfl, rfl⟩ := ht
      rw [← Nat.add_assoc, ← Nat.add_assoc] at kt kf
      refine ha X hok env st h _ _ cells slots hst (by omega) (by omega) e1 ?_
      refine hb X hok env _ _ _ _ _ _ (by rw [gz_sm_cons]; simp only [Value.category]; omega) (by omega) (by omega) e2 ?_
      exact gw_ic_eq hok hd ht0 (fun q => kt (decide_eq_true q)) (fun q => kf (by simp only [decide_eq_false_iff_not]; exact q))
    · cases ht
  · cases ht
theorem ok_if_ne {M : gz_Mi} {d pc p1 c1 s1 tgt : Nat} {off : Int} {a : gz_Ex} (ha : gz_OkE M d c1 s1 pc p1 a) (hd : decode M.1 p1 = .ok (.ifCond .ne off, 3)) (ht0 : (p1 : Int) + off = (tgt : Int)) : gz_OkJ M d c1 s1 pc tgt (p1 + 3) (gz_j1 (fun x => decide (¬ x = 0)) a) := by
  intro X hok env st h v' h' cells slots hst hc hs ht kt kf
  unfold gz_j1 at ht
  split at ht
  · rename_i x h1 e1
    simp only [Option.some.injEq, Prod.mk.injEq] at ht
    obtain ⟨rfl, rfl⟩ := ht
    exact ha X hok env st h _ _ cells slots hst hc hs e1 (gw_if_ne hok hd ht0 (fun q => kt (decide_eq_true q)) (fun q => kf (by simp [q])))
  · cases ht
theorem ok_ic_ne {M : gz_Mi} {d pc p1 p2 c1 s1 c2 s2 tgt : Nat} {off : Int} {a b : gz_Ex} (ha : gz_OkE M d c1 s1 pc p1 a) (hb : gz_OkE M (d + 1) c2 s2 p1 p2 b) (hd : decode M.1 p2 = .ok (.if_icmp .ne off, 3)) (ht0 : (p2 : Int) + off = (tgt : Int)) : gz_OkJ M d (c1 + c2) (s1 + s2) pc tgt (p2 + 3) (gz_j2 (fun x y => decide (¬ x = y)) a b) := by
  intro X hok env st h v' h' cells slots hst hc hs ht kt kf
  unfold gz_j2 at ht
  split at ht
  · rename_i x h1 e1
    split at ht
    · rename_i y h2 e2
      simp only [Option.some.injEq, Prod.mk.injEq] at ht
      obtain ⟨rfl, rfl⟩ := ht
      rw [← Nat.add_assoc, ← Nat.add_assoc] at kt kf
      refine ha X hok env st h _ _ cells slots hst (by omega) (by omega) e1 ?_
      refine hb X hok env _ _ _ _ _ _ (by rw [gz_sm_cons]; simp only [Value.category]; omega) (by omega) (by omega) e2 ?_
      exact gw_ic_ne hok hd ht0 (fun q => kt (decide_eq_true q)) (fun q => kf (by simp [q]))
    · cases ht
  · cases ht
theorem ok_if_lt {M : gz_Mi} {d pc p1 c1 s1 tgt : Nat} {off : Int} {a : gz_Ex} (ha : gz_OkE M d c1 s1 pc p1 a) (hd : decode M.1 p1 = .ok (.ifCond .lt off, 3)) (ht0 : (p1 : Int) + off = (tgt : Int)) : gz_OkJ M d c1 s1 pc tgt (p1 + 3) (gz_j1 (fun x => decide (x < 0)) a) := by
  intro X hok env st h v' h' cells slots hst hc hs ht kt kf
  unfold gz_j1 at ht
  split at ht
  · rename_i x h1 e1
    simp only [Option.some.injEq, Prod.mk.injEq] at ht
    obtain ⟨rfl, rfl⟩ := ht
    exact ha X hok env st h _ _ cells slots hst hc hs e1 (gw_if_lt hok hd ht0 (fun q => kt (decide_eq_true q)) (fun q => kf (by simp only [decide_eq_false_iff_not]; exact q)))
  · cases ht
theorem ok_ic_lt {M : gz_Mi} {d pc p1 p2 c1 s1 c2 s2 tgt : Nat} {off : Int} {a b : gz_Ex} (ha : gz_OkE M d c1 s1 pc p1 a) (hb : gz_OkE M (d + 1) c2 s2 p1 p2 b) (hd : decode M.1 p2 = .ok (.if_icmp .lt off, 3)) (ht0 : (p2 : Int) + off = (tgt : Int)) : gz_OkJ M d (c1 + c2) (s1 + s2) pc tgt (p2 + 3) (gz_j2 (fun x y => decide (x < y)) a b) := by
  intro X hok env st h v' h' cells slots hst hc hs ht kt kf
  unfold gz_j2 at ht
  split at ht
  · rename_i x h1 e1
    split at ht
    · rename_i y h2 e2
      simp only [Option.some.injEq, Prod.mk.injEq] at ht
      obtain ⟨rfl, rfl⟩ := ht
      rw [← Nat.add_assoc, ← Nat.add_assoc] at kt kf
      refine ha X hok env st h _ _ cells slots hst (by omega) (by omega) e1 ?_
      refine hb X hok env _ _ _ _ _ _ (by rw [gz_sm_cons]; simp only [Value.category]; omega) (by omega) (by omega) e2 ?_
      exact gw_ic_lt hok hd ht0 (fun q => kt (decide_eq_true q)) (fun q => kf (by simp only [decide_eq_false_iff_not]; exact q))
    · cases ht
  · cases ht
theorem ok_if_ge {M : gz_Mi} {d pc p1 c1 s1 tgt : Nat} {off : Int} {a : gz_Ex} (ha : gz_OkE M d c1 s1 pc p1 a) (hd : decode M.1 p1 = .ok (.ifCond .ge off, 3)) (ht0 : (p1 : Int) + off = (tgt : Int)) : gz_OkJ M d c1 s1 pc tgt (p1 + 3) (gz_j1 (fun x => decide (0 ≤ x)) a) := by
  intro X hok env st h v' h' cells slots hst hc hs ht kt kf
  unfold gz_j1 at ht
  split at ht
  · rename_i x h1 e1
    simp only [Option.some.injEq, Prod.mk.injEq] at ht
    obtain ⟨rfl, rfl⟩ := ht
    exact ha X hok env st h _ _ cells slots hst hc hs e1 (gw_if_ge hok hd ht0 (fun q => kt (decide_eq_true q)) (fun q => kf (by simp only [decide_eq_false_iff_not]; exact q)))
  · cases ht
theorem ok_ic_ge {M : gz_Mi} {d pc p1 p2 c1 s1 c2 s2 tgt : Nat} {off : Int} {a b : gz_Ex} (ha : gz_OkE M d c1 s1 pc p1 a) (hb : gz_OkE M (d + 1) c2 s2 p1 p2 b) (hd : decode M.1 p2 = .ok (.if_icmp .ge off, 3)) (ht0 : (p2 : Int) + off = (tgt : Int)) : gz_OkJ M d (c1 + c2) (s1 + s2) pc tgt (p2 + 3) (gz_j2 (fun x y => decide (y ≤ x)) a b) := by
  intro X hok env st h v' h' cells slots hst hc hs ht kt kf
  unfold gz_j2 at ht
  split at ht
  · rename_i x h1 e1
    split at ht
    · rename_i y h2 e2
      simp only [Option.some.injEq, Prod.mk.injEq] at ht
      obtain ⟨rfl, rfl⟩ := ht
      rw [← Nat.add_assoc, ← Nat.add_assoc] at kt kf
      refine ha X hok env st h _ _ cells slots hst (by omega) (by omega) e1 ?_
      refine hb X hok env _ _ _ _ _ _ (by rw [gz_sm_cons]; simp only [Value.category]; omega) (by omega) (by omega) e2 ?_
      exact gw_ic_ge hok hd ht0 (fun q => kt (decide_eq_true q)) (fun q => kf (by simp only [decide_eq_false_iff_not]; exact q))
    · cases ht
  · cases ht
theorem ok_if_gt {M : gz_Mi} {d pc p1 c1 s1 tgt : Nat} {off : Int} {a : gz_Ex} (ha : gz_OkE M d c1 s1 pc p1 a) (hd : decode M.1 p1 = .ok (.ifCond .gt off, 3)) (ht0 : (p1 : Int) + off = (tgt : Int)) : gz_OkJ M d c1 s1 pc tgt (p1 + 3) (gz_j1 (fun x => decide (0 < x)) a) := by
  intro X hok env st h v' h' cells slots hst hc hs ht kt kf
  unfold gz_j1 at ht
  split at ht
  · rename_i x h1 e1
    simp only [Option.some.injEq, Prod.mk.injEq] at ht
    obtain ⟨rfl, rfl⟩ := ht
    exact ha X hok env st h _ _ cells slots hst hc hs e1 (gw_if_gt hok hd ht0 (fun q => kt (decide_eq_true q)) (fun q => kf (by simp only [decide_eq_false_iff_not]; exact q)))
  · cases ht
theorem ok_ic_gt {M : gz_Mi} {d pc p1 p2 c1 s1 c2 s2 tgt : Nat} {off : Int} {a b : gz_Ex} (ha : gz_OkE M d c1 s1 pc p1 a) (hb : gz_OkE M (d + 1) c2 s2 p1 p2 b) (hd : decode M.1 p2 = .ok (.if_icmp .gt off, 3)) (ht0 : (p2 : Int) + off = (tgt : Int)) : gz_OkJ M d (c1 + c2) (s1 + s2) pc tgt (p2 + 3) (gz_j2 (fun x y => decide (y < x)) a b) := by
  intro X hok env st h v' h' cells slots hst hc hs ht kt kf
  unfold gz_j2 at ht
  split at ht
  · rename_i x h1 e1
    split at ht
    · rename_i y h2 e2
      simp only [Option.some.injEq, Prod.mk.injEq] at ht
      obtain ⟨rfl, rfl⟩ := ht
      rw [← Nat.add_assoc, ← Nat.add_assoc] at kt kf
      refine ha X hok env st h _ _ cells slots hst (by omega) (by omega) e1 ?_
      refine hb X hok env _ _ _ _ _ _ (by rw [gz_sm_cons]; simp only [Value.category]; omega) (by omega) (by omega) e2 ?_
      exact gw_ic_gt hok hd ht0 (fun q => kt (decide_eq_true q)) (fun q => kf (by simp only [decide_eq_false_iff_not]; exact q))
    · cases ht
  · cases ht
theorem ok_if_le {M : gz_Mi} {d pc p1 c1 s1 tgt : Nat} {off : Int} {a : gz_Ex} (ha : gz_OkE M d c1 s1 pc p1 a) (hd : decode M.1 p1 = .ok (.ifCond .le off, 3)) (ht0 : (p1 : Int) + off = (tgt : Int)) : gz_OkJ M d c1 s1 pc tgt (p1 + 3) (gz_j1 (fun x => decide (x ≤ 0)) a) := by
  intro X hok env st h v' h' cells slots hst hc hs ht kt kf
  unfold gz_j1 at ht
  split at ht
  · rename_i x h1 e1
    simp only [Option.some.injEq, Prod.mk.injEq] at ht
    obtain ⟨rfl, rfl⟩ := ht
    exact ha X hok env st h _ _ cells slots hst hc hs e1 (gw_if_le hok hd ht0 (fun q => kt (decide_eq_true q)) (fun q => kf (by simp only [decide_eq_false_iff_not]; exact q)))
  · cases ht
theorem ok_ic_le {M : gz_Mi} {d pc p1 p2 c1 s1 c2 s2 tgt : Nat} {off : Int} {a b : gz_Ex} (ha : gz_OkE M d c1 s1 pc p1 a) (hb : gz_OkE M (d + 1) c2 s2 p1 p2 b) (hd : decode M.1 p2 = .ok (.if_icmp .le off, 3)) (ht0 : (p2 : Int) + off = (tgt : Int)) : gz_OkJ M d (c1 + c2) (s1 + s2) pc tgt (p2 + 3) (gz_j2 (fun x y => decide (x ≤ y)) a b) := by
  intro X hok env st h v' h' cells slots hst hc hs ht kt kf
  unfold gz_j2 at ht
  split at ht
  · rename_i x h1 e1
    split at ht
    · rename_i y h2 e2
      simp only [Option.some.injEq, Prod.mk.injEq] at ht
      obtain ⟨rfl, rfl⟩ := ht
      rw [← Nat.add_assoc, ← Nat.add_assoc] at kt kf
      refine ha X hok env st h _ _ cells slots hst (by omega) (by omega) e1 ?_
      refine hb X hok env _ _ _ _ _ _ (by rw [gz_sm_cons]; simp only [Value.category]; omega) (by omega) (by omega) e2 ?_
      exact gw_ic_le hok hd ht0 (fun q => kt (decide_eq_true q)) (fun q => kf (by simp only [decide_eq_false_iff_not]; exact q))
    · cases ht
  · cases ht
theorem ok_jn {M : gz_Mi} {d pc p1 c1 s1 tgt : Nat} {off : Int} {a : gz_Ex} (ha : gz_OkE M d c1 s1 pc p1 a) (hd : decode M.1 p1 = .ok (.ifnull off, 3)) (ht0 : (p1 : Int) + off = (tgt : Int)) : gz_OkJ M d c1 s1 pc tgt (p1 + 3) (gz_jn a) := by
  intro X hok env st h v' h' cells slots hst hc hs ht kt kf
  unfold gz_jn at ht
  split at ht
  · rename_i x h1 e1
    simp only [Option.some.injEq, Prod.mk.injEq] at ht
    obtain ⟨rfl, rfl⟩ := ht
    exact ha X hok env st h _ _ cells slots hst hc hs e1 (gw_nullr hok hd (kf rfl))
  · rename_i h1 e1
    simp only [Option.some.injEq, Prod.mk.injEq] at ht
    obtain ⟨rfl, rfl⟩ := ht
    exact ha X hok env st h _ _ cells slots hst hc hs e1 (gw_nullz hok hd ht0 (kt rfl))
  · cases ht
theorem ok_jk {M : gz_Mi} {d pc p1 c1 s1 tgt : Nat} {off : Int} {a : gz_Ex} (ha : gz_OkE M d c1 s1 pc p1 a) (hd : decode M.1 p1 = .ok (.ifnonnull off, 3)) (ht0 : (p1 : Int) + off = (tgt : Int)) : gz_OkJ M d c1 s1 pc tgt (p1 + 3) (gz_jk a) := by
  intro X hok env st h v' h' cells slots hst hc hs ht kt kf
  unfold gz_jk at ht
  split at ht
  · rename_i x h1 e1
    simp only [Option.some.injEq, Prod.mk.injEq] at ht
    obtain ⟨rfl, rfl⟩ := ht
    exact ha X hok env st h _ _ cells slots hst hc hs e1 (gw_nonr hok hd ht0 (kt rfl))
  · rename_i h1 e1
    simp only [Option.some.injEq, Prod.mk.injEq] at ht
    obtain ⟨rfl, rfl⟩ := ht
    exact ha X hok env st h _ _ cells slots hst hc hs e1 (gw_nonz hok hd (kf rfl))
  · cases ht
theorem ok_jo {M : gz_Mi} {d pc p1 c1 s1 c2 s2 X N : Nat} {a b : gz_Jx} (ha : gz_OkJ M d c1 s1 pc X p1 a) (hb : gz_OkJ M d c2 s2 p1 X N b) : gz_OkJ M d (c1 + c2) (s1 + s2) pc X N (gz_jo a b) := by
  intro X' hok env st h v' h' cells slots hst hc hs ht kt kf
  unfold gz_jo at ht
  split at ht
  · rename_i h1 e1
    simp only [Option.some.injEq, Prod.mk.injEq] at ht
    obtain ⟨rfl, rfl⟩ := ht
    exact ha X' hok env st h _ _ cells slots hst (by omega) (by omega) e1 (fun _ => gz_W.widen (by omega) (by omega) (kt rfl)) (fun q => by cases q)
  · rename_i h1 e1
    refine ha X' hok env st h _ _ cells slots hst (by omega) (by omega) e1 (fun q => by cases q) (fun _ => ?_)
    exact hb X' hok env st h1 _ _ _ _ hst (by omega) (by omega) ht (fun q => gz_W.widen (by omega) (by omega) (kt q)) (fun q => gz_W.widen (by omega) (by omega) (kf q))
  · cases ht
theorem ok_ja {M : gz_Mi} {d pc p1 c1 s1 c2 s2 X N : Nat} {a b : gz_Jx} (ha : gz_OkJ M d c1 s1 pc N p1 a) (hb : gz_OkJ M d c2 s2 p1 X N b) : gz_OkJ M d (c1 + c2) (s1 + s2) pc X N (gz_ja a b) := by
  intro X' hok env st h v' h' cells slots hst hc hs ht kt kf
  unfold gz_ja at ht
  split at ht
  · rename_i h1 e1
    simp only [Option.some.injEq, Prod.mk.injEq] at ht
    obtain ⟨rfl, rfl⟩ := ht
    exact ha X' hok env st h _ _ cells slots hst (by omega) (by omega) e1 (fun _ => gz_W.widen (by omega) (by omega) (kf rfl)) (fun q => by cases q)
  · rename_i h1 e1
    refine ha X' hok env st h _ _ cells slots hst (by omega) (by omega) e1 (fun q => by cases q) (fun _ => ?_)
    exact hb X' hok env st h1 _ _ _ _ hst (by omega) (by omega) ht (fun q => gz_W.widen (by omega) (by omega) (kt q)) (fun q => gz_W.widen (by omega) (by omega) (kf q))
  · cases ht
end
section
def gz_sat (L : Nat) : gz_Sx := fun env h => some (.inl (L, env, h))
def gz_set1 (k : Nat) (e : gz_Ex) (r : gz_Sx) : gz_Sx := fun env h => match e env [] h with
  | some (.int x, h1) => r (gz_st env k (.int x)) h1
  | some (.ref x, h1) => r (gz_st env k (.ref x)) h1
  | some (.null, h1) => r (gz_st env k .null) h1
  | _ => none
def gz_set2 (k : Nat) (e : gz_Ex) (r : gz_Sx) : gz_Sx := fun env h => match e env [] h with
  | some (.long x, h1) => r (gz_st2 env k (.long x)) h1
  | _ => none
def gz_inc (k : Nat) (n : Int32) (r : gz_Sx) : gz_Sx := fun env h => match env[k]? with
  | some (.int x) => r (gz_st env k (.int (x + n))) h
  | _ => none
def gz_put (ci N k : Nat) (ty : FieldType) (a e : gz_Ex) (r : gz_Sx) : gz_Sx := fun env h => match a env [] h with
  | some (.ref x, h1) => (match e env [.ref x] h1 with
    | some (v, h2) => if (x < h2.1 ∧ gz_k h2 x = (ci, N)) ∧ gz_fit ty v = true then r env (gz_set h2 x k v) else none
    | none => none)
  | _ => none
def gz_aty (ct : Nat) (h : gz_H) (v : Value) : Bool := match ct, v with
  | 100, .int _ => true
  | 101, .int y => y == 0 || y == 1
  | 102, .long _ => true
  | 103, .ref y => decide (y < h.1 ∧ (gz_k h y).1 = 3)
  | 104, .ref y => decide (y < h.1 ∧ (gz_k h y).1 = 1)
  | 105, .ref y => decide (y < h.1 ∧ (gz_k h y).1 = 2)
  | _, _ => false
def gz_ast (ct : Nat) (a b e : gz_Ex) (r : gz_Sx) : gz_Sx := fun env h => match a env [] h with
  | some (.ref x, h1) => (match b env [.ref x] h1 with
    | some (.int j, h2) => (match e env [.int j, .ref x] h2 with
      | some (v, h3) => if gz_ix h3 ct x j ∧ gz_aty ct h3 v = true then r env (gz_set h3 x j.toNatClampNeg v) else none
      | none => none)
    | _ => none)
  | _ => none
def gz_pop (e : gz_Ex) (r : gz_Sx) : gz_Sx := fun env h => match e env [] h with
  | some (.int _, h1) => r env h1
  | _ => none
def gz_vs (sem : gz_Me) (as : gz_Ax) (r : gz_Sx) : gz_Sx := fun env h => match as env [] h with
  | some (vs, h1) => (match sem vs h1 with
    | some (none, h2) => r env h2
    | _ => none)
  | none => none
def gz_vv (ci N : Nat) (sem : gz_Me) (as : gz_Ax) (r : gz_Sx) : gz_Sx := fun env h => match as env [] h with
  | some (.ref x :: vs, h1) => if x < h1.1 ∧ gz_k h1 x = (ci, N) then (match sem (.ref x :: vs) h1 with
    | some (none, h2) => r env h2
    | _ => none) else none
  | _ => none
def gz_sup (e : gz_Ex) (r : gz_Sx) : gz_Sx := fun env h => match e env [] h with
  | some (.ref _, h1) => r env h1
  | _ => none
def gz_rv : gz_Sx := fun _ h => some (.inr (none, h))
def gz_ri (e : gz_Ex) : gz_Sx := fun env h => match e env [] h with
  | some (.int x, h1) => some (.inr (some (.int x), h1))
  | _ => none
def gz_rl (e : gz_Ex) : gz_Sx := fun env h => match e env [] h with
  | some (.long x, h1) => some (.inr (some (.long x), h1))
  | _ => none
def gz_ra (e : gz_Ex) : gz_Sx := fun env h => match e env [] h with
  | some (.ref x, h1) => some (.inr (some (.ref x), h1))
  | some (.null, h1) => some (.inr (some .null, h1))
  | _ => none
def gz_if (j : gz_Jx) (a b : gz_Sx) : gz_Sx := fun env h => match j env [] h with
  | some (true, h1) => a env h1
  | some (false, h1) => b env h1
  | none => none
/-- then: from the place L on, with k locals kept -/
def gz_seq (L k : Nat) (a b : gz_Sx) : gz_Sx := fun env h => match a env h with
  | some (.inl (l, env1, h1)) => if l = L then b (env1.take k) h1 else some (.inl (l, env1, h1))
  | some (.inr q) => some (.inr q)
  | none => none
def gz_it (L k : Nat) (a : gz_Sx) : Nat → gz_Sx
  | 0 => fun _ _ => none
  | n + 1 => gz_seq L k a (gz_it L k a n)
noncomputable def gz_loop (L k : Nat) (a : gz_Sx) : gz_Sx := fun env h => @dite (Option gz_O) (∃ n, gz_it L k a n (env.take k) h ≠ none) (Classical.propDecidable _) (fun q => gz_it L k a (Classical.choose q) (env.take k) h) (fun _ => none)
theorem gz_it_up (L k : Nat) (a : gz_Sx) : ∀ (n m : Nat) (env : List Value) (h : gz_H) (o : gz_O), gz_it L k a n env h = some o → n ≤ m → gz_it L k a m env h = some o := by
  intro n
  induction n with
  | zero => intro m env h o e; cases e
  | succ n ih =>
    intro m env h o e hm
    cases m with
    | zero => omega
    | succ m =>
      unfold gz_it gz_seq at e ⊢
      split at e
      · rename_i l env1 h1 e1
        by_cases hl : l = L
        · simp only [hl, if_true] at e ⊢
          exact ih m _ _ _ e (by omega)
        · simp only [hl, if_false] at e ⊢
          exact e
      · rename_i q e1
        exact e
      · cases e
theorem gz_it_same {L k : Nat} {a : gz_Sx} {n m : Nat} {env : List Value} {h : gz_H} {o o' : gz_O} (e : gz_it L k a n env h = some o) (e' : gz_it L k a m env h = some o') : o = o' := by
  have h1 := gz_it_up L k a n (n + m) env h o e (by omega)
  have h2 := gz_it_up L k a m (n + m) env h o' e' (by omega)
  exact Option.some.inj (h1.symm.trans h2)
theorem gz_loop_of {L k : Nat} {a : gz_Sx} {n : Nat} {env : List Value} {h : gz_H} {o : gz_O} (e : gz_it L k a n (env.take k) h = some o) : gz_loop L k a env h = some o := by
  have hq : ∃ n, gz_it L k a n (env.take k) h ≠ none := ⟨n, by rw [e]; exact fun q => by cases q⟩
  have hc : gz_loop L k a env h = gz_it L k a (Classical.choose hq) (env.take k) h := by
    unfold gz_loop
    rw [dif_pos hq]
  have hs := Classical.choose_spec hq
  cases hv : gz_it L k a (Classical.choose hq) (env.take k) h with
  | none => exact absurd hv hs
  | some o' => rw [hc, hv, gz_it_same hv e]
theorem gz_loop_inv {L k : Nat} {a : gz_Sx} {env : List Value} {h : gz_H} {o : gz_O} (e : gz_loop L k a env h = some o) : ∃ n, gz_it L k a n (env.take k) h = some o := by
  by_cases hq : ∃ n, gz_it L k a n (env.take k) h ≠ none
  · obtain ⟨n, hn⟩ := hq
    cases hv : gz_it L k a n (env.take k) h with
    | none => exact absurd hv hn
    | some o' =>
      rw [gz_loop_of hv] at e
      exact ⟨n, by rw [hv]; exact e⟩
  · have hc : gz_loop L k a env h = none := by
      unfold gz_loop
      rw [dif_neg hq]
    rw [hc] at e
    cases e
/-- a loop, by one turn -/
theorem gz_loop_next {L k : Nat} {a : gz_Sx} {env env1 : List Value} {h h1 : gz_H} {o : gz_O} (e : a (env.take k) h = some (.inl (L, env1, h1))) (e2 : gz_loop L k a env1 h1 = some o) : gz_loop L k a env h = some o := by
  obtain ⟨n, hn⟩ := gz_loop_inv e2
  refine gz_loop_of (n := n + 1) ?_
  unfold gz_it gz_seq
  rw [e]
  simp only [if_true]
  exact hn
theorem gz_loop_exit {L k : Nat} {a : gz_Sx} {env env1 : List Value} {h h1 : gz_H} {l : Nat} (e : a (env.take k) h = some (.inl (l, env1, h1))) (hl : l ≠ L) : gz_loop L k a env h = some (.inl (l, env1, h1)) := by
  refine gz_loop_of (n := 1) ?_
  unfold gz_it gz_seq
  rw [e]
  simp only [hl, if_false]
theorem gz_loop_ret {L k : Nat} {a : gz_Sx} {env : List Value} {h : gz_H} {q : Option Value × gz_H} (e : a (env.take k) h = some (.inr q)) : gz_loop L k a env h = some (.inr q) := by
  refine gz_loop_of (n := 1) ?_
  unfold gz_it gz_seq
  rw [e]
theorem ok_at {M : gz_Mi} {pc : Nat} : gz_OkS M 0 0 pc (gz_sat pc) := by
  intro X hok env h o cells slots hc hs ht hk
  simp only [gz_sat, Option.some.injEq] at ht
  subst ht
  exact hk
theorem ok_goto {M : gz_Mi} {pc L : Nat} {off : Int} (hd : decode M.1 pc = .ok (.goto off, 3)) (ht0 : (pc : Int) + off = (L : Int)) : gz_OkS M 0 0 pc (gz_sat L) := by
  intro X hok env h o cells slots hc hs ht hk
  simp only [gz_sat, Option.some.injEq] at ht
  subst ht
  exact gw_goto hok hd ht0 hk
def gz_seti (k : Nat) (e : gz_Ex) (r : gz_Sx) : gz_Sx := fun env h => match e env [] h with
  | some (.int x, h1) => r (gz_st env k (.int x)) h1
  | _ => none
def gz_seta (k : Nat) (e : gz_Ex) (r : gz_Sx) : gz_Sx := fun env h => match e env [] h with
  | some (.ref x, h1) => r (gz_st env k (.ref x)) h1
  | some (.null, h1) => r (gz_st env k .null) h1
  | _ => none
theorem ok_seti_n {M : gz_Mi} {pc p1 c1 s1 c2 s2 k : Nat} {kk : Fin 4} {e : gz_Ex} {r : gz_Sx} (he : gz_OkE M 0 c1 s1 pc p1 e) (hd : decode M.1 p1 = .ok (.istore_n kk, 1)) (hi : (kk : Nat) = k) (hn : k < M.2.1) (hr : gz_OkS M c2 s2 (p1 + 1) r) : gz_OkS M (c1 + c2) (s1 + s2) pc (gz_seti k e r) := by
  intro X hok env h o cells slots hc hs ht hk
  unfold gz_seti at ht
  split at ht
  · rename_i x h1 e1
    refine he X hok env [] h _ _ cells slots (Nat.zero_le _) (by omega) (by omega) e1 (gw_istore hok hd hi hn ?_)
    refine hr X hok _ h1 o _ _ (by omega) (by omega) ht ?_
    rw [Nat.add_assoc, Nat.add_assoc]
    exact hk
  · cases ht
theorem ok_seti {M : gz_Mi} {pc p1 c1 s1 c2 s2 k : Nat}  {e : gz_Ex} {r : gz_Sx} (he : gz_OkE M 0 c1 s1 pc p1 e) (hd : decode M.1 p1 = .ok (.istore k, 2))  (hn : k < M.2.1) (hr : gz_OkS M c2 s2 (p1 + 2) r) : gz_OkS M (c1 + c2) (s1 + s2) pc (gz_seti k e r) := by
  intro X hok env h o cells slots hc hs ht hk
  unfold gz_seti at ht
  split at ht
  · rename_i x h1 e1
    refine he X hok env [] h _ _ cells slots (Nat.zero_le _) (by omega) (by omega) e1 (gw_istore' hok hd hn ?_)
    refine hr X hok _ h1 o _ _ (by omega) (by omega) ht ?_
    rw [Nat.add_assoc, Nat.add_assoc]
    exact hk
  · cases ht
theorem ok_seta_n {M : gz_Mi} {pc p1 c1 s1 c2 s2 k : Nat} {kk : Fin 4} {e : gz_Ex} {r : gz_Sx} (he : gz_OkE M 0 c1 s1 pc p1 e) (hd : decode M.1 p1 = .ok (.astore_n kk, 1)) (hi : (kk : Nat) = k) (hn : k < M.2.1) (hr : gz_OkS M c2 s2 (p1 + 1) r) : gz_OkS M (c1 + c2) (s1 + s2) pc (gz_seta k e r) := by
  intro X hok env h o cells slots hc hs ht hk
  unfold gz_seta at ht
  split at ht
  · rename_i x h1 e1
    refine he X hok env [] h _ _ cells slots (Nat.zero_le _) (by omega) (by omega) e1 (gw_astorer hok hd hi hn ?_)
    refine hr X hok _ h1 o _ _ (by omega) (by omega) ht ?_
    rw [Nat.add_assoc, Nat.add_assoc]
    exact hk
  · rename_i h1 e1
    refine he X hok env [] h _ _ cells slots (Nat.zero_le _) (by omega) (by omega) e1 (gw_astorez hok hd hi hn ?_)
    refine hr X hok _ h1 o _ _ (by omega) (by omega) ht ?_
    rw [Nat.add_assoc, Nat.add_assoc]
    exact hk
  · cases ht
theorem ok_seta {M : gz_Mi} {pc p1 c1 s1 c2 s2 k : Nat}  {e : gz_Ex} {r : gz_Sx} (he : gz_OkE M 0 c1 s1 pc p1 e) (hd : decode M.1 p1 = .ok (.astore k, 2))  (hn : k < M.2.1) (hr : gz_OkS M c2 s2 (p1 + 2) r) : gz_OkS M (c1 + c2) (s1 + s2) pc (gz_seta k e r) := by
  intro X hok env h o cells slots hc hs ht hk
  unfold gz_seta at ht
  split at ht
  · rename_i x h1 e1
    refine he X hok env [] h _ _ cells slots (Nat.zero_le _) (by omega) (by omega) e1 (gw_astorer' hok hd hn ?_)
    refine hr X hok _ h1 o _ _ (by omega) (by omega) ht ?_
    rw [Nat.add_assoc, Nat.add_assoc]
    exact hk
  · rename_i h1 e1
    refine he X hok env [] h _ _ cells slots (Nat.zero_le _) (by omega) (by omega) e1 (gw_astorez' hok hd hn ?_)
    refine hr X hok _ h1 o _ _ (by omega) (by omega) ht ?_
    rw [Nat.add_assoc, Nat.add_assoc]
    exact hk
  · cases ht
theorem ok_setl_n {M : gz_Mi} {pc p1 c1 s1 c2 s2 k : Nat} {kk : Fin 4} {e : gz_Ex} {r : gz_Sx} (he : gz_OkE M 0 c1 s1 pc p1 e) (hd : decode M.1 p1 = .ok (.lstore_n kk, 1)) (hi : (kk : Nat) = k) (hn : k + 1 < M.2.1) (hr : gz_OkS M c2 s2 (p1 + 1) r) : gz_OkS M (c1 + c2) (s1 + s2) pc (gz_set2 k e r) := by
  intro X hok env h o cells slots hc hs ht hk
  unfold gz_set2 at ht
  split at ht
  · rename_i x h1 e1
    refine he X hok env [] h _ _ cells slots (Nat.zero_le _) (by omega) (by omega) e1 (gw_lstore hok hd hi hn ?_)
    refine hr X hok _ h1 o _ _ (by omega) (by omega) ht ?_
    rw [Nat.add_assoc, Nat.add_assoc]
    exact hk
  · cases ht
theorem ok_setl {M : gz_Mi} {pc p1 c1 s1 c2 s2 k : Nat}  {e : gz_Ex} {r : gz_Sx} (he : gz_OkE M 0 c1 s1 pc p1 e) (hd : decode M.1 p1 = .ok (.lstore k, 2))  (hn : k + 1 < M.2.1) (hr : gz_OkS M c2 s2 (p1 + 2) r) : gz_OkS M (c1 + c2) (s1 + s2) pc (gz_set2 k e r) := by
  intro X hok env h o cells slots hc hs ht hk
  unfold gz_set2 at ht
  split at ht
  · rename_i x h1 e1
    refine he X hok env [] h _ _ cells slots (Nat.zero_le _) (by omega) (by omega) e1 (gw_lstore' hok hd hn ?_)
    refine hr X hok _ h1 o _ _ (by omega) (by omega) ht ?_
    rw [Nat.add_assoc, Nat.add_assoc]
    exact hk
  · cases ht
theorem ok_inc {M : gz_Mi} {pc c2 s2 k : Nat} {n : Int} {v : Int32} {r : gz_Sx} (hd : decode M.1 pc = .ok (.iinc k n, 3)) (hv : Int32.ofInt n = v) (hn : k < M.2.1) (hr : gz_OkS M c2 s2 (pc + 3) r) : gz_OkS M c2 s2 pc (gz_inc k v r) := by
  intro X hok env h o cells slots hc hs ht hk
  unfold gz_inc at ht
  split at ht
  · rename_i x e1
    subst hv
    exact gw_iinc hok hd e1 hn (hr X hok _ h o _ _ hc hs ht hk)
  · cases ht
theorem ok_put {M : gz_Mi} {pc p1 p2 c1 s1 c2 s2 c3 s3 : Nat} {ty : FieldType} {a e : gz_Ex} {r : gz_Sx} (ha : gz_OkE M 0 c1 s1 pc p1 a) (he : gz_OkE M 1 c2 s2 p1 p2 e) {ci N k idx : Nat} {C : String} {T : u_T} (hcl : vwCl[ci]? = some (C, T, N)) (hk0 : k < N) (hin : ∀ w ∈ u_ws C T N, w ∈ gz_tb) (hl : Cond.fieldLink M.2.2.1 idx (T k).1 (T k).2.1 (T k).2.2.1 ∈ gz_tb) (ty0 : Nat → FieldType) (hty : ∀ k, k < N → parseFieldDescriptor (T k).2.2.1 = some (ty0 k)) (hnm : ∀ a, a < N → ∀ b, b < N → a ≠ b → (T a).2.1 ≠ (T b).2.1) (hfin : (T k).2.2.2 = false) (hte : ty0 k = ty) (hd : decode M.1 p2 = .ok (.putfield idx, 3)) (hr : gz_OkS M c3 s3 (p2 + 3) r) : gz_OkS M (c1 + c2 + c3) (s1 + s2 + s3) pc (gz_put ci N k ty a e r) := by
  intro X hok env h o cells slots hc hs ht hk
  unfold gz_put at ht
  split at ht
  · rename_i x h1 e1
    split at ht
    · rename_i v h2 e2
      split at ht
      · rename_i hq
        subst hte
        refine ha X hok env [] h _ _ cells slots (Nat.zero_le _) (by omega) (by omega) e1 ?_
        refine he X hok env _ _ _ _ _ _ (by rw [gz_sm_cons]; simp only [Value.category, gz_sm, List.map_nil, List.sum_nil]; omega) (by omega) (by omega) e2 ?_
        refine gw_put hok hcl hk0 hin hl ty0 hty hnm hfin hq.2 hd hq.1.1 hq.1.2 ?_
        refine hr X hok _ _ o _ _ (by omega) (by omega) ht ?_
        rw [show cells + c1 + c2 + c3 = cells + (c1 + c2 + c3) by omega, show slots + s1 + s2 + s3 = slots + (s1 + s2 + s3) by omega]
        exact hk
      · cases ht
    · cases ht
  · cases ht
theorem ok_putF {M : gz_Mi} {pc p1 p2 c1 s1 c2 s2 c3 s3 : Nat} {ty : FieldType} {a e : gz_Ex} {r : gz_Sx} (ha : gz_OkE M 0 c1 s1 pc p1 a) (he : gz_OkE M 1 c2 s2 p1 p2 e) {ci N k idx : Nat} {C : String} {T : u_T} (hcl : vwCl[ci]? = some (C, T, N)) (hk0 : k < N) (hin : ∀ w ∈ u_ws C T N, w ∈ gz_tb) (hl : Cond.fieldLink M.2.2.1 idx (T k).1 (T k).2.1 (T k).2.2.1 ∈ gz_tb) (ty0 : Nat → FieldType) (hty : ∀ k, k < N → parseFieldDescriptor (T k).2.2.1 = some (ty0 k)) (hnm : ∀ a, a < N → ∀ b, b < N → a ≠ b → (T a).2.1 ≠ (T b).2.1) (hfin : (T k).2.2.2 = true) (hini : M.2.2.2.2.2 = "<init>") (hdecl : (T k).1 = M.2.2.1) (hte : ty0 k = ty) (hd : decode M.1 p2 = .ok (.putfield idx, 3)) (hr : gz_OkS M c3 s3 (p2 + 3) r) : gz_OkS M (c1 + c2 + c3) (s1 + s2 + s3) pc (gz_put ci N k ty a e r) := by
  intro X hok env h o cells slots hc hs ht hk
  unfold gz_put at ht
  split at ht
  · rename_i x h1 e1
    split at ht
    · rename_i v h2 e2
      split at ht
      · rename_i hq
        subst hte
        refine ha X hok env [] h _ _ cells slots (Nat.zero_le _) (by omega) (by omega) e1 ?_
        refine he X hok env _ _ _ _ _ _ (by rw [gz_sm_cons]; simp only [Value.category, gz_sm, List.map_nil, List.sum_nil]; omega) (by omega) (by omega) e2 ?_
        refine gw_putF hok hcl hk0 hin hl ty0 hty hnm hfin hini hdecl hq.2 hd hq.1.1 hq.1.2 ?_
        refine hr X hok _ _ o _ _ (by omega) (by omega) ht ?_
        rw [show cells + c1 + c2 + c3 = cells + (c1 + c2 + c3) by omega, show slots + s1 + s2 + s3 = slots + (s1 + s2 + s3) by omega]
        exact hk
      · cases ht
    · cases ht
  · cases ht
theorem ok_iast {M : gz_Mi} {pc p1 p2 p3 c1 s1 c2 s2 c3 s3 c4 s4 : Nat} {a b e : gz_Ex} {r : gz_Sx} (ha : gz_OkE M 0 c1 s1 pc p1 a) (hb : gz_OkE M 1 c2 s2 p1 p2 b) (he : gz_OkE M 2 c3 s3 p2 p3 e) (hd : decode M.1 p3 = .ok (.iastore, 1)) (hr : gz_OkS M c4 s4 (p3 + 1) r) : gz_OkS M (c1 + c2 + c3 + c4) (s1 + s2 + s3 + s4) pc (gz_ast 100 a b e r) := by
  intro X hok env h o cells slots hc hs ht hk
  unfold gz_ast at ht
  split at ht
  · rename_i x h1 e1
    split at ht
    · rename_i j h2 e2
      split at ht
      · rename_i v h3 e3
        split at ht
        case isFalse => cases ht
        rename_i hq
        have hk2 : gz_post X M (cells + c1 + c2 + c3 + c4) (slots + s1 + s2 + s3 + s4) o := by
          rw [show cells + c1 + c2 + c3 + c4 = cells + (c1 + c2 + c3 + c4) by omega, show slots + s1 + s2 + s3 + s4 = slots + (s1 + s2 + s3 + s4) by omega]
          exact hk
        refine ha X hok env [] h _ _ cells slots (Nat.zero_le _) (by omega) (by omega) e1 ?_
        refine hb X hok env _ _ _ _ _ _ (by rw [gz_sm_cons]; simp only [Value.category, gz_sm, List.map_nil, List.sum_nil]; omega) (by omega) (by omega) e2 ?_
        refine he X hok env _ _ _ _ _ _ (by rw [gz_sm_cons, gz_sm_cons]; simp only [Value.category, gz_sm, List.map_nil, List.sum_nil]; omega) (by omega) (by omega) e3 ?_
        match v, hq.2 with
        | .int y, _ => exact gw_iast hok hd hq.1 (hr X hok _ _ o _ _ (by omega) (by omega) ht hk2)
      · cases ht
    · cases ht
  · cases ht
theorem ok_zast {M : gz_Mi} {pc p1 p2 p3 c1 s1 c2 s2 c3 s3 c4 s4 : Nat} {a b e : gz_Ex} {r : gz_Sx} (ha : gz_OkE M 0 c1 s1 pc p1 a) (hb : gz_OkE M 1 c2 s2 p1 p2 b) (he : gz_OkE M 2 c3 s3 p2 p3 e) (hd : decode M.1 p3 = .ok (.bastore, 1)) (hr : gz_OkS M c4 s4 (p3 + 1) r) : gz_OkS M (c1 + c2 + c3 + c4) (s1 + s2 + s3 + s4) pc (gz_ast 101 a b e r) := by
  intro X hok env h o cells slots hc hs ht hk
  unfold gz_ast at ht
  split at ht
  · rename_i x h1 e1
    split at ht
    · rename_i j h2 e2
      split at ht
      · rename_i v h3 e3
        split at ht
        case isFalse => cases ht
        rename_i hq
        have hk2 : gz_post X M (cells + c1 + c2 + c3 + c4) (slots + s1 + s2 + s3 + s4) o := by
          rw [show cells + c1 + c2 + c3 + c4 = cells + (c1 + c2 + c3 + c4) by omega, show slots + s1 + s2 + s3 + s4 = slots + (s1 + s2 + s3 + s4) by omega]
          exact hk
        refine ha X hok env [] h _ _ cells slots (Nat.zero_le _) (by omega) (by omega) e1 ?_
        refine hb X hok env _ _ _ _ _ _ (by rw [gz_sm_cons]; simp only [Value.category, gz_sm, List.map_nil, List.sum_nil]; omega) (by omega) (by omega) e2 ?_
        refine he X hok env _ _ _ _ _ _ (by rw [gz_sm_cons, gz_sm_cons]; simp only [Value.category, gz_sm, List.map_nil, List.sum_nil]; omega) (by omega) (by omega) e3 ?_
        match v, hq.2, ht with
        | .int y, hy, ht =>
          simp only [gz_aty, Bool.or_eq_true, beq_iff_eq] at hy
          exact gw_zast hok hd hy hq.1 (hr X hok _ _ o _ _ (by omega) (by omega) ht hk2)
      · cases ht
    · cases ht
  · cases ht
theorem ok_last {M : gz_Mi} {pc p1 p2 p3 c1 s1 c2 s2 c3 s3 c4 s4 : Nat} {a b e : gz_Ex} {r : gz_Sx} (ha : gz_OkE M 0 c1 s1 pc p1 a) (hb : gz_OkE M 1 c2 s2 p1 p2 b) (he : gz_OkE M 2 c3 s3 p2 p3 e) (hd : decode M.1 p3 = .ok (.lastore, 1)) (hr : gz_OkS M c4 s4 (p3 + 1) r) : gz_OkS M (c1 + c2 + c3 + c4) (s1 + s2 + s3 + s4) pc (gz_ast 102 a b e r) := by
  intro X hok env h o cells slots hc hs ht hk
  unfold gz_ast at ht
  split at ht
  · rename_i x h1 e1
    split at ht
    · rename_i j h2 e2
      split at ht
      · rename_i v h3 e3
        split at ht
        case isFalse => cases ht
        rename_i hq
        have hk2 : gz_post X M (cells + c1 + c2 + c3 + c4) (slots + s1 + s2 + s3 + s4) o := by
          rw [show cells + c1 + c2 + c3 + c4 = cells + (c1 + c2 + c3 + c4) by omega, show slots + s1 + s2 + s3 + s4 = slots + (s1 + s2 + s3 + s4) by omega]
          exact hk
        refine ha X hok env [] h _ _ cells slots (Nat.zero_le _) (by omega) (by omega) e1 ?_
        refine hb X hok env _ _ _ _ _ _ (by rw [gz_sm_cons]; simp only [Value.category, gz_sm, List.map_nil, List.sum_nil]; omega) (by omega) (by omega) e2 ?_
        refine he X hok env _ _ _ _ _ _ (by rw [gz_sm_cons, gz_sm_cons]; simp only [Value.category, gz_sm, List.map_nil, List.sum_nil]; omega) (by omega) (by omega) e3 ?_
        match v, hq.2 with
        | .long y, _ => exact gw_last hok hd hq.1 (hr X hok _ _ o _ _ (by omega) (by omega) ht hk2)
      · cases ht
    · cases ht
  · cases ht
theorem ok_aast103 {M : gz_Mi} {pc p1 p2 p3 c1 s1 c2 s2 c3 s3 c4 s4 : Nat} {a b e : gz_Ex} {r : gz_Sx} (ha : gz_OkE M 0 c1 s1 pc p1 a) (hb : gz_OkE M 1 c2 s2 p1 p2 b) (he : gz_OkE M 2 c3 s3 p2 p3 e) (hd : decode M.1 p3 = .ok (.aastore, 1)) (hr : gz_OkS M c4 s4 (p3 + 1) r) : gz_OkS M (c1 + c2 + c3 + c4) (s1 + s2 + s3 + s4) pc (gz_ast 103 a b e r) := by
  intro X hok env h o cells slots hc hs ht hk
  unfold gz_ast at ht
  split at ht
  · rename_i x h1 e1
    split at ht
    · rename_i j h2 e2
      split at ht
      · rename_i v h3 e3
        split at ht
        case isFalse => cases ht
        rename_i hq
        have hk2 : gz_post X M (cells + c1 + c2 + c3 + c4) (slots + s1 + s2 + s3 + s4) o := by
          rw [show cells + c1 + c2 + c3 + c4 = cells + (c1 + c2 + c3 + c4) by omega, show slots + s1 + s2 + s3 + s4 = slots + (s1 + s2 + s3 + s4) by omega]
          exact hk
        refine ha X hok env [] h _ _ cells slots (Nat.zero_le _) (by omega) (by omega) e1 ?_
        refine hb X hok env _ _ _ _ _ _ (by rw [gz_sm_cons]; simp only [Value.category, gz_sm, List.map_nil, List.sum_nil]; omega) (by omega) (by omega) e2 ?_
        refine he X hok env _ _ _ _ _ _ (by rw [gz_sm_cons, gz_sm_cons]; simp only [Value.category, gz_sm, List.map_nil, List.sum_nil]; omega) (by omega) (by omega) e3 ?_
        match v, hq.2, ht with
        | .ref y, hy, ht =>
          simp only [gz_aty, decide_eq_true_eq] at hy
          exact gw_aast103 hok hd hy.1 hy.2 hq.1 (hr X hok _ _ o _ _ (by omega) (by omega) ht hk2)
      · cases ht
    · cases ht
  · cases ht
theorem ok_aast104 {M : gz_Mi} {pc p1 p2 p3 c1 s1 c2 s2 c3 s3 c4 s4 : Nat} {a b e : gz_Ex} {r : gz_Sx} (ha : gz_OkE M 0 c1 s1 pc p1 a) (hb : gz_OkE M 1 c2 s2 p1 p2 b) (he : gz_OkE M 2 c3 s3 p2 p3 e) (hd : decode M.1 p3 = .ok (.aastore, 1)) (hr : gz_OkS M c4 s4 (p3 + 1) r) : gz_OkS M (c1 + c2 + c3 + c4) (s1 + s2 + s3 + s4) pc (gz_ast 104 a b e r) := by
  intro X hok env h o cells slots hc hs ht hk
  unfold gz_ast at ht
  split at ht
  · rename_i x h1 e1
    split at ht
    · rename_i j h2 e2
      split at ht
      · rename_i v h3 e3
        split at ht
        case isFalse => cases ht
        rename_i hq
        have hk2 : gz_post X M (cells + c1 + c2 + c3 + c4) (slots + s1 + s2 + s3 + s4) o := by
          rw [show cells + c1 + c2 + c3 + c4 = cells + (c1 + c2 + c3 + c4) by omega, show slots + s1 + s2 + s3 + s4 = slots + (s1 + s2 + s3 + s4) by omega]
          exact hk
        refine ha X hok env [] h _ _ cells slots (Nat.zero_le _) (by omega) (by omega) e1 ?_
        refine hb X hok env _ _ _ _ _ _ (by rw [gz_sm_cons]; simp only [Value.category, gz_sm, List.map_nil, List.sum_nil]; omega) (by omega) (by omega) e2 ?_
        refine he X hok env _ _ _ _ _ _ (by rw [gz_sm_cons, gz_sm_cons]; simp only [Value.category, gz_sm, List.map_nil, List.sum_nil]; omega) (by omega) (by omega) e3 ?_
        match v, hq.2, ht with
        | .ref y, hy, ht =>
          simp only [gz_aty, decide_eq_true_eq] at hy
          exact gw_aast104 hok hd hy.1 hy.2 hq.1 (hr X hok _ _ o _ _ (by omega) (by omega) ht hk2)
      · cases ht
    · cases ht
  · cases ht
theorem ok_aast105 {M : gz_Mi} {pc p1 p2 p3 c1 s1 c2 s2 c3 s3 c4 s4 : Nat} {a b e : gz_Ex} {r : gz_Sx} (ha : gz_OkE M 0 c1 s1 pc p1 a) (hb : gz_OkE M 1 c2 s2 p1 p2 b) (he : gz_OkE M 2 c3 s3 p2 p3 e) (hd : decode M.1 p3 = .ok (.aastore, 1)) (hr : gz_OkS M c4 s4 (p3 + 1) r) : gz_OkS M (c1 + c2 + c3 + c4) (s1 + s2 + s3 + s4) pc (gz_ast 105 a b e r) := by
  intro X hok env h o cells slots hc hs ht hk
  unfold gz_ast at ht
  split at ht
  · rename_i x h1 e1
    split at ht
    · rename_i j h2 e2
      split at ht
      · rename_i v h3 e3
        split at ht
        case isFalse => cases ht
        rename_i hq
        have hk2 : gz_post X M (cells + c1 + c2 + c3 + c4) (slots + s1 + s2 + s3 + s4) o := by
          rw [show cells + c1 + c2 + c3 + c4 = cells + (c1 + c2 + c3 + c4) by omega, show slots + s1 + s2 + s3 + s4 = slots + (s1 + s2 + s3 + s4) by omega]
          exact hk
        refine ha X hok env [] h _ _ cells slots (Nat.zero_le _) (by omega) (by omega) e1 ?_
        refine hb X hok env _ _ _ _ _ _ (by rw [gz_sm_cons]; simp only [Value.category, gz_sm, List.map_nil, List.sum_nil]; omega) (by omega) (by omega) e2 ?_
        refine he X hok env _ _ _ _ _ _ (by rw [gz_sm_cons, gz_sm_cons]; simp only [Value.category, gz_sm, List.map_nil, List.sum_nil]; omega) (by omega) (by omega) e3 ?_
        match v, hq.2, ht with
        | .ref y, hy, ht =>
          simp only [gz_aty, decide_eq_true_eq] at hy
          exact gw_aast105 hok hd hy.1 hy.2 hq.1 (hr X hok _ _ o _ _ (by omega) (by omega) ht hk2)
      · cases ht
    · cases ht
  · cases ht
theorem ok_pop {M : gz_Mi} {pc p1 c1 s1 c2 s2 : Nat} {e : gz_Ex} {r : gz_Sx} (he : gz_OkE M 0 c1 s1 pc p1 e) (hd : decode M.1 p1 = .ok (.pop, 1)) (hr : gz_OkS M c2 s2 (p1 + 1) r) : gz_OkS M (c1 + c2) (s1 + s2) pc (gz_pop e r) := by
  intro X hok env h o cells slots hc hs ht hk
  unfold gz_pop at ht
  split at ht
  · rename_i x h1 e1
    refine he X hok env [] h _ _ cells slots (Nat.zero_le _) (by omega) (by omega) e1 (gw_pop hok hd rfl ?_)
    refine hr X hok _ h1 o _ _ (by omega) (by omega) ht ?_
    rw [Nat.add_assoc, Nat.add_assoc]
    exact hk
  · cases ht
theorem ok_vs {M : gz_Mi} {pc p1 n c1 s1 c2 s2 idx : Nat} {as : gz_Ax} {r : gz_Sx} (ha : gz_OkA M 0 c1 s1 pc p1 n as) {y : MethodName} {cc' : ByteArray} {maxL : Nat} {ret : Option FieldType} {rm : Room} {sem : gz_Me} (hM : gz_Mt y cc' maxL ret rm sem) (hcode : Cond.code y cc' maxL ret ∈ gz_tb) (hini : Cond.initialized y.cls ∈ gz_tb) (hdesc : y.cls ≠ "java/lang/invoke/MethodHandle" ∧ y.cls ≠ "java/lang/invoke/VarHandle" ∧ (parseMethodDescriptor y.desc).map (fun d => d.parameters.length) = some n) (hrf : rm.frames + 1 ≤ M.2.2.2.1) (hrl : 8 + (maxL + 11) + rm.locals ≤ M.2.2.2.2.1) (hl : Cond.methodLink M.2.2.1 idx y ∈ gz_tb) (hstt : Cond.static y ∈ gz_tb) (hd : decode M.1 p1 = .ok (.invokestatic idx, 3)) (hr : gz_OkS M c2 s2 (p1 + 3) r) : gz_OkS M (c1 + rm.cells + c2) (s1 + rm.slots + s2) pc (gz_vs sem as r) := by
  intro X hok env h o cells slots hc hs ht hk
  unfold gz_vs at ht
  split at ht
  · rename_i us h1 e1
    split at ht
    · rename_i h2 e2
      obtain ⟨g1, g2⟩ := ha X hok env [] h us h1 cells slots (Nat.zero_le _) (by omega) (by omega) e1
      refine g2 (gw_callS hok hM e2 hcode hini hdesc g1 hrf hrl hl hstt hd (Nat.zero_le _) (by omega) (by omega) ?_)
      refine hr X hok _ h2 o _ _ (by omega) (by omega) ht ?_
      rw [show cells + c1 + rm.cells + c2 = cells + (c1 + rm.cells + c2) by omega, show slots + s1 + rm.slots + s2 = slots + (s1 + rm.slots + s2) by omega]
      exact hk
    · cases ht
  · cases ht
theorem ok_vv {M : gz_Mi} {pc p1 n c1 s1 c2 s2 idx ci N : Nat} {as : gz_Ax} {r : gz_Sx} (ha : gz_OkA M 0 c1 s1 pc p1 (n + 1) as) {y : MethodName} {cc' : ByteArray} {maxL : Nat} {ret : Option FieldType} {rm : Room} {sem : gz_Me} (hM : gz_Mt y cc' maxL ret rm sem) {C : String} {T : u_T} (hcl : vwCl[ci]? = some (C, T, N)) (hcode : Cond.code y cc' maxL ret ∈ gz_tb) (hini : Cond.initialized y.cls ∈ gz_tb) (hdesc : y.cls ≠ "java/lang/invoke/MethodHandle" ∧ y.cls ≠ "java/lang/invoke/VarHandle" ∧ (parseMethodDescriptor y.desc).map (fun d => d.parameters.length) = some n) (hrf : rm.frames + 1 ≤ M.2.2.2.1) (hrl : 8 + (maxL + 11) + rm.locals ≤ M.2.2.2.2.1) (hl : Cond.methodLink M.2.2.1 idx y ∈ gz_tb) (hin : Cond.instanceMethod y ∈ gz_tb) (hse : Cond.selects C y y ∈ gz_tb) (hd : decode M.1 p1 = .ok (.invokevirtual idx, 3)) (hr : gz_OkS M c2 s2 (p1 + 3) r) : gz_OkS M (c1 + rm.cells + c2) (s1 + rm.slots + s2) pc (gz_vv ci N sem as r) := by
  intro X hok env h o cells slots hc hs ht hk
  unfold gz_vv at ht
  split at ht
  · rename_i x us h1 e1
    split at ht
    · rename_i hq
      split at ht
      · rename_i h2 e2
        obtain ⟨g1, g2⟩ := ha X hok env [] h _ h1 cells slots (Nat.zero_le _) (by omega) (by omega) e1
        refine g2 ?_
        rw [List.reverse_cons, List.append_assoc, List.singleton_append]
        refine gw_callV hok hM e2 hcl hcode hini hdesc (Nat.succ.inj g1) hrf hrl hl hin hse hd hq.1 hq.2 (Nat.zero_le _) (by omega) (by omega) ?_
        refine hr X hok _ h2 o _ _ (by omega) (by omega) ht ?_
        rw [show cells + c1 + rm.cells + c2 = cells + (c1 + rm.cells + c2) by omega, show slots + s1 + rm.slots + s2 = slots + (s1 + rm.slots + s2) by omega]
        exact hk
      · cases ht
    · cases ht
  · cases ht
theorem ok_sup {M : gz_Mi} {pc p1 c1 s1 c2 s2 idx : Nat} {e : gz_Ex} {r : gz_Sx} (he : gz_OkE M 0 c1 s1 pc p1 e) (hl : Cond.methodLink M.2.2.1 idx Lib.objectInit ∈ gz_tb) (hin : Cond.instanceMethod Lib.objectInit ∈ gz_tb) (hcode : Cond.code Lib.objectInit ⟨#[0xb1]⟩ 1 none ∈ gz_tb) (hrf : 1 ≤ M.2.2.2.1) (hrl : 12 ≤ M.2.2.2.2.1) (hd : decode M.1 p1 = .ok (.invokespecial idx, 3)) (hr : gz_OkS M c2 s2 (p1 + 3) r) : gz_OkS M (c1 + c2) (s1 + s2) pc (gz_sup e r) := by
  intro X hok env h o cells slots hc hs ht hk
  unfold gz_sup at ht
  split at ht
  · rename_i x h1 e1
    refine he X hok env [] h _ _ cells slots (Nat.zero_le _) (by omega) (by omega) e1 (gw_obj (st := []) hok hl hin hcode hrf hrl hd ?_)
    refine hr X hok _ h1 o _ _ (by omega) (by omega) ht ?_
    rw [Nat.add_assoc, Nat.add_assoc]
    exact hk
  · cases ht
theorem ok_rv {M : gz_Mi} {pc : Nat} (hd : decode M.1 pc = .ok (.return_, 1)) : gz_OkS M 0 0 pc gz_rv := by
  intro X hok env h o cells slots hc hs ht hk
  simp only [gz_rv, Option.some.injEq] at ht
  subst ht
  exact hk pc env hd
theorem ok_ri {M : gz_Mi} {pc p1 c1 s1 : Nat} {e : gz_Ex} (he : gz_OkE M 0 c1 s1 pc p1 e) (hd : decode M.1 p1 = .ok (.ireturn, 1)) : gz_OkS M c1 s1 pc (gz_ri e) := by
  intro X hok env h o cells slots hc hs ht hk
  unfold gz_ri at ht
  split at ht
  · rename_i x h1 e1
    simp only [Option.some.injEq] at ht
    subst ht
    exact he X hok env [] h _ _ cells slots (Nat.zero_le _) (by omega) (by omega) e1 (hk p1 env hd)
  · cases ht
theorem ok_rl {M : gz_Mi} {pc p1 c1 s1 : Nat} {e : gz_Ex} (he : gz_OkE M 0 c1 s1 pc p1 e) (hd : decode M.1 p1 = .ok (.lreturn, 1)) : gz_OkS M c1 s1 pc (gz_rl e) := by
  intro X hok env h o cells slots hc hs ht hk
  unfold gz_rl at ht
  split at ht
  · rename_i x h1 e1
    simp only [Option.some.injEq] at ht
    subst ht
    exact he X hok env [] h _ _ cells slots (Nat.zero_le _) (by omega) (by omega) e1 (hk p1 env hd)
  · cases ht
theorem ok_ra {M : gz_Mi} {pc p1 c1 s1 : Nat} {e : gz_Ex} (he : gz_OkE M 0 c1 s1 pc p1 e) (hd : decode M.1 p1 = .ok (.areturn, 1)) : gz_OkS M c1 s1 pc (gz_ra e) := by
  intro X hok env h o cells slots hc hs ht hk
  unfold gz_ra at ht
  split at ht
  · rename_i x h1 e1
    simp only [Option.some.injEq] at ht
    subst ht
    exact he X hok env [] h _ _ cells slots (Nat.zero_le _) (by omega) (by omega) e1 (hk p1 env hd)
  · rename_i h1 e1
    simp only [Option.some.injEq] at ht
    subst ht
    exact he X hok env [] h _ _ cells slots (Nat.zero_le _) (by omega) (by omega) e1 (hk p1 env hd)
  · cases ht
theorem ok_if {M : gz_Mi} {pc X N c1 s1 c2 s2 c3 s3 : Nat} {j : gz_Jx} {a b : gz_Sx} (hj : gz_OkJ M 0 c1 s1 pc X N j) (ha : gz_OkS M c2 s2 X a) (hb : gz_OkS M c3 s3 N b) : gz_OkS M (c1 + c2 + c3) (s1 + s2 + s3) pc (gz_if j a b) := by
  intro X' hok env h o cells slots hc hs ht hk
  unfold gz_if at ht
  split at ht
  · rename_i h1 e1
    refine hj X' hok env [] h _ _ cells slots (Nat.zero_le _) (by omega) (by omega) e1 (fun _ => ?_) (fun q => by cases q)
    exact ha X' hok env h1 o _ _ (by omega) (by omega) ht (gz_post.widen (by omega) (by omega) hk)
  · rename_i h1 e1
    refine hj X' hok env [] h _ _ cells slots (Nat.zero_le _) (by omega) (by omega) e1 (fun q => by cases q) (fun _ => ?_)
    exact hb X' hok env h1 o _ _ (by omega) (by omega) ht (gz_post.widen (by omega) (by omega) hk)
  · cases ht
theorem ok_seq {M : gz_Mi} {pc L k c1 s1 c2 s2 : Nat} {a b : gz_Sx} (ha : gz_OkS M c1 s1 pc a) (hb : gz_OkS M c2 s2 L b) : gz_OkS M (c1 + c2) (s1 + s2) pc (gz_seq L k a b) := by
  intro X hok env h o cells slots hc hs ht hk
  unfold gz_seq at ht
  split at ht
  · rename_i l env1 h1 e1
    refine ha X hok env h _ cells slots (by omega) (by omega) e1 ?_
    split at ht
    · rename_i hl
      subst hl
      refine gz_W.take k (hb X hok _ h1 o _ _ (by omega) (by omega) ht ?_)
      rw [Nat.add_assoc, Nat.add_assoc]
      exact hk
    · simp only [Option.some.injEq] at ht
      subst ht
      exact gz_post.widen (by omega) (by omega) hk
  · rename_i q e1
    simp only [Option.some.injEq] at ht
    subst ht
    exact ha X hok env h _ cells slots (by omega) (by omega) e1 (gz_post.widen (by omega) (by omega) hk)
  · cases ht
theorem ok_it {M : gz_Mi} {L k : Nat} {a : gz_Sx} (ha : gz_OkS M 0 0 L a) : ∀ n, gz_OkS M 0 0 L (gz_it L k a n) := by
  intro n
  induction n with
  | zero => intro X hok env h o cells slots hc hs ht hk; cases ht
  | succ n ih => exact ok_seq (c1 := 0) (s1 := 0) (c2 := 0) (s2 := 0) ha ih
theorem ok_loop {M : gz_Mi} {L k c1 s1 : Nat} {a : gz_Sx} (ha : gz_OkS M c1 s1 L a) (hc1 : c1 = 0) (hs1 : s1 = 0) : gz_OkS M 0 0 L (gz_loop L k a) := by
  intro X hok env h o cells slots hc hs ht hk
  subst hc1
  subst hs1
  obtain ⟨n, hn⟩ := gz_loop_inv ht
  exact gz_W.take k (ok_it ha n X hok _ h o cells slots hc hs hn hk)
/-- a switch over a table -/
def gz_sw (e : gz_Ex) (lo : Int) (ss : List gz_Sx) (sd : gz_Sx) : gz_Sx := fun env h => match e env [] h with
  | some (.int x, h1) => if x.toInt < lo ∨ lo + (ss.length : Int) ≤ x.toInt then sd env h1 else (match ss[(x.toInt - lo).toNat]? with
    | some s => s env h1
    | none => none)
  | _ => none
theorem gw_tabO {X : gz_Cx} {M : gz_Mi} {cells slots pc : Nat} {env st : List Value} {h : gz_H} (hok : gz_ok X M) {dflt lo hi : Int} {offs : Array Int} {len : Nat} {x : Int32} {tgt : Nat} (hd : decode M.1 pc = .ok (.tableswitch dflt lo hi offs, len)) (hx : x.toInt < lo ∨ hi < x.toInt) (ht : (pc : Int) + dflt = (tgt : Int)) (hk : gz_W X M.2.1 cells slots tgt env st h) : gz_W X M.2.1 cells slots pc env (.int x :: st) h := by
  obtain ⟨p, l, e, R, s, m, args, below, meth, c, Q, D, cA, base, b⟩ := X
  obtain ⟨cc, nL, own, fr, lo2, mn⟩ := M
  obtain ⟨hex, hb, hml, hown, hts, hK, hbs, hlk, hfr, hlo, hmn⟩ := hok
  intro H locs ls hR hS hL
  exact lv_tableOut hex hb hd hx ht (hk H locs ls hR hS hL)
theorem gw_tabI {X : gz_Cx} {M : gz_Mi} {cells slots pc : Nat} {env st : List Value} {h : gz_H} (hok : gz_ok X M) {dflt lo hi : Int} {offs : Array Int} {len : Nat} {x : Int32} {off : Int} {tgt : Nat} (hd : decode M.1 pc = .ok (.tableswitch dflt lo hi offs, len)) (h1 : ¬ x.toInt < lo) (h2 : ¬ hi < x.toInt) (ho : offs[(x.toInt - lo).toNat]? = some off) (ht : (pc : Int) + off = (tgt : Int)) (hk : gz_W X M.2.1 cells slots tgt env st h) : gz_W X M.2.1 cells slots pc env (.int x :: st) h := by
  obtain ⟨p, l, e, R, s, m, args, below, meth, c, Q, D, cA, base, b⟩ := X
  obtain ⟨cc, nL, own, fr, lo2, mn⟩ := M
  obtain ⟨hex, hb, hml, hown, hts, hK, hbs, hlk, hfr, hlo, hmn⟩ := hok
  intro H locs ls hR hS hL
  exact lv_tableIn hex hb hd h1 h2 ho ht (hk H locs ls hR hS hL)
theorem ok_sw {M : gz_Mi} {pc p1 c1 s1 c2 s2 td len : Nat} {e : gz_Ex} {lo hi dflt : Int} {offs : Array Int} {ts : List Nat} {ss : List gz_Sx} {sd : gz_Sx} (he : gz_OkE M 0 c1 s1 pc p1 e) (hd : decode M.1 p1 = .ok (.tableswitch dflt lo hi offs, len)) (hhi : hi + 1 = lo + (ss.length : Int)) (htd : (p1 : Int) + dflt = (td : Int)) (hts : offs.toList.map (fun o => (p1 : Int) + o) = ts.map (fun t : Nat => (t : Int))) (hl : ts.length = ss.length) (hsd : gz_OkS M c2 s2 td sd) (hss : ∀ q ∈ ts.zip ss, gz_OkS M c2 s2 q.1 q.2) : gz_OkS M (c1 + c2) (s1 + s2) pc (gz_sw e lo ss sd) := by
  intro X hok env h o cells slots hc hs ht hk
  unfold gz_sw at ht
  split at ht
  · rename_i x h1 e1
    refine he X hok env [] h _ _ cells slots (Nat.zero_le _) (by omega) (by omega) e1 ?_
    have hk2 : gz_post X M (cells + c1 + c2) (slots + s1 + s2) o := by rw [Nat.add_assoc, Nat.add_assoc]; exact hk
    split at ht
    · rename_i hx
      exact gw_tabO hok hd (by omega) htd (hsd X hok _ h1 o _ _ (by omega) (by omega) ht hk2)
    · rename_i hx
      split at ht
      · rename_i s es
        have hi2 : (x.toInt - lo).toNat < ss.length := (List.getElem?_eq_some_iff.mp es).1
        have h3 : (offs.toList.map (fun o => (p1 : Int) + o))[(x.toInt - lo).toNat]? = (ts.map (fun t : Nat => (t : Int)))[(x.toInt - lo).toNat]? := by rw [hts]
        rw [List.getElem?_map, List.getElem?_map, List.getElem?_eq_getElem (by omega : (x.toInt - lo).toNat < ts.length)] at h3
        cases ho : offs.toList[(x.toInt - lo).toNat]? with
        | none => rw [ho] at h3; cases h3
        | some off =>
          rw [ho] at h3
          simp only [Option.map_some, Option.some.injEq] at h3
          refine gw_tabI hok hd (by omega) (by omega) (by rw [← Array.getElem?_toList]; exact ho) h3 ?_
          refine hss (ts[(x.toInt - lo).toNat]'(by omega), s) ?_ X hok _ h1 o _ _ (by omega) (by omega) ht hk2
          rw [List.mem_iff_getElem?]
          refine ⟨(x.toInt - lo).toNat, ?_⟩
          rw [List.getElem?_zip_eq_some]
          exact ⟨List.getElem?_eq_getElem _, es⟩
      · cases ht
  · cases ht
end
