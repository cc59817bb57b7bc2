section
-- ===== PART A: goes FIRST, ahead of the names: the tables' words, and 'selects' of the private methods out of them =====
/-- a private method of a class that the tables say can be made, by its rows of tables_1 -/
def lw_okq (q : MethodName × Nat) : Prop := (q.1.cls ≠ "java/lang/invoke/MethodHandle" ∧ q.1.cls ≠ "java/lang/invoke/VarHandle") ∧ Cond.instantiable q.1.cls q.2 ∈ tables_1 ∧ Cond.privateMethod q.1 ∈ tables_1 ∧ Cond.instanceMethod q.1 ∈ tables_1
theorem lw_p0 : lw_okq (⟨"SmallRooms", "finding", "(I)I"⟩, 7) := ⟨⟨by decide +kernel, by decide +kernel⟩, List.mem_of_getElem? (i := 19) (by decide +kernel), List.mem_of_getElem? (i := 352) (by decide +kernel), List.mem_of_getElem? (i := 353) (by decide +kernel)⟩
theorem lw_p1 : lw_okq (⟨"SmallRooms", "keep", "()V"⟩, 7) := ⟨⟨by decide +kernel, by decide +kernel⟩, List.mem_of_getElem? (i := 19) (by decide +kernel), List.mem_of_getElem? (i := 358) (by decide +kernel), List.mem_of_getElem? (i := 359) (by decide +kernel)⟩
theorem lw_p2 : lw_okq (⟨"SmallRooms$Log", "dropOldest", "()V"⟩, 4) := ⟨⟨by decide +kernel, by decide +kernel⟩, List.mem_of_getElem? (i := 145) (by decide +kernel), List.mem_of_getElem? (i := 540) (by decide +kernel), List.mem_of_getElem? (i := 541) (by decide +kernel)⟩
theorem lw_p3 : lw_okq (⟨"SmallRooms$Reckoning", "countChildren", "(LSmallRooms$Nursery;I)V"⟩, 2) := ⟨⟨by decide +kernel, by decide +kernel⟩, List.mem_of_getElem? (i := 252) (by decide +kernel), List.mem_of_getElem? (i := 592) (by decide +kernel), List.mem_of_getElem? (i := 593) (by decide +kernel)⟩
theorem lw_p4 : lw_okq (⟨"SmallRooms$Reckoning", "workOut", "(LSmallRooms$Ratio;)J"⟩, 2) := ⟨⟨by decide +kernel, by decide +kernel⟩, List.mem_of_getElem? (i := 252) (by decide +kernel), List.mem_of_getElem? (i := 605) (by decide +kernel), List.mem_of_getElem? (i := 606) (by decide +kernel)⟩
theorem lw_p5 : lw_okq (⟨"SmallRooms$Reckoning", "numberOf", "(I)I"⟩, 2) := ⟨⟨by decide +kernel, by decide +kernel⟩, List.mem_of_getElem? (i := 252) (by decide +kernel), List.mem_of_getElem? (i := 621) (by decide +kernel), List.mem_of_getElem? (i := 622) (by decide +kernel)⟩
theorem lw_p6 : lw_okq (⟨"SmallRooms$Reckoning", "usualNeed", "()J"⟩, 2) := ⟨⟨by decide +kernel, by decide +kernel⟩, List.mem_of_getElem? (i := 252) (by decide +kernel), List.mem_of_getElem? (i := 626) (by decide +kernel), List.mem_of_getElem? (i := 627) (by decide +kernel)⟩
theorem lw_p7 : lw_okq (⟨"SmallRooms", "hasEnough", "(I)Z"⟩, 7) := ⟨⟨by decide +kernel, by decide +kernel⟩, List.mem_of_getElem? (i := 19) (by decide +kernel), List.mem_of_getElem? (i := 648) (by decide +kernel), List.mem_of_getElem? (i := 649) (by decide +kernel)⟩
theorem lw_p8 : lw_okq (⟨"SmallRooms", "planMoves", "()Z"⟩, 7) := ⟨⟨by decide +kernel, by decide +kernel⟩, List.mem_of_getElem? (i := 19) (by decide +kernel), List.mem_of_getElem? (i := 665) (by decide +kernel), List.mem_of_getElem? (i := 666) (by decide +kernel)⟩
theorem lw_p9 : lw_okq (⟨"SmallRooms$Planner", "sumWorths", "(LSmallRooms$Hands;)V"⟩, 5) := ⟨⟨by decide +kernel, by decide +kernel⟩, List.mem_of_getElem? (i := 266) (by decide +kernel), List.mem_of_getElem? (i := 678) (by decide +kernel), List.mem_of_getElem? (i := 679) (by decide +kernel)⟩
theorem lw_p10 : lw_okq (⟨"SmallRooms$Planner", "sumCosts", "(LSmallRooms$Hands;I)V"⟩, 5) := ⟨⟨by decide +kernel, by decide +kernel⟩, List.mem_of_getElem? (i := 266) (by decide +kernel), List.mem_of_getElem? (i := 692) (by decide +kernel), List.mem_of_getElem? (i := 693) (by decide +kernel)⟩
theorem lw_p11 : lw_okq (⟨"SmallRooms$Planner", "leastWith", "(IIZ)I"⟩, 5) := ⟨⟨by decide +kernel, by decide +kernel⟩, List.mem_of_getElem? (i := 266) (by decide +kernel), List.mem_of_getElem? (i := 703) (by decide +kernel), List.mem_of_getElem? (i := 704) (by decide +kernel)⟩
theorem lw_p12 : lw_okq (⟨"SmallRooms$Log", "isMissedFrom", "(II)Z"⟩, 4) := ⟨⟨by decide +kernel, by decide +kernel⟩, List.mem_of_getElem? (i := 145) (by decide +kernel), List.mem_of_getElem? (i := 757) (by decide +kernel), List.mem_of_getElem? (i := 758) (by decide +kernel)⟩
theorem lw_p13 : lw_okq (⟨"SmallRooms$ShiftPlan", "endedAt", "(II)I"⟩, 1) := ⟨⟨by decide +kernel, by decide +kernel⟩, List.mem_of_getElem? (i := 288) (by decide +kernel), List.mem_of_getElem? (i := 782) (by decide +kernel), List.mem_of_getElem? (i := 783) (by decide +kernel)⟩
theorem lw_p14 : lw_okq (⟨"SmallRooms", "sheetFinding", "(I)I"⟩, 7) := ⟨⟨by decide +kernel, by decide +kernel⟩, List.mem_of_getElem? (i := 19) (by decide +kernel), List.mem_of_getElem? (i := 798) (by decide +kernel), List.mem_of_getElem? (i := 799) (by decide +kernel)⟩
theorem lw_p15 : lw_okq (⟨"SmallRooms$Children", "waiterOf", "(ZI)I"⟩, 12) := ⟨⟨by decide +kernel, by decide +kernel⟩, List.mem_of_getElem? (i := 81) (by decide +kernel), List.mem_of_getElem? (i := 858) (by decide +kernel), List.mem_of_getElem? (i := 859) (by decide +kernel)⟩
def lw_privs_1 : List (MethodName × Nat) := [(⟨"SmallRooms", "finding", "(I)I"⟩, 7), (⟨"SmallRooms", "keep", "()V"⟩, 7), (⟨"SmallRooms$Log", "dropOldest", "()V"⟩, 4), (⟨"SmallRooms$Reckoning", "countChildren", "(LSmallRooms$Nursery;I)V"⟩, 2), (⟨"SmallRooms$Reckoning", "workOut", "(LSmallRooms$Ratio;)J"⟩, 2), (⟨"SmallRooms$Reckoning", "numberOf", "(I)I"⟩, 2), (⟨"SmallRooms$Reckoning", "usualNeed", "()J"⟩, 2), (⟨"SmallRooms", "hasEnough", "(I)Z"⟩, 7), (⟨"SmallRooms", "planMoves", "()Z"⟩, 7), (⟨"SmallRooms$Planner", "sumWorths", "(LSmallRooms$Hands;)V"⟩, 5), (⟨"SmallRooms$Planner", "sumCosts", "(LSmallRooms$Hands;I)V"⟩, 5), (⟨"SmallRooms$Planner", "leastWith", "(IIZ)I"⟩, 5), (⟨"SmallRooms$Log", "isMissedFrom", "(II)Z"⟩, 4), (⟨"SmallRooms$ShiftPlan", "endedAt", "(II)I"⟩, 1), (⟨"SmallRooms", "sheetFinding", "(I)I"⟩, 7), (⟨"SmallRooms$Children", "waiterOf", "(ZI)I"⟩, 12)]
theorem lw_r1 : ∀ q ∈ lw_privs_1, lw_okq q := List.forall_mem_cons.mpr ⟨lw_p0, List.forall_mem_cons.mpr ⟨lw_p1, List.forall_mem_cons.mpr ⟨lw_p2, List.forall_mem_cons.mpr ⟨lw_p3, List.forall_mem_cons.mpr ⟨lw_p4, List.forall_mem_cons.mpr ⟨lw_p5, List.forall_mem_cons.mpr ⟨lw_p6, List.forall_mem_cons.mpr ⟨lw_p7, List.forall_mem_cons.mpr ⟨lw_p8, List.forall_mem_cons.mpr ⟨lw_p9, List.forall_mem_cons.mpr ⟨lw_p10, List.forall_mem_cons.mpr ⟨lw_p11, List.forall_mem_cons.mpr ⟨lw_p12, List.forall_mem_cons.mpr ⟨lw_p13, List.forall_mem_cons.mpr ⟨lw_p14, List.forall_mem_cons.mpr ⟨lw_p15, fun _ h => absurd h List.not_mem_nil⟩⟩⟩⟩⟩⟩⟩⟩⟩⟩⟩⟩⟩⟩⟩⟩
theorem lw_p16 : lw_okq (⟨"SmallRooms", "leastMonth", "(I)I"⟩, 7) := ⟨⟨by decide +kernel, by decide +kernel⟩, List.mem_of_getElem? (i := 19) (by decide +kernel), List.mem_of_getElem? (i := 866) (by decide +kernel), List.mem_of_getElem? (i := 867) (by decide +kernel)⟩
theorem lw_p17 : lw_okq (⟨"SmallRooms$Nursery", "fits", "(II)Z"⟩, 11) := ⟨⟨by decide +kernel, by decide +kernel⟩, List.mem_of_getElem? (i := 27) (by decide +kernel), List.mem_of_getElem? (i := 874) (by decide +kernel), List.mem_of_getElem? (i := 875) (by decide +kernel)⟩
theorem lw_p18 : lw_okq (⟨"SmallRooms$Ratio", "firstWrong", "()I"⟩, 3) := ⟨⟨by decide +kernel, by decide +kernel⟩, List.mem_of_getElem? (i := 166) (by decide +kernel), List.mem_of_getElem? (i := 930) (by decide +kernel), List.mem_of_getElem? (i := 931) (by decide +kernel)⟩
theorem lw_p19 : lw_okq (⟨"SmallRoomsModel", "finding", "(I)I"⟩, 20) := ⟨⟨by decide +kernel, by decide +kernel⟩, List.mem_of_getElem? (i := 976) (by decide +kernel), List.mem_of_getElem? (i := 1051) (by decide +kernel), List.mem_of_getElem? (i := 1052) (by decide +kernel)⟩
theorem lw_p20 : lw_okq (⟨"SmallRoomsModel", "keep", "()V"⟩, 20) := ⟨⟨by decide +kernel, by decide +kernel⟩, List.mem_of_getElem? (i := 976) (by decide +kernel), List.mem_of_getElem? (i := 1056) (by decide +kernel), List.mem_of_getElem? (i := 1057) (by decide +kernel)⟩
theorem lw_p21 : lw_okq (⟨"SmallRoomsModel", "isHand", "(I)Z"⟩, 20) := ⟨⟨by decide +kernel, by decide +kernel⟩, List.mem_of_getElem? (i := 976) (by decide +kernel), List.mem_of_getElem? (i := 1068) (by decide +kernel), List.mem_of_getElem? (i := 1069) (by decide +kernel)⟩
theorem lw_p22 : lw_okq (⟨"SmallRoomsModel", "isTrained", "(I)Z"⟩, 20) := ⟨⟨by decide +kernel, by decide +kernel⟩, List.mem_of_getElem? (i := 976) (by decide +kernel), List.mem_of_getElem? (i := 1072) (by decide +kernel), List.mem_of_getElem? (i := 1073) (by decide +kernel)⟩
theorem lw_p23 : lw_okq (⟨"SmallRoomsModel", "isChild", "(I)Z"⟩, 20) := ⟨⟨by decide +kernel, by decide +kernel⟩, List.mem_of_getElem? (i := 976) (by decide +kernel), List.mem_of_getElem? (i := 1080) (by decide +kernel), List.mem_of_getElem? (i := 1081) (by decide +kernel)⟩
theorem lw_p24 : lw_okq (⟨"SmallRoomsModel", "roomIn", "(II)I"⟩, 20) := ⟨⟨by decide +kernel, by decide +kernel⟩, List.mem_of_getElem? (i := 976) (by decide +kernel), List.mem_of_getElem? (i := 1095) (by decide +kernel), List.mem_of_getElem? (i := 1096) (by decide +kernel)⟩
theorem lw_p25 : lw_okq (⟨"SmallRoomsModel", "takes", "(II)Z"⟩, 20) := ⟨⟨by decide +kernel, by decide +kernel⟩, List.mem_of_getElem? (i := 976) (by decide +kernel), List.mem_of_getElem? (i := 1099) (by decide +kernel), List.mem_of_getElem? (i := 1100) (by decide +kernel)⟩
theorem lw_p26 : lw_okq (⟨"SmallRoomsModel", "isRoom", "(I)Z"⟩, 20) := ⟨⟨by decide +kernel, by decide +kernel⟩, List.mem_of_getElem? (i := 976) (by decide +kernel), List.mem_of_getElem? (i := 1119) (by decide +kernel), List.mem_of_getElem? (i := 1120) (by decide +kernel)⟩
theorem lw_p27 : lw_okq (⟨"SmallRoomsModel", "childrenIn", "(I)I"⟩, 20) := ⟨⟨by decide +kernel, by decide +kernel⟩, List.mem_of_getElem? (i := 976) (by decide +kernel), List.mem_of_getElem? (i := 1123) (by decide +kernel), List.mem_of_getElem? (i := 1124) (by decide +kernel)⟩
theorem lw_p28 : lw_okq (⟨"SmallRoomsModel", "leadRoll", "(II)V"⟩, 20) := ⟨⟨by decide +kernel, by decide +kernel⟩, List.mem_of_getElem? (i := 976) (by decide +kernel), List.mem_of_getElem? (i := 1130) (by decide +kernel), List.mem_of_getElem? (i := 1131) (by decide +kernel)⟩
theorem lw_p29 : lw_okq (⟨"SmallRoomsModel", "lead", "(IIIIII)V"⟩, 20) := ⟨⟨by decide +kernel, by decide +kernel⟩, List.mem_of_getElem? (i := 976) (by decide +kernel), List.mem_of_getElem? (i := 1134) (by decide +kernel), List.mem_of_getElem? (i := 1135) (by decide +kernel)⟩
theorem lw_p30 : lw_okq (⟨"SmallRoomsModel", "leadSleep", "(II)V"⟩, 20) := ⟨⟨by decide +kernel, by decide +kernel⟩, List.mem_of_getElem? (i := 976) (by decide +kernel), List.mem_of_getElem? (i := 1146) (by decide +kernel), List.mem_of_getElem? (i := 1147) (by decide +kernel)⟩
theorem lw_p31 : lw_okq (⟨"SmallRoomsModel", "worthOf", "(I)I"⟩, 20) := ⟨⟨by decide +kernel, by decide +kernel⟩, List.mem_of_getElem? (i := 976) (by decide +kernel), List.mem_of_getElem? (i := 1166) (by decide +kernel), List.mem_of_getElem? (i := 1167) (by decide +kernel)⟩
def lw_privs_2 : List (MethodName × Nat) := [(⟨"SmallRooms", "leastMonth", "(I)I"⟩, 7), (⟨"SmallRooms$Nursery", "fits", "(II)Z"⟩, 11), (⟨"SmallRooms$Ratio", "firstWrong", "()I"⟩, 3), (⟨"SmallRoomsModel", "finding", "(I)I"⟩, 20), (⟨"SmallRoomsModel", "keep", "()V"⟩, 20), (⟨"SmallRoomsModel", "isHand", "(I)Z"⟩, 20), (⟨"SmallRoomsModel", "isTrained", "(I)Z"⟩, 20), (⟨"SmallRoomsModel", "isChild", "(I)Z"⟩, 20), (⟨"SmallRoomsModel", "roomIn", "(II)I"⟩, 20), (⟨"SmallRoomsModel", "takes", "(II)Z"⟩, 20), (⟨"SmallRoomsModel", "isRoom", "(I)Z"⟩, 20), (⟨"SmallRoomsModel", "childrenIn", "(I)I"⟩, 20), (⟨"SmallRoomsModel", "leadRoll", "(II)V"⟩, 20), (⟨"SmallRoomsModel", "lead", "(IIIIII)V"⟩, 20), (⟨"SmallRoomsModel", "leadSleep", "(II)V"⟩, 20), (⟨"SmallRoomsModel", "worthOf", "(I)I"⟩, 20)]
theorem lw_r2 : ∀ q ∈ lw_privs_2, lw_okq q := List.forall_mem_cons.mpr ⟨lw_p16, List.forall_mem_cons.mpr ⟨lw_p17, List.forall_mem_cons.mpr ⟨lw_p18, List.forall_mem_cons.mpr ⟨lw_p19, List.forall_mem_cons.mpr ⟨lw_p20, List.forall_mem_cons.mpr ⟨lw_p21, List.forall_mem_cons.mpr ⟨lw_p22, List.forall_mem_cons.mpr ⟨lw_p23, List.forall_mem_cons.mpr ⟨lw_p24, List.forall_mem_cons.mpr ⟨lw_p25, List.forall_mem_cons.mpr ⟨lw_p26, List.forall_mem_cons.mpr ⟨lw_p27, List.forall_mem_cons.mpr ⟨lw_p28, List.forall_mem_cons.mpr ⟨lw_p29, List.forall_mem_cons.mpr ⟨lw_p30, List.forall_mem_cons.mpr ⟨lw_p31, fun _ h => absurd h List.not_mem_nil⟩⟩⟩⟩⟩⟩⟩⟩⟩⟩⟩⟩⟩⟩⟩⟩
theorem lw_p32 : lw_okq (⟨"SmallRoomsModel", "handsIn", "(I)I"⟩, 20) := ⟨⟨by decide +kernel, by decide +kernel⟩, List.mem_of_getElem? (i := 976) (by decide +kernel), List.mem_of_getElem? (i := 1170) (by decide +kernel), List.mem_of_getElem? (i := 1171) (by decide +kernel)⟩
theorem lw_p33 : lw_okq (⟨"SmallRoomsModel", "needOf", "(I)I"⟩, 20) := ⟨⟨by decide +kernel, by decide +kernel⟩, List.mem_of_getElem? (i := 976) (by decide +kernel), List.mem_of_getElem? (i := 1174) (by decide +kernel), List.mem_of_getElem? (i := 1175) (by decide +kernel)⟩
theorem lw_p34 : lw_okq (⟨"SmallRoomsModel", "read", "()I"⟩, 20) := ⟨⟨by decide +kernel, by decide +kernel⟩, List.mem_of_getElem? (i := 976) (by decide +kernel), List.mem_of_getElem? (i := 1178) (by decide +kernel), List.mem_of_getElem? (i := 1179) (by decide +kernel)⟩
theorem lw_p35 : lw_okq (⟨"SmallRoomsModel", "goes", "(I)Z"⟩, 20) := ⟨⟨by decide +kernel, by decide +kernel⟩, List.mem_of_getElem? (i := 976) (by decide +kernel), List.mem_of_getElem? (i := 1182) (by decide +kernel), List.mem_of_getElem? (i := 1183) (by decide +kernel)⟩
theorem lw_p36 : lw_okq (⟨"SmallRoomsModel", "hasEnough", "(I)Z"⟩, 20) := ⟨⟨by decide +kernel, by decide +kernel⟩, List.mem_of_getElem? (i := 976) (by decide +kernel), List.mem_of_getElem? (i := 1189) (by decide +kernel), List.mem_of_getElem? (i := 1190) (by decide +kernel)⟩
theorem lw_p37 : lw_okq (⟨"SmallRoomsModel", "areEnough", "(IIZ)Z"⟩, 20) := ⟨⟨by decide +kernel, by decide +kernel⟩, List.mem_of_getElem? (i := 976) (by decide +kernel), List.mem_of_getElem? (i := 1193) (by decide +kernel), List.mem_of_getElem? (i := 1194) (by decide +kernel)⟩
theorem lw_p38 : lw_okq (⟨"SmallRoomsModel", "findMoves", "()Z"⟩, 20) := ⟨⟨by decide +kernel, by decide +kernel⟩, List.mem_of_getElem? (i := 976) (by decide +kernel), List.mem_of_getElem? (i := 1205) (by decide +kernel), List.mem_of_getElem? (i := 1206) (by decide +kernel)⟩
theorem lw_p39 : lw_okq (⟨"SmallRoomsModel", "tries", "(II)V"⟩, 20) := ⟨⟨by decide +kernel, by decide +kernel⟩, List.mem_of_getElem? (i := 976) (by decide +kernel), List.mem_of_getElem? (i := 1209) (by decide +kernel), List.mem_of_getElem? (i := 1210) (by decide +kernel)⟩
theorem lw_p40 : lw_okq (⟨"SmallRoomsModel", "wasIn", "(II)Z"⟩, 20) := ⟨⟨by decide +kernel, by decide +kernel⟩, List.mem_of_getElem? (i := 976) (by decide +kernel), List.mem_of_getElem? (i := 1225) (by decide +kernel), List.mem_of_getElem? (i := 1226) (by decide +kernel)⟩
theorem lw_p41 : lw_okq (⟨"SmallRoomsModel", "findShifts", "()V"⟩, 20) := ⟨⟨by decide +kernel, by decide +kernel⟩, List.mem_of_getElem? (i := 976) (by decide +kernel), List.mem_of_getElem? (i := 1253) (by decide +kernel), List.mem_of_getElem? (i := 1254) (by decide +kernel)⟩
theorem lw_p42 : lw_okq (⟨"SmallRoomsModel", "putShift", "(I)V"⟩, 20) := ⟨⟨by decide +kernel, by decide +kernel⟩, List.mem_of_getElem? (i := 976) (by decide +kernel), List.mem_of_getElem? (i := 1257) (by decide +kernel), List.mem_of_getElem? (i := 1258) (by decide +kernel)⟩
theorem lw_p43 : lw_okq (⟨"SmallRoomsModel", "listed", "(I)I"⟩, 20) := ⟨⟨by decide +kernel, by decide +kernel⟩, List.mem_of_getElem? (i := 976) (by decide +kernel), List.mem_of_getElem? (i := 1272) (by decide +kernel), List.mem_of_getElem? (i := 1273) (by decide +kernel)⟩
theorem lw_p44 : lw_okq (⟨"SmallRoomsModel", "hasSibling", "(I)Z"⟩, 20) := ⟨⟨by decide +kernel, by decide +kernel⟩, List.mem_of_getElem? (i := 976) (by decide +kernel), List.mem_of_getElem? (i := 1280) (by decide +kernel), List.mem_of_getElem? (i := 1281) (by decide +kernel)⟩
theorem lw_p45 : lw_okq (⟨"SmallRoomsModel", "areSiblings", "(II)Z"⟩, 20) := ⟨⟨by decide +kernel, by decide +kernel⟩, List.mem_of_getElem? (i := 976) (by decide +kernel), List.mem_of_getElem? (i := 1284) (by decide +kernel), List.mem_of_getElem? (i := 1285) (by decide +kernel)⟩
theorem lw_p46 : lw_okq (⟨"SmallRoomsModel", "leastMonth", "(I)I"⟩, 20) := ⟨⟨by decide +kernel, by decide +kernel⟩, List.mem_of_getElem? (i := 976) (by decide +kernel), List.mem_of_getElem? (i := 1292) (by decide +kernel), List.mem_of_getElem? (i := 1293) (by decide +kernel)⟩
theorem lw_p47 : lw_okq (⟨"SmallRoomsModel", "can", "(II)Z"⟩, 20) := ⟨⟨by decide +kernel, by decide +kernel⟩, List.mem_of_getElem? (i := 976) (by decide +kernel), List.mem_of_getElem? (i := 1296) (by decide +kernel), List.mem_of_getElem? (i := 1297) (by decide +kernel)⟩
def lw_privs_3 : List (MethodName × Nat) := [(⟨"SmallRoomsModel", "handsIn", "(I)I"⟩, 20), (⟨"SmallRoomsModel", "needOf", "(I)I"⟩, 20), (⟨"SmallRoomsModel", "read", "()I"⟩, 20), (⟨"SmallRoomsModel", "goes", "(I)Z"⟩, 20), (⟨"SmallRoomsModel", "hasEnough", "(I)Z"⟩, 20), (⟨"SmallRoomsModel", "areEnough", "(IIZ)Z"⟩, 20), (⟨"SmallRoomsModel", "findMoves", "()Z"⟩, 20), (⟨"SmallRoomsModel", "tries", "(II)V"⟩, 20), (⟨"SmallRoomsModel", "wasIn", "(II)Z"⟩, 20), (⟨"SmallRoomsModel", "findShifts", "()V"⟩, 20), (⟨"SmallRoomsModel", "putShift", "(I)V"⟩, 20), (⟨"SmallRoomsModel", "listed", "(I)I"⟩, 20), (⟨"SmallRoomsModel", "hasSibling", "(I)Z"⟩, 20), (⟨"SmallRoomsModel", "areSiblings", "(II)Z"⟩, 20), (⟨"SmallRoomsModel", "leastMonth", "(I)I"⟩, 20), (⟨"SmallRoomsModel", "can", "(II)Z"⟩, 20)]
theorem lw_r3 : ∀ q ∈ lw_privs_3, lw_okq q := List.forall_mem_cons.mpr ⟨lw_p32, List.forall_mem_cons.mpr ⟨lw_p33, List.forall_mem_cons.mpr ⟨lw_p34, List.forall_mem_cons.mpr ⟨lw_p35, List.forall_mem_cons.mpr ⟨lw_p36, List.forall_mem_cons.mpr ⟨lw_p37, List.forall_mem_cons.mpr ⟨lw_p38, List.forall_mem_cons.mpr ⟨lw_p39, List.forall_mem_cons.mpr ⟨lw_p40, List.forall_mem_cons.mpr ⟨lw_p41, List.forall_mem_cons.mpr ⟨lw_p42, List.forall_mem_cons.mpr ⟨lw_p43, List.forall_mem_cons.mpr ⟨lw_p44, List.forall_mem_cons.mpr ⟨lw_p45, List.forall_mem_cons.mpr ⟨lw_p46, List.forall_mem_cons.mpr ⟨lw_p47, fun _ h => absurd h List.not_mem_nil⟩⟩⟩⟩⟩⟩⟩⟩⟩⟩⟩⟩⟩⟩⟩⟩
theorem lw_p48 : lw_okq (⟨"SmallRoomsModel", "haveIn", "(III)I"⟩, 20) := ⟨⟨by decide +kernel, by decide +kernel⟩, List.mem_of_getElem? (i := 976) (by decide +kernel), List.mem_of_getElem? (i := 1300) (by decide +kernel), List.mem_of_getElem? (i := 1301) (by decide +kernel)⟩
def lw_privs_4 : List (MethodName × Nat) := [(⟨"SmallRoomsModel", "haveIn", "(III)I"⟩, 20)]
theorem lw_r4 : ∀ q ∈ lw_privs_4, lw_okq q := List.forall_mem_cons.mpr ⟨lw_p48, fun _ h => absurd h List.not_mem_nil⟩
def lw_privs : List (MethodName × Nat) := lw_privs_1 ++ (lw_privs_2 ++ (lw_privs_3 ++ (lw_privs_4)))
def lw_tbl : List Cond := k2_sels lw_privs ++ tables_1
theorem lw_privs_ok : ∀ q ∈ lw_privs, lw_okq q := by
  show ∀ q ∈ lw_privs_1 ++ (lw_privs_2 ++ (lw_privs_3 ++ (lw_privs_4))), lw_okq q
  exact List.forall_mem_append.mpr ⟨lw_r1, List.forall_mem_append.mpr ⟨lw_r2, List.forall_mem_append.mpr ⟨lw_r3, lw_r4⟩⟩⟩
theorem goodIn_r {big : List Cond} (ws : List Cond) (ps : List Nat) (hp : ws = ps.filterMap (fun i => big[i]?)) (h : ws.all goodWord = true) : GoodIn big ws := by
  intro w hw
  have h1 := List.all_eq_true.mp h w hw
  rw [hp] at hw
  obtain ⟨i, -, hi⟩ := List.mem_filterMap.mp hw
  have hm : w ∈ big := by first | exact List.mem_of_getElem? hi | exact List.getElem?_mem hi
  exact ⟨hm, good_of_word h1⟩
theorem goodIn_app {big a b : List Cond} (ha : GoodIn big a) (hb : GoodIn big b) : GoodIn big (a ++ b) := fun w h => (List.mem_append.mp h).elim (ha w) (hb w)
theorem goodIn_ca {big a b : List Cond} {c : Cond} (ha : GoodIn big (c :: a)) (hb : GoodIn big b) : GoodIn big (c :: (a ++ b)) := fun w h => (List.mem_cons.mp h).elim (fun e => ha w (List.mem_cons.mpr (Or.inl e))) (fun h => (List.mem_append.mp h).elim (fun h => ha w (List.mem_cons.mpr (Or.inr h))) (hb w))
theorem goodIn_sub {big ws : List Cond} (hm : ∀ w ∈ ws, w ∈ big) (h : ws.all goodWord = true) : GoodIn big ws := fun w hw => ⟨hm w hw, good_of_word (List.all_eq_true.mp h w hw)⟩
def RX0 : String := "SmallRooms$Children"
def TX0 : u_T := fun k => match k with
  | 0 => ("SmallRooms$Children", "count", "I", false)
  | 1 => ("SmallRooms$Children", "birth", "[I", true)
  | 2 => ("SmallRooms$Children", "sibling", "[I", true)
  | 3 => ("SmallRooms$Children", "sessions", "[I", true)
  | 4 => ("SmallRooms$Children", "first", "[I", true)
  | 5 => ("SmallRooms$Children", "last", "[I", true)
  | 6 => ("SmallRooms$Children", "room", "[I", true)
  | 7 => ("SmallRooms$Children", "persons", "[I", true)
  | 8 => ("SmallRooms$Children", "asleep", "I", false)
  | 9 => ("SmallRooms$Children", "admitted", "I", false)
  | 10 => ("SmallRooms$Children", "waiters", "I", false)
  | _ => ("SmallRooms$Children", "waiting", "[I", true)
def tyX0 : Nat → FieldType := fun k => match k with
  | 0 => .int
  | 1 => .array .int
  | 2 => .array .int
  | 3 => .array .int
  | 4 => .array .int
  | 5 => .array .int
  | 6 => .array .int
  | 7 => .array .int
  | 8 => .int
  | 9 => .int
  | 10 => .int
  | _ => .array .int
abbrev wsX00 : List Cond := u_ws RX0 TX0 12
theorem nmX0 : ∀ a, a < 12 → ∀ b, b < 12 → a ≠ b → (TX0 a).2.1 ≠ (TX0 b).2.1 := by decide +kernel
theorem tyX0_ok : ∀ k, k < 12 → parseFieldDescriptor (TX0 k).2.2.1 = some (tyX0 k) := by decide +kernel
abbrev cX0_init : ByteArray := prog_2_method_1_code
def yX0_init : MethodName := ⟨RX0, "<init>", "()V"⟩
abbrev cX0_has : ByteArray := prog_2_method_2_code
def yX0_has : MethodName := ⟨RX0, "has", "(I)Z"⟩
abbrev cX0_add : ByteArray := prog_2_method_3_code
def yX0_add : MethodName := ⟨RX0, "add", "(IIIII)I"⟩
abbrev cX0_inRoom : ByteArray := prog_2_method_4_code
def yX0_inRoom : MethodName := ⟨RX0, "inRoom", "(I)I"⟩
abbrev cX0_countIn : ByteArray := prog_2_method_5_code
def yX0_countIn : MethodName := ⟨RX0, "countIn", "()I"⟩
abbrev cX0_allOut : ByteArray := prog_2_method_6_code
def yX0_allOut : MethodName := ⟨RX0, "allOut", "()V"⟩
abbrev cX0_areSiblings : ByteArray := prog_2_method_7_code
def yX0_areSiblings : MethodName := ⟨RX0, "areSiblings", "(II)Z"⟩
abbrev cX0_hasAdmittedSibling : ByteArray := prog_2_method_8_code
def yX0_hasAdmittedSibling : MethodName := ⟨RX0, "hasAdmittedSibling", "(I)Z"⟩
abbrev cX0_isAwaited : ByteArray := prog_2_method_9_code
def yX0_isAwaited : MethodName := ⟨RX0, "isAwaited", "(III)Z"⟩
abbrev cX0_isWaiting : ByteArray := prog_2_method_10_code
def yX0_isWaiting : MethodName := ⟨RX0, "isWaiting", "(I)Z"⟩
abbrev cX0_addWaiter : ByteArray := prog_2_method_11_code
def yX0_addWaiter : MethodName := ⟨RX0, "addWaiter", "(I)V"⟩
abbrev cX0_removeWaiter : ByteArray := prog_2_method_12_code
def yX0_removeWaiter : MethodName := ⟨RX0, "removeWaiter", "(I)V"⟩
abbrev cX0_waiterAt : ByteArray := prog_2_method_13_code
def yX0_waiterAt : MethodName := ⟨RX0, "waiterAt", "(I)I"⟩
abbrev cX0_waiterOf : ByteArray := prog_2_method_14_code
def yX0_waiterOf : MethodName := ⟨RX0, "waiterOf", "(ZI)I"⟩
abbrev cX0_become : ByteArray := prog_2_method_15_code
def yX0_become : MethodName := ⟨RX0, "become", "(LSmallRooms$Children;)V"⟩
def RX1 : String := "SmallRooms$Hands"
def TX1 : u_T := fun k => match k with
  | 0 => ("SmallRooms$Hands", "count", "I", false)
  | 1 => ("SmallRooms$Hands", "kind", "[I", true)
  | 2 => ("SmallRooms$Hands", "room", "[I", true)
  | _ => ("SmallRooms$Hands", "ill", "I", false)
def tyX1 : Nat → FieldType := fun k => match k with
  | 0 => .int
  | 1 => .array .int
  | 2 => .array .int
  | _ => .int
abbrev wsX10 : List Cond := u_ws RX1 TX1 4
theorem nmX1 : ∀ a, a < 4 → ∀ b, b < 4 → a ≠ b → (TX1 a).2.1 ≠ (TX1 b).2.1 := by decide +kernel
theorem tyX1_ok : ∀ k, k < 4 → parseFieldDescriptor (TX1 k).2.2.1 = some (tyX1 k) := by decide +kernel
abbrev cX1_init : ByteArray := prog_3_method_1_code
def yX1_init : MethodName := ⟨RX1, "<init>", "()V"⟩
abbrev cX1_has : ByteArray := prog_3_method_2_code
def yX1_has : MethodName := ⟨RX1, "has", "(I)Z"⟩
abbrev cX1_add : ByteArray := prog_3_method_3_code
def yX1_add : MethodName := ⟨RX1, "add", "(I)I"⟩
abbrev cX1_worth : ByteArray := prog_3_method_4_code
def yX1_worth : MethodName := ⟨RX1, "worth", "(I)I"⟩
abbrev cX1_inRoom : ByteArray := prog_3_method_5_code
def yX1_inRoom : MethodName := ⟨RX1, "inRoom", "(I)I"⟩
abbrev cX1_worthIn : ByteArray := prog_3_method_6_code
def yX1_worthIn : MethodName := ⟨RX1, "worthIn", "(I)I"⟩
abbrev cX1_trained : ByteArray := prog_3_method_7_code
def yX1_trained : MethodName := ⟨RX1, "trained", "()I"⟩
abbrev cX1_able : ByteArray := prog_3_method_8_code
def yX1_able : MethodName := ⟨RX1, "able", "()I"⟩
abbrev cX1_become : ByteArray := prog_3_method_9_code
def yX1_become : MethodName := ⟨RX1, "become", "(LSmallRooms$Hands;)V"⟩
def RX2 : String := "SmallRooms$History"
def TX2 : u_T := fun k => match k with
  | 0 => ("SmallRooms$History", "count", "I", false)
  | 1 => ("SmallRooms$History", "next", "I", false)
  | _ => ("SmallRooms$History", "kept", "[LSmallRooms$Nursery;", true)
def tyX2 : Nat → FieldType := fun k => match k with
  | 0 => .int
  | 1 => .int
  | _ => .array (.object "SmallRooms$Nursery")
abbrev wsX20 : List Cond := u_ws RX2 TX2 3
theorem nmX2 : ∀ a, a < 3 → ∀ b, b < 3 → a ≠ b → (TX2 a).2.1 ≠ (TX2 b).2.1 := by decide +kernel
theorem tyX2_ok : ∀ k, k < 3 → parseFieldDescriptor (TX2 k).2.2.1 = some (tyX2 k) := by decide +kernel
abbrev cX2_init : ByteArray := prog_4_method_1_code
def yX2_init : MethodName := ⟨RX2, "<init>", "()V"⟩
abbrev cX2_add : ByteArray := prog_4_method_2_code
def yX2_add : MethodName := ⟨RX2, "add", "(LSmallRooms$Nursery;)V"⟩
abbrev cX2_bringBack : ByteArray := prog_4_method_3_code
def yX2_bringBack : MethodName := ⟨RX2, "bringBack", "(LSmallRooms$Nursery;)V"⟩
def RX3 : String := "SmallRooms$Log"
def TX3 : u_T := fun k => match k with
  | 0 => ("SmallRooms$Log", "count", "I", false)
  | 1 => ("SmallRooms$Log", "slots", "[I", true)
  | 2 => ("SmallRooms$Log", "children", "[I", true)
  | _ => ("SmallRooms$Log", "acts", "[I", true)
def tyX3 : Nat → FieldType := fun k => match k with
  | 0 => .int
  | 1 => .array .int
  | 2 => .array .int
  | _ => .array .int
abbrev wsX30 : List Cond := u_ws RX3 TX3 4
theorem nmX3 : ∀ a, a < 4 → ∀ b, b < 4 → a ≠ b → (TX3 a).2.1 ≠ (TX3 b).2.1 := by decide +kernel
theorem tyX3_ok : ∀ k, k < 4 → parseFieldDescriptor (TX3 k).2.2.1 = some (tyX3 k) := by decide +kernel
abbrev cX3_init : ByteArray := prog_5_method_1_code
def yX3_init : MethodName := ⟨RX3, "<init>", "()V"⟩
abbrev cX3_lead : ByteArray := prog_5_method_2_code
def yX3_lead : MethodName := ⟨RX3, "lead", "(III)V"⟩
abbrev cX3_dropOldest : ByteArray := prog_5_method_3_code
def yX3_dropOldest : MethodName := ⟨RX3, "dropOldest", "()V"⟩
abbrev cX3_countOf : ByteArray := prog_5_method_4_code
def yX3_countOf : MethodName := ⟨RX3, "countOf", "(I)I"⟩
abbrev cX3_wasIn : ByteArray := prog_5_method_5_code
def yX3_wasIn : MethodName := ⟨RX3, "wasIn", "(II)Z"⟩
abbrev cX3_latestGoingOut : ByteArray := prog_5_method_6_code
def yX3_latestGoingOut : MethodName := ⟨RX3, "latestGoingOut", "(I)I"⟩
abbrev cX3_missedOf : ByteArray := prog_5_method_7_code
def yX3_missedOf : MethodName := ⟨RX3, "missedOf", "(II)I"⟩
abbrev cX3_firstMissedOf : ByteArray := prog_5_method_8_code
def yX3_firstMissedOf : MethodName := ⟨RX3, "firstMissedOf", "(II)I"⟩
abbrev cX3_isMissedFrom : ByteArray := prog_5_method_9_code
def yX3_isMissedFrom : MethodName := ⟨RX3, "isMissedFrom", "(II)Z"⟩
abbrev cX3_become : ByteArray := prog_5_method_10_code
def yX3_become : MethodName := ⟨RX3, "become", "(LSmallRooms$Log;)V"⟩
def RX4 : String := "SmallRooms$Nursery"
def TX4 : u_T := fun k => match k with
  | 0 => ("SmallRooms$Nursery", "rooms", "LSmallRooms$Rooms;", true)
  | 1 => ("SmallRooms$Nursery", "hands", "LSmallRooms$Hands;", true)
  | 2 => ("SmallRooms$Nursery", "children", "LSmallRooms$Children;", true)
  | 3 => ("SmallRooms$Nursery", "roll", "LSmallRooms$Log;", true)
  | 4 => ("SmallRooms$Nursery", "sleep", "LSmallRooms$Log;", true)
  | 5 => ("SmallRooms$Nursery", "ratio", "LSmallRooms$Ratio;", true)
  | 6 => ("SmallRooms$Nursery", "needed", "[I", true)
  | 7 => ("SmallRooms$Nursery", "month", "I", false)
  | 8 => ("SmallRooms$Nursery", "slot", "I", false)
  | 9 => ("SmallRooms$Nursery", "longSlots", "I", false)
  | _ => ("SmallRooms$Nursery", "rate", "I", false)
def tyX4 : Nat → FieldType := fun k => match k with
  | 0 => .object "SmallRooms$Rooms"
  | 1 => .object "SmallRooms$Hands"
  | 2 => .object "SmallRooms$Children"
  | 3 => .object "SmallRooms$Log"
  | 4 => .object "SmallRooms$Log"
  | 5 => .object "SmallRooms$Ratio"
  | 6 => .array .int
  | 7 => .int
  | 8 => .int
  | 9 => .int
  | _ => .int
abbrev wsX40 : List Cond := u_ws RX4 TX4 11
theorem nmX4 : ∀ a, a < 11 → ∀ b, b < 11 → a ≠ b → (TX4 a).2.1 ≠ (TX4 b).2.1 := by decide +kernel
theorem tyX4_ok : ∀ k, k < 11 → parseFieldDescriptor (TX4 k).2.2.1 = some (tyX4 k) := by decide +kernel
abbrev cX4_init : ByteArray := prog_6_method_1_code
def yX4_init : MethodName := ⟨RX4, "<init>", "()V"⟩
abbrev cX4_ageNow : ByteArray := prog_6_method_2_code
def yX4_ageNow : MethodName := ⟨RX4, "ageNow", "(I)I"⟩
abbrev cX4_roomInMonth : ByteArray := prog_6_method_3_code
def yX4_roomInMonth : MethodName := ⟨RX4, "roomInMonth", "(II)I"⟩
abbrev cX4_refusal : ByteArray := prog_6_method_4_code
def yX4_refusal : MethodName := ⟨RX4, "refusal", "(II)I"⟩
abbrev cX4_goOut : ByteArray := prog_6_method_5_code
def yX4_goOut : MethodName := ⟨RX4, "goOut", "(I)V"⟩
abbrev cX4_beginDay : ByteArray := prog_6_method_6_code
def yX4_beginDay : MethodName := ⟨RX4, "beginDay", "()V"⟩
abbrev cX4_placesTaken : ByteArray := prog_6_method_7_code
def yX4_placesTaken : MethodName := ⟨RX4, "placesTaken", "(III)I"⟩
abbrev cX4_fits : ByteArray := prog_6_method_8_code
def yX4_fits : MethodName := ⟨RX4, "fits", "(II)Z"⟩
abbrev cX4_earliestMonth : ByteArray := prog_6_method_9_code
def yX4_earliestMonth : MethodName := ⟨RX4, "earliestMonth", "(I)I"⟩
abbrev cX4_become : ByteArray := prog_6_method_10_code
def yX4_become : MethodName := ⟨RX4, "become", "(LSmallRooms$Nursery;)V"⟩
def RX5 : String := "SmallRooms$Planner"
def TX5 : u_T := fun k => match k with
  | 0 => ("SmallRooms$Planner", "least", "[I", true)
  | 1 => ("SmallRooms$Planner", "cost", "[I", true)
  | 2 => ("SmallRooms$Planner", "worth", "[I", true)
  | 3 => ("SmallRooms$Planner", "able", "I", false)
  | _ => ("SmallRooms$Planner", "trained", "I", false)
def tyX5 : Nat → FieldType := fun k => match k with
  | 0 => .array .int
  | 1 => .array .int
  | 2 => .array .int
  | 3 => .int
  | _ => .int
abbrev wsX50 : List Cond := u_ws RX5 TX5 5
theorem nmX5 : ∀ a, a < 5 → ∀ b, b < 5 → a ≠ b → (TX5 a).2.1 ≠ (TX5 b).2.1 := by decide +kernel
theorem tyX5_ok : ∀ k, k < 5 → parseFieldDescriptor (TX5 k).2.2.1 = some (tyX5 k) := by decide +kernel
abbrev cX5_init : ByteArray := prog_7_method_1_code
def yX5_init : MethodName := ⟨RX5, "<init>", "()V"⟩
abbrev cX5_begin : ByteArray := prog_7_method_2_code
def yX5_begin : MethodName := ⟨RX5, "begin", "(LSmallRooms$Hands;)V"⟩
abbrev cX5_sumWorths : ByteArray := prog_7_method_3_code
def yX5_sumWorths : MethodName := ⟨RX5, "sumWorths", "(LSmallRooms$Hands;)V"⟩
abbrev cX5_sumCosts : ByteArray := prog_7_method_4_code
def yX5_sumCosts : MethodName := ⟨RX5, "sumCosts", "(LSmallRooms$Hands;I)V"⟩
abbrev cX5_addForHand : ByteArray := prog_7_method_5_code
def yX5_addForHand : MethodName := ⟨RX5, "addForHand", "([III)V"⟩
abbrev cX5_fill : ByteArray := prog_7_method_6_code
def yX5_fill : MethodName := ⟨RX5, "fill", "(LSmallRooms$Hands;IIZ)V"⟩
abbrev cX5_leastWith : ByteArray := prog_7_method_7_code
def yX5_leastWith : MethodName := ⟨RX5, "leastWith", "(IIZ)I"⟩
abbrev cX5_partsOf : ByteArray := prog_7_method_8_code
def yX5_partsOf : MethodName := ⟨RX5, "partsOf", "(I)I"⟩
abbrev cX5_isPossible : ByteArray := prog_7_method_9_code
def yX5_isPossible : MethodName := ⟨RX5, "isPossible", "()Z"⟩
abbrev cX5_movedHands : ByteArray := prog_7_method_10_code
def yX5_movedHands : MethodName := ⟨RX5, "movedHands", "()I"⟩
abbrev cX5_roomFor : ByteArray := prog_7_method_11_code
def yX5_roomFor : MethodName := ⟨RX5, "roomFor", "(I)I"⟩
def RX6 : String := "SmallRooms$Ratio"
def TX6 : u_T := fun k => match k with
  | 0 => ("SmallRooms$Ratio", "count", "I", false)
  | 1 => ("SmallRooms$Ratio", "wrongAt", "I", false)
  | _ => ("SmallRooms$Ratio", "signs", "[I", true)
def tyX6 : Nat → FieldType := fun k => match k with
  | 0 => .int
  | 1 => .int
  | _ => .array .int
abbrev wsX60 : List Cond := u_ws RX6 TX6 3
theorem nmX6 : ∀ a, a < 3 → ∀ b, b < 3 → a ≠ b → (TX6 a).2.1 ≠ (TX6 b).2.1 := by decide +kernel
theorem tyX6_ok : ∀ k, k < 3 → parseFieldDescriptor (TX6 k).2.2.1 = some (tyX6 k) := by decide +kernel
abbrev cX6_init : ByteArray := prog_8_method_1_code
def yX6_init : MethodName := ⟨RX6, "<init>", "()V"⟩
abbrev cX6_read : ByteArray := prog_8_method_2_code
def yX6_read : MethodName := ⟨RX6, "read", "(LSmallRooms$Sheet;)V"⟩
abbrev cX6_isSign : ByteArray := prog_8_method_3_code
def yX6_isSign : MethodName := ⟨RX6, "isSign", "(I)Z"⟩
abbrev cX6_firstWrong : ByteArray := prog_8_method_4_code
def yX6_firstWrong : MethodName := ⟨RX6, "firstWrong", "()I"⟩
abbrev cX6_become : ByteArray := prog_8_method_5_code
def yX6_become : MethodName := ⟨RX6, "become", "(LSmallRooms$Ratio;)V"⟩
def RX7 : String := "SmallRooms$Reckoning"
def TX7 : u_T := fun k => match k with
  | 0 => ("SmallRooms$Reckoning", "counted", "[I", true)
  | _ => ("SmallRooms$Reckoning", "row", "[J", true)
def tyX7 : Nat → FieldType := fun k => match k with
  | 0 => .array .int
  | _ => .array .long
abbrev wsX70 : List Cond := u_ws RX7 TX7 2
theorem nmX7 : ∀ a, a < 2 → ∀ b, b < 2 → a ≠ b → (TX7 a).2.1 ≠ (TX7 b).2.1 := by decide +kernel
theorem tyX7_ok : ∀ k, k < 2 → parseFieldDescriptor (TX7 k).2.2.1 = some (tyX7 k) := by decide +kernel
abbrev cX7_init : ByteArray := prog_9_method_1_code
def yX7_init : MethodName := ⟨RX7, "<init>", "()V"⟩
abbrev cX7_needOf : ByteArray := prog_9_method_2_code
def yX7_needOf : MethodName := ⟨RX7, "needOf", "(LSmallRooms$Nursery;I)I"⟩
abbrev cX7_countChildren : ByteArray := prog_9_method_3_code
def yX7_countChildren : MethodName := ⟨RX7, "countChildren", "(LSmallRooms$Nursery;I)V"⟩
abbrev cX7_ageGroup : ByteArray := prog_9_method_4_code
def yX7_ageGroup : MethodName := ⟨RX7, "ageGroup", "(I)I"⟩
abbrev cX7_usualNeed : ByteArray := prog_9_method_5_code
def yX7_usualNeed : MethodName := ⟨RX7, "usualNeed", "()J"⟩
abbrev cX7_workOut : ByteArray := prog_9_method_6_code
def yX7_workOut : MethodName := ⟨RX7, "workOut", "(LSmallRooms$Ratio;)J"⟩
abbrev cX7_numberOf : ByteArray := prog_9_method_7_code
def yX7_numberOf : MethodName := ⟨RX7, "numberOf", "(I)I"⟩
abbrev cX7_joined : ByteArray := prog_9_method_8_code
def yX7_joined : MethodName := ⟨RX7, "joined", "(IJJ)J"⟩
def RX8 : String := "SmallRooms$Rooms"
def TX8 : u_T := fun k => match k with
  | 0 => ("SmallRooms$Rooms", "count", "I", false)
  | 1 => ("SmallRooms$Rooms", "from", "[I", true)
  | 2 => ("SmallRooms$Rooms", "to", "[I", true)
  | _ => ("SmallRooms$Rooms", "most", "[I", true)
def tyX8 : Nat → FieldType := fun k => match k with
  | 0 => .int
  | 1 => .array .int
  | 2 => .array .int
  | _ => .array .int
abbrev wsX80 : List Cond := u_ws RX8 TX8 4
theorem nmX8 : ∀ a, a < 4 → ∀ b, b < 4 → a ≠ b → (TX8 a).2.1 ≠ (TX8 b).2.1 := by decide +kernel
theorem tyX8_ok : ∀ k, k < 4 → parseFieldDescriptor (TX8 k).2.2.1 = some (tyX8 k) := by decide +kernel
abbrev cX8_init : ByteArray := prog_10_method_1_code
def yX8_init : MethodName := ⟨RX8, "<init>", "()V"⟩
abbrev cX8_has : ByteArray := prog_10_method_2_code
def yX8_has : MethodName := ⟨RX8, "has", "(I)Z"⟩
abbrev cX8_add : ByteArray := prog_10_method_3_code
def yX8_add : MethodName := ⟨RX8, "add", "(III)I"⟩
abbrev cX8_takes : ByteArray := prog_10_method_4_code
def yX8_takes : MethodName := ⟨RX8, "takes", "(II)Z"⟩
abbrev cX8_forAge : ByteArray := prog_10_method_5_code
def yX8_forAge : MethodName := ⟨RX8, "forAge", "(I)I"⟩
abbrev cX8_become : ByteArray := prog_10_method_6_code
def yX8_become : MethodName := ⟨RX8, "become", "(LSmallRooms$Rooms;)V"⟩
def RX9 : String := "SmallRooms$Sheet"
def TX9 : u_T := fun k => match k with
  | 0 => ("SmallRooms$Sheet", "bits", "I", false)
  | 1 => ("SmallRooms$Sheet", "size", "I", false)
  | _ => ("SmallRooms$Sheet", "numbers", "[I", true)
def tyX9 : Nat → FieldType := fun k => match k with
  | 0 => .int
  | 1 => .int
  | _ => .array .int
abbrev wsX90 : List Cond := u_ws RX9 TX9 3
theorem nmX9 : ∀ a, a < 3 → ∀ b, b < 3 → a ≠ b → (TX9 a).2.1 ≠ (TX9 b).2.1 := by decide +kernel
theorem tyX9_ok : ∀ k, k < 3 → parseFieldDescriptor (TX9 k).2.2.1 = some (tyX9 k) := by decide +kernel
abbrev cX9_init : ByteArray := prog_11_method_1_code
def yX9_init : MethodName := ⟨RX9, "<init>", "()V"⟩
abbrev cX9_isMissing : ByteArray := prog_11_method_2_code
def yX9_isMissing : MethodName := ⟨RX9, "isMissing", "()Z"⟩
abbrev cX9_begin : ByteArray := prog_11_method_3_code
def yX9_begin : MethodName := ⟨RX9, "begin", "(II)V"⟩
abbrev cX9_write : ByteArray := prog_11_method_4_code
def yX9_write : MethodName := ⟨RX9, "write", "(II)V"⟩
abbrev cX9_hasStretch : ByteArray := prog_11_method_5_code
def yX9_hasStretch : MethodName := ⟨RX9, "hasStretch", "(II)Z"⟩
abbrev cX9_rises : ByteArray := prog_11_method_6_code
def yX9_rises : MethodName := ⟨RX9, "rises", "()Z"⟩
abbrev cX9_isAllWithin : ByteArray := prog_11_method_7_code
def yX9_isAllWithin : MethodName := ⟨RX9, "isAllWithin", "(II)Z"⟩
abbrev cX9_isAllSigns : ByteArray := prog_11_method_8_code
def yX9_isAllSigns : MethodName := ⟨RX9, "isAllSigns", "()Z"⟩
def RX10 : String := "SmallRooms$ShiftPlan"
def TX10 : u_T := fun k => match k with
  | _ => ("SmallRooms$ShiftPlan", "begins", "[I", true)
def tyX10 : Nat → FieldType := fun k => match k with
  | _ => .array .int
abbrev wsX100 : List Cond := u_ws RX10 TX10 1
theorem nmX10 : ∀ a, a < 1 → ∀ b, b < 1 → a ≠ b → (TX10 a).2.1 ≠ (TX10 b).2.1 := by decide +kernel
theorem tyX10_ok : ∀ k, k < 1 → parseFieldDescriptor (TX10 k).2.2.1 = some (tyX10 k) := by decide +kernel
abbrev cX10_init : ByteArray := prog_12_method_1_code
def yX10_init : MethodName := ⟨RX10, "<init>", "()V"⟩
abbrev cX10_plan : ByteArray := prog_12_method_2_code
def yX10_plan : MethodName := ⟨RX10, "plan", "([II)I"⟩
abbrev cX10_endedAt : ByteArray := prog_12_method_3_code
def yX10_endedAt : MethodName := ⟨RX10, "endedAt", "(II)I"⟩
abbrev cX10_beginOf : ByteArray := prog_12_method_4_code
def yX10_beginOf : MethodName := ⟨RX10, "beginOf", "(I)I"⟩
abbrev cX10_take : ByteArray := prog_12_method_5_code
def yX10_take : MethodName := ⟨RX10, "take", "(LSmallRooms$Sheet;)V"⟩
abbrev cX10_firstLacking : ByteArray := prog_12_method_6_code
def yX10_firstLacking : MethodName := ⟨RX10, "firstLacking", "([II)I"⟩
def RX11 : String := "SmallRooms"
def TX11 : u_T := fun k => match k with
  | 0 => ("SmallRooms", "nursery", "LSmallRooms$Nursery;", true)
  | 1 => ("SmallRooms", "history", "LSmallRooms$History;", true)
  | 2 => ("SmallRooms", "reckoning", "LSmallRooms$Reckoning;", true)
  | 3 => ("SmallRooms", "planner", "LSmallRooms$Planner;", true)
  | 4 => ("SmallRooms", "shiftPlan", "LSmallRooms$ShiftPlan;", true)
  | 5 => ("SmallRooms", "sheets", "[LSmallRooms$Sheet;", true)
  | _ => ("SmallRooms", "findings", "I", false)
def tyX11 : Nat → FieldType := fun k => match k with
  | 0 => .object "SmallRooms$Nursery"
  | 1 => .object "SmallRooms$History"
  | 2 => .object "SmallRooms$Reckoning"
  | 3 => .object "SmallRooms$Planner"
  | 4 => .object "SmallRooms$ShiftPlan"
  | 5 => .array (.object "SmallRooms$Sheet")
  | _ => .int
abbrev wsX110 : List Cond := u_ws RX11 TX11 7
theorem nmX11 : ∀ a, a < 7 → ∀ b, b < 7 → a ≠ b → (TX11 a).2.1 ≠ (TX11 b).2.1 := by decide +kernel
theorem tyX11_ok : ∀ k, k < 7 → parseFieldDescriptor (TX11 k).2.2.1 = some (tyX11 k) := by decide +kernel
abbrev cX11_init : ByteArray := prog_1_method_1_code
def yX11_init : MethodName := ⟨RX11, "<init>", "()V"⟩
abbrev cX11_room : ByteArray := prog_1_method_2_code
def yX11_room : MethodName := ⟨RX11, "room", "(II)I"⟩
abbrev cX11_hand : ByteArray := prog_1_method_3_code
def yX11_hand : MethodName := ⟨RX11, "hand", "(I)I"⟩
abbrev cX11_as : ByteArray := prog_1_method_4_code
def yX11_as : MethodName := ⟨RX11, "as", "(II)I"⟩
abbrev cX11_child : ByteArray := prog_1_method_5_code
def yX11_child : MethodName := ⟨RX11, "child", "(IIII)I"⟩
abbrev cX11_childIs : ByteArray := prog_1_method_6_code
def yX11_childIs : MethodName := ⟨RX11, "childIs", "(II)I"⟩
abbrev cX11_roomOf : ByteArray := prog_1_method_7_code
def yX11_roomOf : MethodName := ⟨RX11, "roomOf", "(II)I"⟩
abbrev cX11_month : ByteArray := prog_1_method_8_code
def yX11_month : MethodName := ⟨RX11, "month", "(I)I"⟩
abbrev cX11_slot : ByteArray := prog_1_method_9_code
def yX11_slot : MethodName := ⟨RX11, "slot", "(I)I"⟩
abbrev cX11_day : ByteArray := prog_1_method_10_code
def yX11_day : MethodName := ⟨RX11, "day", "()I"⟩
abbrev cX11_in : ByteArray := prog_1_method_11_code
def yX11_in : MethodName := ⟨RX11, "in", "(II)I"⟩
abbrev cX11_to : ByteArray := prog_1_method_12_code
def yX11_to : MethodName := ⟨RX11, "to", "(II)I"⟩
abbrev cX11_over : ByteArray := prog_1_method_13_code
def yX11_over : MethodName := ⟨RX11, "over", "(II)I"⟩
abbrev cX11_fetches : ByteArray := prog_1_method_14_code
def yX11_fetches : MethodName := ⟨RX11, "fetches", "(IIZ)I"⟩
abbrev cX11_place : ByteArray := prog_1_method_15_code
def yX11_place : MethodName := ⟨RX11, "place", "(II)I"⟩
abbrev cX11_ill : ByteArray := prog_1_method_16_code
def yX11_ill : MethodName := ⟨RX11, "ill", "(I)I"⟩
abbrev cX11_now : ByteArray := prog_1_method_17_code
def yX11_now : MethodName := ⟨RX11, "now", "(II)I"⟩
abbrev cX11_lacking : ByteArray := prog_1_method_18_code
def yX11_lacking : MethodName := ⟨RX11, "lacking", "()I"⟩
abbrev cX11_moves : ByteArray := prog_1_method_19_code
def yX11_moves : MethodName := ⟨RX11, "moves", "()I"⟩
abbrev cX11_moved : ByteArray := prog_1_method_20_code
def yX11_moved : MethodName := ⟨RX11, "moved", "(I)I"⟩
abbrev cX11_move : ByteArray := prog_1_method_21_code
def yX11_move : MethodName := ⟨RX11, "move", "()I"⟩
abbrev cX11_roll : ByteArray := prog_1_method_22_code
def yX11_roll : MethodName := ⟨RX11, "roll", "(II)I"⟩
abbrev cX11_sleeps : ByteArray := prog_1_method_23_code
def yX11_sleeps : MethodName := ⟨RX11, "sleeps", "(IZ)I"⟩
abbrev cX11_look : ByteArray := prog_1_method_24_code
def yX11_look : MethodName := ⟨RX11, "look", "(I)I"⟩
abbrev cX11_missed : ByteArray := prog_1_method_25_code
def yX11_missed : MethodName := ⟨RX11, "missed", "(IZ)I"⟩
abbrev cX11_needed : ByteArray := prog_1_method_26_code
def yX11_needed : MethodName := ⟨RX11, "needed", "(III)I"⟩
abbrev cX11_longer : ByteArray := prog_1_method_27_code
def yX11_longer : MethodName := ⟨RX11, "longer", "(I)I"⟩
abbrev cX11_shifts : ByteArray := prog_1_method_28_code
def yX11_shifts : MethodName := ⟨RX11, "shifts", "(I)I"⟩
abbrev cX11_proves : ByteArray := prog_1_method_29_code
def yX11_proves : MethodName := ⟨RX11, "proves", "(I)I"⟩
abbrev cX11_waits : ByteArray := prog_1_method_30_code
def yX11_waits : MethodName := ⟨RX11, "waits", "(I)I"⟩
abbrev cX11_list : ByteArray := prog_1_method_31_code
def yX11_list : MethodName := ⟨RX11, "list", "(I)I"⟩
abbrev cX11_earliest : ByteArray := prog_1_method_32_code
def yX11_earliest : MethodName := ⟨RX11, "earliest", "(I)I"⟩
abbrev cX11_admit : ByteArray := prog_1_method_33_code
def yX11_admit : MethodName := ⟨RX11, "admit", "(I)I"⟩
abbrev cX11_places : ByteArray := prog_1_method_34_code
def yX11_places : MethodName := ⟨RX11, "places", "(III)I"⟩
abbrev cX11_rate : ByteArray := prog_1_method_35_code
def yX11_rate : MethodName := ⟨RX11, "rate", "(I)I"⟩
abbrev cX11_bill : ByteArray := prog_1_method_36_code
def yX11_bill : MethodName := ⟨RX11, "bill", "(IIIZ)I"⟩
abbrev cX11_text : ByteArray := prog_1_method_37_code
def yX11_text : MethodName := ⟨RX11, "text", "(I)I"⟩
abbrev cX11_wrong : ByteArray := prog_1_method_38_code
def yX11_wrong : MethodName := ⟨RX11, "wrong", "()I"⟩
abbrev cX11_sheet : ByteArray := prog_1_method_39_code
def yX11_sheet : MethodName := ⟨RX11, "sheet", "(III)I"⟩
abbrev cX11_put : ByteArray := prog_1_method_40_code
def yX11_put : MethodName := ⟨RX11, "put", "(III)I"⟩
abbrev cX11_copy : ByteArray := prog_1_method_41_code
def yX11_copy : MethodName := ⟨RX11, "copy", "(IIIII)I"⟩
abbrev cX11_undo : ByteArray := prog_1_method_42_code
def yX11_undo : MethodName := ⟨RX11, "undo", "()I"⟩
abbrev cX11_all : ByteArray := prog_1_method_43_code
def yX11_all : MethodName := ⟨RX11, "all", "(I)I"⟩
abbrev cX11_finding : ByteArray := prog_1_method_44_code
def yX11_finding : MethodName := ⟨RX11, "finding", "(I)I"⟩
abbrev cX11_keep : ByteArray := prog_1_method_45_code
def yX11_keep : MethodName := ⟨RX11, "keep", "()V"⟩
abbrev cX11_sheetFinding : ByteArray := prog_1_method_46_code
def yX11_sheetFinding : MethodName := ⟨RX11, "sheetFinding", "(I)I"⟩
abbrev cX11_hasEnough : ByteArray := prog_1_method_47_code
def yX11_hasEnough : MethodName := ⟨RX11, "hasEnough", "(I)Z"⟩
abbrev cX11_planMoves : ByteArray := prog_1_method_48_code
def yX11_planMoves : MethodName := ⟨RX11, "planMoves", "()Z"⟩
abbrev cX11_leastMonth : ByteArray := prog_1_method_49_code
def yX11_leastMonth : MethodName := ⟨RX11, "leastMonth", "(I)I"⟩
abbrev cX11_isWithin : ByteArray := prog_1_method_50_code
def yX11_isWithin : MethodName := ⟨RX11, "isWithin", "(III)Z"⟩
abbrev cX11_isKind : ByteArray := prog_1_method_51_code
def yX11_isKind : MethodName := ⟨RX11, "isKind", "(I)Z"⟩
abbrev cX11_isMonth : ByteArray := prog_1_method_52_code
def yX11_isMonth : MethodName := ⟨RX11, "isMonth", "(I)Z"⟩
abbrev cX11_isSlot : ByteArray := prog_1_method_53_code
def yX11_isSlot : MethodName := ⟨RX11, "isSlot", "(I)Z"⟩
abbrev cX11_isPerson : ByteArray := prog_1_method_54_code
def yX11_isPerson : MethodName := ⟨RX11, "isPerson", "(I)Z"⟩
abbrev cX11_isSheet : ByteArray := prog_1_method_55_code
def yX11_isSheet : MethodName := ⟨RX11, "isSheet", "(I)Z"⟩
abbrev cX11_isUnder : ByteArray := prog_1_method_56_code
def yX11_isUnder : MethodName := ⟨RX11, "isUnder", "(II)Z"⟩
abbrev cX11_hasBit : ByteArray := prog_1_method_57_code
def yX11_hasBit : MethodName := ⟨RX11, "hasBit", "(II)Z"⟩
abbrev cX11_with : ByteArray := prog_1_method_58_code
def yX11_with : MethodName := ⟨RX11, "with", "(II)I"⟩
abbrev cX11_without : ByteArray := prog_1_method_59_code
def yX11_without : MethodName := ⟨RX11, "without", "(II)I"⟩
abbrev cX11_oneIf : ByteArray := prog_1_method_60_code
def yX11_oneIf : MethodName := ⟨RX11, "oneIf", "(Z)I"⟩
abbrev cX11_quotientUpwards : ByteArray := prog_1_method_61_code
def yX11_quotientUpwards : MethodName := ⟨RX11, "quotientUpwards", "(JJ)J"⟩
def RX12 : String := "SmallRoomsModel"
def TX12 : u_T := fun k => match k with
  | 0 => ("SmallRoomsModel", "d", "[I", true)
  | 1 => ("SmallRoomsModel", "was", "[I", true)
  | 2 => ("SmallRoomsModel", "kept", "I", false)
  | 3 => ("SmallRoomsModel", "findings", "I", false)
  | 4 => ("SmallRoomsModel", "bits", "[I", true)
  | 5 => ("SmallRoomsModel", "sizes", "[I", true)
  | 6 => ("SmallRoomsModel", "numbers", "[I", true)
  | 7 => ("SmallRoomsModel", "pile", "[I", true)
  | 8 => ("SmallRoomsModel", "piled", "I", false)
  | 9 => ("SmallRoomsModel", "counts", "[I", true)
  | 10 => ("SmallRoomsModel", "sets", "[I", true)
  | 11 => ("SmallRoomsModel", "needs", "[I", true)
  | 12 => ("SmallRoomsModel", "filled", "[Z", true)
  | 13 => ("SmallRoomsModel", "tried", "[I", true)
  | 14 => ("SmallRoomsModel", "best", "[I", true)
  | 15 => ("SmallRoomsModel", "fewest", "I", false)
  | 16 => ("SmallRoomsModel", "there", "[I", true)
  | 17 => ("SmallRoomsModel", "begins", "[I", true)
  | 18 => ("SmallRoomsModel", "shiftMany", "I", false)
  | _ => ("SmallRoomsModel", "carried", "[I", true)
def tyX12 : Nat → FieldType := fun k => match k with
  | 0 => .array .int
  | 1 => .array .int
  | 2 => .int
  | 3 => .int
  | 4 => .array .int
  | 5 => .array .int
  | 6 => .array .int
  | 7 => .array .int
  | 8 => .int
  | 9 => .array .int
  | 10 => .array .int
  | 11 => .array .int
  | 12 => .array .boolean
  | 13 => .array .int
  | 14 => .array .int
  | 15 => .int
  | 16 => .array .int
  | 17 => .array .int
  | 18 => .int
  | _ => .array .int
abbrev wsX120 : List Cond := u_ws RX12 TX12 20
theorem nmX12 : ∀ a, a < 20 → ∀ b, b < 20 → a ≠ b → (TX12 a).2.1 ≠ (TX12 b).2.1 := by decide +kernel
theorem tyX12_ok : ∀ k, k < 20 → parseFieldDescriptor (TX12 k).2.2.1 = some (tyX12 k) := by decide +kernel
abbrev cX12_init : ByteArray := prog_14_method_1_code
def yX12_init : MethodName := ⟨RX12, "<init>", "()V"⟩
abbrev cX12_finding : ByteArray := prog_14_method_2_code
def yX12_finding : MethodName := ⟨RX12, "finding", "(I)I"⟩
abbrev cX12_isIn : ByteArray := prog_14_method_3_code
def yX12_isIn : MethodName := ⟨RX12, "isIn", "(III)Z"⟩
abbrev cX12_keep : ByteArray := prog_14_method_4_code
def yX12_keep : MethodName := ⟨RX12, "keep", "()V"⟩
abbrev cX12_isRoom : ByteArray := prog_14_method_5_code
def yX12_isRoom : MethodName := ⟨RX12, "isRoom", "(I)Z"⟩
abbrev cX12_isHand : ByteArray := prog_14_method_6_code
def yX12_isHand : MethodName := ⟨RX12, "isHand", "(I)Z"⟩
abbrev cX12_isChild : ByteArray := prog_14_method_7_code
def yX12_isChild : MethodName := ⟨RX12, "isChild", "(I)Z"⟩
abbrev cX12_ones : ByteArray := prog_14_method_8_code
def yX12_ones : MethodName := ⟨RX12, "ones", "(I)I"⟩
abbrev cX12_room : ByteArray := prog_14_method_9_code
def yX12_room : MethodName := ⟨RX12, "room", "(II)I"⟩
abbrev cX12_hand : ByteArray := prog_14_method_10_code
def yX12_hand : MethodName := ⟨RX12, "hand", "(I)I"⟩
abbrev cX12_isTrained : ByteArray := prog_14_method_11_code
def yX12_isTrained : MethodName := ⟨RX12, "isTrained", "(I)Z"⟩
abbrev cX12_as : ByteArray := prog_14_method_12_code
def yX12_as : MethodName := ⟨RX12, "as", "(II)I"⟩
abbrev cX12_child : ByteArray := prog_14_method_13_code
def yX12_child : MethodName := ⟨RX12, "child", "(IIII)I"⟩
abbrev cX12_childIs : ByteArray := prog_14_method_14_code
def yX12_childIs : MethodName := ⟨RX12, "childIs", "(II)I"⟩
abbrev cX12_takes : ByteArray := prog_14_method_15_code
def yX12_takes : MethodName := ⟨RX12, "takes", "(II)Z"⟩
abbrev cX12_roomIn : ByteArray := prog_14_method_16_code
def yX12_roomIn : MethodName := ⟨RX12, "roomIn", "(II)I"⟩
abbrev cX12_isMonth : ByteArray := prog_14_method_17_code
def yX12_isMonth : MethodName := ⟨RX12, "isMonth", "(I)Z"⟩
abbrev cX12_roomOf : ByteArray := prog_14_method_18_code
def yX12_roomOf : MethodName := ⟨RX12, "roomOf", "(II)I"⟩
abbrev cX12_month : ByteArray := prog_14_method_19_code
def yX12_month : MethodName := ⟨RX12, "month", "(I)I"⟩
abbrev cX12_slot : ByteArray := prog_14_method_20_code
def yX12_slot : MethodName := ⟨RX12, "slot", "(I)I"⟩
abbrev cX12_day : ByteArray := prog_14_method_21_code
def yX12_day : MethodName := ⟨RX12, "day", "()I"⟩
abbrev cX12_childrenIn : ByteArray := prog_14_method_22_code
def yX12_childrenIn : MethodName := ⟨RX12, "childrenIn", "(I)I"⟩
abbrev cX12_lead : ByteArray := prog_14_method_23_code
def yX12_lead : MethodName := ⟨RX12, "lead", "(IIIIII)V"⟩
abbrev cX12_leadRoll : ByteArray := prog_14_method_24_code
def yX12_leadRoll : MethodName := ⟨RX12, "leadRoll", "(II)V"⟩
abbrev cX12_leadSleep : ByteArray := prog_14_method_25_code
def yX12_leadSleep : MethodName := ⟨RX12, "leadSleep", "(II)V"⟩
abbrev cX12_in : ByteArray := prog_14_method_26_code
def yX12_in : MethodName := ⟨RX12, "in", "(II)I"⟩
abbrev cX12_to : ByteArray := prog_14_method_27_code
def yX12_to : MethodName := ⟨RX12, "to", "(II)I"⟩
abbrev cX12_over : ByteArray := prog_14_method_28_code
def yX12_over : MethodName := ⟨RX12, "over", "(II)I"⟩
abbrev cX12_fetches : ByteArray := prog_14_method_29_code
def yX12_fetches : MethodName := ⟨RX12, "fetches", "(IIZ)I"⟩
abbrev cX12_place : ByteArray := prog_14_method_30_code
def yX12_place : MethodName := ⟨RX12, "place", "(II)I"⟩
abbrev cX12_ill : ByteArray := prog_14_method_31_code
def yX12_ill : MethodName := ⟨RX12, "ill", "(I)I"⟩
abbrev cX12_goes : ByteArray := prog_14_method_32_code
def yX12_goes : MethodName := ⟨RX12, "goes", "(I)Z"⟩
abbrev cX12_read : ByteArray := prog_14_method_33_code
def yX12_read : MethodName := ⟨RX12, "read", "()I"⟩
abbrev cX12_upwards : ByteArray := prog_14_method_34_code
def yX12_upwards : MethodName := ⟨RX12, "upwards", "(II)I"⟩
abbrev cX12_needOf : ByteArray := prog_14_method_35_code
def yX12_needOf : MethodName := ⟨RX12, "needOf", "(I)I"⟩
abbrev cX12_worthOf : ByteArray := prog_14_method_36_code
def yX12_worthOf : MethodName := ⟨RX12, "worthOf", "(I)I"⟩
abbrev cX12_handsIn : ByteArray := prog_14_method_37_code
def yX12_handsIn : MethodName := ⟨RX12, "handsIn", "(I)I"⟩
abbrev cX12_areEnough : ByteArray := prog_14_method_38_code
def yX12_areEnough : MethodName := ⟨RX12, "areEnough", "(IIZ)Z"⟩
abbrev cX12_hasEnough : ByteArray := prog_14_method_39_code
def yX12_hasEnough : MethodName := ⟨RX12, "hasEnough", "(I)Z"⟩
abbrev cX12_now : ByteArray := prog_14_method_40_code
def yX12_now : MethodName := ⟨RX12, "now", "(II)I"⟩
abbrev cX12_lacking : ByteArray := prog_14_method_41_code
def yX12_lacking : MethodName := ⟨RX12, "lacking", "()I"⟩
abbrev cX12_tries : ByteArray := prog_14_method_42_code
def yX12_tries : MethodName := ⟨RX12, "tries", "(II)V"⟩
abbrev cX12_findMoves : ByteArray := prog_14_method_43_code
def yX12_findMoves : MethodName := ⟨RX12, "findMoves", "()Z"⟩
abbrev cX12_moves : ByteArray := prog_14_method_44_code
def yX12_moves : MethodName := ⟨RX12, "moves", "()I"⟩
abbrev cX12_moved : ByteArray := prog_14_method_45_code
def yX12_moved : MethodName := ⟨RX12, "moved", "(I)I"⟩
abbrev cX12_move : ByteArray := prog_14_method_46_code
def yX12_move : MethodName := ⟨RX12, "move", "()I"⟩
abbrev cX12_wasIn : ByteArray := prog_14_method_47_code
def yX12_wasIn : MethodName := ⟨RX12, "wasIn", "(II)Z"⟩
abbrev cX12_roll : ByteArray := prog_14_method_48_code
def yX12_roll : MethodName := ⟨RX12, "roll", "(II)I"⟩
abbrev cX12_sleeps : ByteArray := prog_14_method_49_code
def yX12_sleeps : MethodName := ⟨RX12, "sleeps", "(IZ)I"⟩
abbrev cX12_look : ByteArray := prog_14_method_50_code
def yX12_look : MethodName := ⟨RX12, "look", "(I)I"⟩
abbrev cX12_missed : ByteArray := prog_14_method_51_code
def yX12_missed : MethodName := ⟨RX12, "missed", "(IZ)I"⟩
abbrev cX12_needed : ByteArray := prog_14_method_52_code
def yX12_needed : MethodName := ⟨RX12, "needed", "(III)I"⟩
abbrev cX12_longer : ByteArray := prog_14_method_53_code
def yX12_longer : MethodName := ⟨RX12, "longer", "(I)I"⟩
abbrev cX12_putShift : ByteArray := prog_14_method_54_code
def yX12_putShift : MethodName := ⟨RX12, "putShift", "(I)V"⟩
abbrev cX12_findShifts : ByteArray := prog_14_method_55_code
def yX12_findShifts : MethodName := ⟨RX12, "findShifts", "()V"⟩
abbrev cX12_shifts : ByteArray := prog_14_method_56_code
def yX12_shifts : MethodName := ⟨RX12, "shifts", "(I)I"⟩
abbrev cX12_proves : ByteArray := prog_14_method_57_code
def yX12_proves : MethodName := ⟨RX12, "proves", "(I)I"⟩
abbrev cX12_listed : ByteArray := prog_14_method_58_code
def yX12_listed : MethodName := ⟨RX12, "listed", "(I)I"⟩
abbrev cX12_waits : ByteArray := prog_14_method_59_code
def yX12_waits : MethodName := ⟨RX12, "waits", "(I)I"⟩
abbrev cX12_areSiblings : ByteArray := prog_14_method_60_code
def yX12_areSiblings : MethodName := ⟨RX12, "areSiblings", "(II)Z"⟩
abbrev cX12_hasSibling : ByteArray := prog_14_method_61_code
def yX12_hasSibling : MethodName := ⟨RX12, "hasSibling", "(I)Z"⟩
abbrev cX12_list : ByteArray := prog_14_method_62_code
def yX12_list : MethodName := ⟨RX12, "list", "(I)I"⟩
abbrev cX12_haveIn : ByteArray := prog_14_method_63_code
def yX12_haveIn : MethodName := ⟨RX12, "haveIn", "(III)I"⟩
abbrev cX12_can : ByteArray := prog_14_method_64_code
def yX12_can : MethodName := ⟨RX12, "can", "(II)Z"⟩
abbrev cX12_leastMonth : ByteArray := prog_14_method_65_code
def yX12_leastMonth : MethodName := ⟨RX12, "leastMonth", "(I)I"⟩
abbrev cX12_earliest : ByteArray := prog_14_method_66_code
def yX12_earliest : MethodName := ⟨RX12, "earliest", "(I)I"⟩
abbrev cX12_admit : ByteArray := prog_14_method_67_code
def yX12_admit : MethodName := ⟨RX12, "admit", "(I)I"⟩
abbrev cX12_places : ByteArray := prog_14_method_68_code
def yX12_places : MethodName := ⟨RX12, "places", "(III)I"⟩
abbrev cX12_rate : ByteArray := prog_14_method_69_code
def yX12_rate : MethodName := ⟨RX12, "rate", "(I)I"⟩
abbrev cX12_bill : ByteArray := prog_14_method_70_code
def yX12_bill : MethodName := ⟨RX12, "bill", "(IIIZ)I"⟩
abbrev cX12_isSheet : ByteArray := prog_14_method_71_code
def yX12_isSheet : MethodName := ⟨RX12, "isSheet", "(I)Z"⟩
abbrev cX12_text : ByteArray := prog_14_method_72_code
def yX12_text : MethodName := ⟨RX12, "text", "(I)I"⟩
abbrev cX12_wrong : ByteArray := prog_14_method_73_code
def yX12_wrong : MethodName := ⟨RX12, "wrong", "()I"⟩
abbrev cX12_lowest : ByteArray := prog_14_method_74_code
def yX12_lowest : MethodName := ⟨RX12, "lowest", "(II)I"⟩
abbrev cX12_sheet : ByteArray := prog_14_method_75_code
def yX12_sheet : MethodName := ⟨RX12, "sheet", "(III)I"⟩
abbrev cX12_put : ByteArray := prog_14_method_76_code
def yX12_put : MethodName := ⟨RX12, "put", "(III)I"⟩
abbrev cX12_copy : ByteArray := prog_14_method_77_code
def yX12_copy : MethodName := ⟨RX12, "copy", "(IIIII)I"⟩
abbrev cX12_undo : ByteArray := prog_14_method_78_code
def yX12_undo : MethodName := ⟨RX12, "undo", "()I"⟩
abbrev cX12_all : ByteArray := prog_14_method_79_code
def yX12_all : MethodName := ⟨RX12, "all", "(I)I"⟩
def RJ6 : String := "java/lang/Integer"
def TJ6 : u_T := fun k => match k with
  | _ => ("", "", "", false)
def tyJ6 : Nat → FieldType := fun k => match k with
  | _ => .int
abbrev wsJ60 : List Cond := u_ws RJ6 TJ6 0
theorem nmJ6 : ∀ a, a < 0 → ∀ b, b < 0 → a ≠ b → (TJ6 a).2.1 ≠ (TJ6 b).2.1 := by decide +kernel
theorem tyJ6_ok : ∀ k, k < 0 → parseFieldDescriptor (TJ6 k).2.2.1 = some (tyJ6 k) := by decide +kernel
abbrev cJ6_bitCount_0f7a4 : ByteArray := prog_15_method_49_code
def yJ6_bitCount_0f7a4 : MethodName := ⟨RJ6, "bitCount", "(I)I"⟩
def RJ9 : String := "java/lang/Math"
def TJ9 : u_T := fun k => match k with
  | _ => ("", "", "", false)
def tyJ9 : Nat → FieldType := fun k => match k with
  | _ => .int
abbrev wsJ90 : List Cond := u_ws RJ9 TJ9 0
theorem nmJ9 : ∀ a, a < 0 → ∀ b, b < 0 → a ≠ b → (TJ9 a).2.1 ≠ (TJ9 b).2.1 := by decide +kernel
theorem tyJ9_ok : ∀ k, k < 0 → parseFieldDescriptor (TJ9 k).2.2.1 = some (tyJ9 k) := by decide +kernel
abbrev cJ9_floorDiv_f86c9 : ByteArray := prog_16_method_49_code
def yJ9_floorDiv_f86c9 : MethodName := ⟨RJ9, "floorDiv", "(JJ)J"⟩
abbrev cJ9_max_7cf53 : ByteArray := prog_16_method_65_code
def yJ9_max_7cf53 : MethodName := ⟨RJ9, "max", "(II)I"⟩
abbrev cJ9_max_f86c9 : ByteArray := prog_16_method_66_code
def yJ9_max_f86c9 : MethodName := ⟨RJ9, "max", "(JJ)J"⟩
abbrev cJ9_min_7cf53 : ByteArray := prog_16_method_69_code
def yJ9_min_7cf53 : MethodName := ⟨RJ9, "min", "(II)I"⟩
abbrev cJ9_min_f86c9 : ByteArray := prog_16_method_70_code
def yJ9_min_f86c9 : MethodName := ⟨RJ9, "min", "(JJ)J"⟩
def RJ10 : String := "java/lang/System"
def TJ10 : u_T := fun k => match k with
  | _ => ("", "", "", false)
def tyJ10 : Nat → FieldType := fun k => match k with
  | _ => .int
abbrev wsJ100 : List Cond := u_ws RJ10 TJ10 0
theorem nmJ10 : ∀ a, a < 0 → ∀ b, b < 0 → a ≠ b → (TJ10 a).2.1 ≠ (TJ10 b).2.1 := by decide +kernel
theorem tyJ10_ok : ∀ k, k < 0 → parseFieldDescriptor (TJ10 k).2.2.1 = some (tyJ10 k) := by decide +kernel
def RJ7 : String := "java/util/Arrays"
def TJ7 : u_T := fun k => match k with
  | _ => ("", "", "", false)
def tyJ7 : Nat → FieldType := fun k => match k with
  | _ => .int
abbrev wsJ70 : List Cond := u_ws RJ7 TJ7 0
theorem nmJ7 : ∀ a, a < 0 → ∀ b, b < 0 → a ≠ b → (TJ7 a).2.1 ≠ (TJ7 b).2.1 := by decide +kernel
theorem tyJ7_ok : ∀ k, k < 0 → parseFieldDescriptor (TJ7 k).2.2.1 = some (tyJ7 k) := by decide +kernel
abbrev cJ7_fill_53178 : ByteArray := prog_18_method_103_code
def yJ7_fill_53178 : MethodName := ⟨RJ7, "fill", "([II)V"⟩
def RL : String := "SmallRoomsLaw"
abbrev cL_law : ByteArray := code
def yL_law : MethodName := ⟨RL, "law", "([I)Z"⟩
def wsL_law_r1 : List Cond := [Cond.classLink RL 7 RX11, Cond.instantiable RX11 7, Cond.initialized RX11, Cond.classLink RL 10 RX12, Cond.instantiable RX12 20, Cond.initialized RX12, Cond.methodLink RL 9 yX11_init, Cond.instanceMethod yX11_init, Cond.code yX11_init cX11_init 2 none, Cond.methodLink RX11 1 objectInit, Cond.instanceMethod objectInit, Cond.code objectInit ⟨#[0xb1]⟩ 1 none, Cond.classLink RX11 7 RX4, Cond.instantiable RX4 11, Cond.initialized RX4, Cond.fieldLink RX11 10 "SmallRooms" "nursery" "LSmallRooms$Nursery;", Cond.classLink RX11 16 RX2, Cond.instantiable RX2 3, Cond.initialized RX2, Cond.fieldLink RX11 19 "SmallRooms" "history" "LSmallRooms$History;", Cond.classLink RX11 23 RX7, Cond.instantiable RX7 2, Cond.initialized RX7, Cond.fieldLink RX11 26 "SmallRooms" "reckoning" "LSmallRooms$Reckoning;"]
def wsL_law_r2 : List Cond := [Cond.classLink RX11 30 RX5, Cond.instantiable RX5 5, Cond.initialized RX5, Cond.fieldLink RX11 33 "SmallRooms" "planner" "LSmallRooms$Planner;", Cond.classLink RX11 37 RX10, Cond.instantiable RX10 1, Cond.initialized RX10, Cond.fieldLink RX11 40 "SmallRooms" "shiftPlan" "LSmallRooms$ShiftPlan;", Cond.classLink RX11 44 RX9, Cond.fieldLink RX11 46 "SmallRooms" "sheets" "[LSmallRooms$Sheet;", Cond.instantiable RX9 3, Cond.initialized RX9, Cond.instanceMethod yX4_init, Cond.code yX4_init cX4_init 1 none, Cond.methodLink RX4 3 objectInit, Cond.classLink RX4 9 RX8, Cond.instantiable RX8 4, Cond.initialized RX8, Cond.fieldLink RX4 12 "SmallRooms$Nursery" "rooms" "LSmallRooms$Rooms;", Cond.classLink RX4 18 RX1, Cond.instantiable RX1 4, Cond.initialized RX1, Cond.fieldLink RX4 21 "SmallRooms$Nursery" "hands" "LSmallRooms$Hands;", Cond.classLink RX4 25 RX0]
def wsL_law_r3 : List Cond := [Cond.instantiable RX0 12, Cond.initialized RX0, Cond.fieldLink RX4 28 "SmallRooms$Nursery" "children" "LSmallRooms$Children;", Cond.classLink RX4 32 RX3, Cond.instantiable RX3 4, Cond.initialized RX3, Cond.fieldLink RX4 35 "SmallRooms$Nursery" "roll" "LSmallRooms$Log;", Cond.fieldLink RX4 39 "SmallRooms$Nursery" "sleep" "LSmallRooms$Log;", Cond.classLink RX4 42 RX6, Cond.instantiable RX6 3, Cond.initialized RX6, Cond.fieldLink RX4 45 "SmallRooms$Nursery" "ratio" "LSmallRooms$Ratio;", Cond.arrayClass .int, Cond.fieldLink RX4 49 "SmallRooms$Nursery" "needed" "[I", Cond.fieldLink RX4 53 "SmallRooms$Nursery" "longSlots" "I", Cond.fieldLink RX4 57 "SmallRooms$Nursery" "rate" "I", Cond.instanceMethod yX8_init, Cond.code yX8_init cX8_init 1 none, Cond.methodLink RX8 3 objectInit, Cond.fieldLink RX8 9 "SmallRooms$Rooms" "from" "[I", Cond.fieldLink RX8 15 "SmallRooms$Rooms" "to" "[I", Cond.fieldLink RX8 18 "SmallRooms$Rooms" "most" "[I", Cond.instanceMethod yX1_init, Cond.code yX1_init cX1_init 1 none]
def wsL_law_r4 : List Cond := [Cond.methodLink RX1 3 objectInit, Cond.fieldLink RX1 9 "SmallRooms$Hands" "kind" "[I", Cond.fieldLink RX1 15 "SmallRooms$Hands" "room" "[I", Cond.instanceMethod yX0_init, Cond.code yX0_init cX0_init 1 none, Cond.methodLink RX0 3 objectInit, Cond.fieldLink RX0 9 "SmallRooms$Children" "birth" "[I", Cond.fieldLink RX0 15 "SmallRooms$Children" "sibling" "[I", Cond.fieldLink RX0 18 "SmallRooms$Children" "sessions" "[I", Cond.fieldLink RX0 21 "SmallRooms$Children" "first" "[I", Cond.fieldLink RX0 24 "SmallRooms$Children" "last" "[I", Cond.fieldLink RX0 27 "SmallRooms$Children" "room" "[I", Cond.fieldLink RX0 30 "SmallRooms$Children" "persons" "[I", Cond.fieldLink RX0 33 "SmallRooms$Children" "waiting" "[I", Cond.instanceMethod yX3_init, Cond.code yX3_init cX3_init 1 none, Cond.methodLink RX3 3 objectInit, Cond.fieldLink RX3 9 "SmallRooms$Log" "slots" "[I", Cond.fieldLink RX3 15 "SmallRooms$Log" "children" "[I", Cond.fieldLink RX3 18 "SmallRooms$Log" "acts" "[I", Cond.instanceMethod yX6_init, Cond.code yX6_init cX6_init 1 none, Cond.methodLink RX6 3 objectInit, Cond.fieldLink RX6 9 "SmallRooms$Ratio" "signs" "[I"]
def wsL_law_r5 : List Cond := [Cond.instanceMethod yX2_init, Cond.code yX2_init cX2_init 1 none, Cond.methodLink RX2 3 objectInit, Cond.classLink RX2 9 RX4, Cond.fieldLink RX2 11 "SmallRooms$History" "kept" "[LSmallRooms$Nursery;", Cond.instanceMethod yX7_init, Cond.code yX7_init cX7_init 1 none, Cond.methodLink RX7 3 objectInit, Cond.fieldLink RX7 9 "SmallRooms$Reckoning" "counted" "[I", Cond.arrayClass .long, Cond.fieldLink RX7 15 "SmallRooms$Reckoning" "row" "[J", Cond.instanceMethod yX5_init, Cond.code yX5_init cX5_init 1 none, Cond.methodLink RX5 3 objectInit, Cond.fieldLink RX5 11 "SmallRooms$Planner" "least" "[I", Cond.fieldLink RX5 15 "SmallRooms$Planner" "cost" "[I", Cond.fieldLink RX5 18 "SmallRooms$Planner" "worth" "[I", Cond.instanceMethod yX10_init, Cond.code yX10_init cX10_init 1 none, Cond.methodLink RX10 3 objectInit, Cond.fieldLink RX10 9 "SmallRooms$ShiftPlan" "begins" "[I", Cond.instanceMethod yX9_init, Cond.code yX9_init cX9_init 1 none, Cond.methodLink RX9 3 objectInit]
def wsL_law_r6 : List Cond := [Cond.fieldLink RX9 9 "SmallRooms$Sheet" "numbers" "[I", Cond.methodLink RL 12 yX12_init, Cond.instanceMethod yX12_init, Cond.code yX12_init cX12_init 1 none, Cond.methodLink RX12 1 objectInit, Cond.fieldLink RX12 7 "SmallRoomsModel" "d" "[I", Cond.fieldLink RX12 13 "SmallRoomsModel" "was" "[I", Cond.fieldLink RX12 16 "SmallRoomsModel" "bits" "[I", Cond.fieldLink RX12 19 "SmallRoomsModel" "sizes" "[I", Cond.fieldLink RX12 22 "SmallRoomsModel" "numbers" "[I", Cond.fieldLink RX12 25 "SmallRoomsModel" "pile" "[I", Cond.fieldLink RX12 28 "SmallRoomsModel" "counts" "[I", Cond.fieldLink RX12 31 "SmallRoomsModel" "sets" "[I", Cond.fieldLink RX12 34 "SmallRoomsModel" "needs" "[I", Cond.arrayClass .boolean, Cond.fieldLink RX12 37 "SmallRoomsModel" "filled" "[Z", Cond.fieldLink RX12 41 "SmallRoomsModel" "tried" "[I", Cond.fieldLink RX12 44 "SmallRoomsModel" "best" "[I", Cond.fieldLink RX12 47 "SmallRoomsModel" "there" "[I", Cond.fieldLink RX12 50 "SmallRoomsModel" "begins" "[I", Cond.fieldLink RX12 53 "SmallRoomsModel" "carried" "[I", Cond.methodLink RL 13 yX11_room, Cond.instanceMethod yX11_room, Cond.selects RX11 yX11_room yX11_room]
def wsL_law_r7 : List Cond := [Cond.code yX11_room cX11_room 5 (some .int), Cond.constant RX11 55 (-100001), Cond.constant RX11 60 (-100003), Cond.fieldLink RX11 61 "SmallRooms$Nursery" "rooms" "LSmallRooms$Rooms;", Cond.fieldLink RX11 65 "SmallRooms$Rooms" "count" "I", Cond.constant RX11 71 (-100005), Cond.methodLink RX11 51 yX11_isWithin, Cond.static yX11_isWithin, Cond.code yX11_isWithin cX11_isWithin 3 (some .boolean), Cond.methodLink RX11 56 yX11_finding, Cond.instanceMethod yX11_finding, Cond.selects RX11 yX11_finding yX11_finding, Cond.code yX11_finding cX11_finding 2 (some .int), Cond.fieldLink RX11 364 "SmallRooms" "findings" "I", Cond.methodLink RX11 72 yX11_keep, Cond.instanceMethod yX11_keep, Cond.selects RX11 yX11_keep yX11_keep, Cond.code yX11_keep cX11_keep 1 none, Cond.methodLink RX11 367 yX2_add, Cond.instanceMethod yX2_add, Cond.selects RX2 yX2_add yX2_add, Cond.code yX2_add cX2_add 2 none, Cond.fieldLink RX2 17 "SmallRooms$History" "next" "I", Cond.fieldLink RX2 26 "SmallRooms$History" "count" "I"]
def wsL_law_r8 : List Cond := [Cond.methodLink RX2 29 Lib.Math.min.name, Cond.static Lib.Math.min.name, Cond.initialized "java/lang/Math", Cond.code Lib.Math.min.name Lib.Math.min.code 2 (some .int), Cond.methodLink RX2 22 yX4_become, Cond.instanceMethod yX4_become, Cond.selects RX4 yX4_become yX4_become, Cond.code yX4_become cX4_become 2 none, Cond.methodLink RX4 159 arraycopyName, Cond.native arraycopyName, Cond.static arraycopyName, Cond.initialized "java/lang/System", Cond.fieldLink RX4 60 "SmallRooms$Nursery" "month" "I", Cond.fieldLink RX4 93 "SmallRooms$Nursery" "slot" "I", Cond.methodLink RX4 143 yX8_become, Cond.instanceMethod yX8_become, Cond.selects RX8 yX8_become yX8_become, Cond.code yX8_become cX8_become 2 none, Cond.fieldLink RX8 21 "SmallRooms$Rooms" "count" "I", Cond.methodLink RX8 25 arraycopyName, Cond.methodLink RX4 147 yX1_become, Cond.instanceMethod yX1_become, Cond.selects RX1 yX1_become yX1_become, Cond.code yX1_become cX1_become 2 none]
def wsL_law_r9 : List Cond := [Cond.fieldLink RX1 18 "SmallRooms$Hands" "count" "I", Cond.methodLink RX1 43 arraycopyName, Cond.fieldLink RX1 22 "SmallRooms$Hands" "ill" "I", Cond.methodLink RX4 150 yX0_become, Cond.instanceMethod yX0_become, Cond.selects RX0 yX0_become yX0_become, Cond.code yX0_become cX0_become 2 none, Cond.fieldLink RX0 36 "SmallRooms$Children" "count" "I", Cond.fieldLink RX0 69 "SmallRooms$Children" "waiters" "I", Cond.methodLink RX0 84 arraycopyName, Cond.fieldLink RX0 40 "SmallRooms$Children" "asleep" "I", Cond.fieldLink RX0 47 "SmallRooms$Children" "admitted" "I", Cond.methodLink RX4 153 yX3_become, Cond.instanceMethod yX3_become, Cond.selects RX3 yX3_become yX3_become, Cond.code yX3_become cX3_become 2 none, Cond.fieldLink RX3 21 "SmallRooms$Log" "count" "I", Cond.methodLink RX3 28 arraycopyName, Cond.methodLink RX4 156 yX6_become, Cond.instanceMethod yX6_become, Cond.selects RX6 yX6_become yX6_become, Cond.code yX6_become cX6_become 2 none, Cond.fieldLink RX6 27 "SmallRooms$Ratio" "count" "I", Cond.fieldLink RX6 43 "SmallRooms$Ratio" "wrongAt" "I"]
def wsL_law_r10 : List Cond := [Cond.methodLink RX6 33 arraycopyName, Cond.methodLink RX11 75 yX8_add, Cond.instanceMethod yX8_add, Cond.selects RX8 yX8_add yX8_add, Cond.code yX8_add cX8_add 4 (some .int), Cond.methodLink RL 17 yX12_room, Cond.instanceMethod yX12_room, Cond.selects RX12 yX12_room yX12_room, Cond.code yX12_room cX12_room 4 (some .int), Cond.methodLink RX12 64 yX12_isIn, Cond.static yX12_isIn, Cond.code yX12_isIn cX12_isIn 3 (some .boolean), Cond.methodLink RX12 68 yX12_finding, Cond.instanceMethod yX12_finding, Cond.selects RX12 yX12_finding yX12_finding, Cond.code yX12_finding cX12_finding 2 (some .int), Cond.fieldLink RX12 56 "SmallRoomsModel" "findings" "I", Cond.constant RX12 60 (-100000), Cond.methodLink RX12 72 yX12_keep, Cond.instanceMethod yX12_keep, Cond.selects RX12 yX12_keep yX12_keep, Cond.code yX12_keep cX12_keep 2 none, Cond.fieldLink RX12 61 "SmallRoomsModel" "kept" "I", Cond.methodLink RL 18 yX11_hand]
def wsL_law_r11 : List Cond := [Cond.instanceMethod yX11_hand, Cond.selects RX11 yX11_hand yX11_hand, Cond.code yX11_hand cX11_hand 2 (some .int), Cond.fieldLink RX11 83 "SmallRooms$Nursery" "hands" "LSmallRooms$Hands;", Cond.fieldLink RX11 87 "SmallRooms$Hands" "count" "I", Cond.methodLink RX11 79 yX11_isKind, Cond.static yX11_isKind, Cond.code yX11_isKind cX11_isKind 1 (some .boolean), Cond.methodLink RX11 90 yX1_add, Cond.instanceMethod yX1_add, Cond.selects RX1 yX1_add yX1_add, Cond.code yX1_add cX1_add 2 (some .int), Cond.static yX11_without, Cond.code yX11_without cX11_without 2 (some .int), Cond.methodLink RL 22 yX12_hand, Cond.instanceMethod yX12_hand, Cond.selects RX12 yX12_hand yX12_hand, Cond.code yX12_hand cX12_hand 3 (some .int), Cond.methodLink RL 23 yX11_as, Cond.instanceMethod yX11_as, Cond.selects RX11 yX11_as yX11_as, Cond.code yX11_as cX11_as 3 (some .int), Cond.fieldLink RX11 95 "SmallRooms$Hands" "kind" "[I", Cond.constant RX11 103 (-100004)]
def wsL_law_r12 : List Cond := [Cond.methodLink RX11 92 yX1_has, Cond.instanceMethod yX1_has, Cond.selects RX1 yX1_has yX1_has, Cond.code yX1_has cX1_has 2 (some .boolean), Cond.methodLink RX11 99 yX11_isUnder, Cond.static yX11_isUnder, Cond.code yX11_isUnder cX11_isUnder 2 (some .boolean), Cond.methodLink RL 26 yX12_as, Cond.instanceMethod yX12_as, Cond.selects RX12 yX12_as yX12_as, Cond.code yX12_as cX12_as 3 (some .int), Cond.methodLink RX12 75 yX12_isHand, Cond.instanceMethod yX12_isHand, Cond.selects RX12 yX12_isHand yX12_isHand, Cond.code yX12_isHand cX12_isHand 2 (some .boolean), Cond.methodLink RX12 79 yX12_isTrained, Cond.instanceMethod yX12_isTrained, Cond.selects RX12 yX12_isTrained yX12_isTrained, Cond.code yX12_isTrained cX12_isTrained 2 (some .boolean), Cond.methodLink RL 27 yX11_child, Cond.instanceMethod yX11_child, Cond.selects RX11 yX11_child yX11_child, Cond.code yX11_child cX11_child 8 (some .int), Cond.fieldLink RX11 104 "SmallRooms$Nursery" "children" "LSmallRooms$Children;"]
def wsL_law_r13 : List Cond := [Cond.fieldLink RX11 114 "SmallRooms$Children" "count" "I", Cond.methodLink RX11 108 yX0_has, Cond.instanceMethod yX0_has, Cond.selects RX0 yX0_has yX0_has, Cond.code yX0_has cX0_has 2 (some .boolean), Cond.methodLink RX11 111 yX11_isMonth, Cond.static yX11_isMonth, Cond.code yX11_isMonth cX11_isMonth 1 (some .boolean), Cond.methodLink RX11 115 yX0_add, Cond.instanceMethod yX0_add, Cond.selects RX0 yX0_add yX0_add, Cond.code yX0_add cX0_add 6 (some .int), Cond.methodLink RL 31 yX12_child, Cond.instanceMethod yX12_child, Cond.selects RX12 yX12_child yX12_child, Cond.code yX12_child cX12_child 6 (some .int), Cond.methodLink RX12 82 yX12_isChild, Cond.instanceMethod yX12_isChild, Cond.selects RX12 yX12_isChild yX12_isChild, Cond.code yX12_isChild cX12_isChild 2 (some .boolean), Cond.methodLink RL 32 yX11_childIs, Cond.instanceMethod yX11_childIs, Cond.selects RX11 yX11_childIs yX11_childIs, Cond.code yX11_childIs cX11_childIs 4 (some .int)]
def wsL_law_r14 : List Cond := [Cond.fieldLink RX11 118 "SmallRooms$Children" "birth" "[I", Cond.fieldLink RX11 121 "SmallRooms$Children" "sibling" "[I", Cond.fieldLink RX11 124 "SmallRooms$Children" "sessions" "[I", Cond.fieldLink RX11 127 "SmallRooms$Children" "first" "[I", Cond.fieldLink RX11 130 "SmallRooms$Children" "last" "[I", Cond.fieldLink RX11 133 "SmallRooms$Children" "room" "[I", Cond.fieldLink RX11 136 "SmallRooms$Children" "asleep" "I", Cond.fieldLink RX11 146 "SmallRooms$Children" "admitted" "I", Cond.fieldLink RX11 149 "SmallRooms$Children" "persons" "[I", Cond.methodLink RX11 139 yX11_hasBit, Cond.static yX11_hasBit, Cond.code yX11_hasBit cX11_hasBit 2 (some .boolean), Cond.methodLink RX11 142 yX11_oneIf, Cond.static yX11_oneIf, Cond.code yX11_oneIf cX11_oneIf 1 (some .int), Cond.methodLink RL 35 yX12_childIs, Cond.instanceMethod yX12_childIs, Cond.selects RX12 yX12_childIs yX12_childIs, Cond.code yX12_childIs cX12_childIs 3 (some .int), Cond.methodLink RL 36 yX11_roomOf, Cond.instanceMethod yX11_roomOf, Cond.selects RX11 yX11_roomOf yX11_roomOf, Cond.code yX11_roomOf cX11_roomOf 4 (some .int), Cond.constant RX11 156 (-100006)]
def wsL_law_r15 : List Cond := [Cond.methodLink RX11 152 yX4_roomInMonth, Cond.instanceMethod yX4_roomInMonth, Cond.selects RX4 yX4_roomInMonth yX4_roomInMonth, Cond.code yX4_roomInMonth cX4_roomInMonth 3 (some .int), Cond.fieldLink RX4 63 "SmallRooms$Children" "birth" "[I", Cond.methodLink RX4 66 yX8_forAge, Cond.instanceMethod yX8_forAge, Cond.selects RX8 yX8_forAge yX8_forAge, Cond.code yX8_forAge cX8_forAge 3 (some .int), Cond.methodLink RL 39 yX12_roomOf, Cond.instanceMethod yX12_roomOf, Cond.selects RX12 yX12_roomOf yX12_roomOf, Cond.code yX12_roomOf cX12_roomOf 4 (some .int), Cond.methodLink RX12 89 yX12_isMonth, Cond.static yX12_isMonth, Cond.code yX12_isMonth cX12_isMonth 1 (some .boolean), Cond.methodLink RX12 92 yX12_roomIn, Cond.instanceMethod yX12_roomIn, Cond.selects RX12 yX12_roomIn yX12_roomIn, Cond.code yX12_roomIn cX12_roomIn 4 (some .int), Cond.methodLink RX12 85 yX12_takes, Cond.instanceMethod yX12_takes, Cond.selects RX12 yX12_takes yX12_takes, Cond.code yX12_takes cX12_takes 3 (some .boolean)]
def wsL_law_r16 : List Cond := [Cond.methodLink RL 40 yX11_month, Cond.instanceMethod yX11_month, Cond.selects RX11 yX11_month yX11_month, Cond.code yX11_month cX11_month 3 (some .int), Cond.fieldLink RX11 157 "SmallRooms$Nursery" "month" "I", Cond.methodLink RL 43 yX12_month, Cond.instanceMethod yX12_month, Cond.selects RX12 yX12_month yX12_month, Cond.code yX12_month cX12_month 3 (some .int), Cond.methodLink RL 44 yX11_slot, Cond.instanceMethod yX11_slot, Cond.selects RX11 yX11_slot yX11_slot, Cond.code yX11_slot cX11_slot 3 (some .int), Cond.fieldLink RX11 163 "SmallRooms$Nursery" "slot" "I", Cond.methodLink RX11 160 yX11_isSlot, Cond.static yX11_isSlot, Cond.code yX11_isSlot cX11_isSlot 1 (some .boolean), Cond.methodLink RL 47 yX12_slot, Cond.instanceMethod yX12_slot, Cond.selects RX12 yX12_slot yX12_slot, Cond.code yX12_slot cX12_slot 3 (some .int), Cond.methodLink RL 48 yX11_day, Cond.instanceMethod yX11_day, Cond.selects RX11 yX11_day yX11_day]
def wsL_law_r17 : List Cond := [Cond.code yX11_day cX11_day 2 (some .int), Cond.methodLink RX11 166 yX0_countIn, Cond.instanceMethod yX0_countIn, Cond.selects RX0 yX0_countIn yX0_countIn, Cond.code yX0_countIn cX0_countIn 1 (some .int), Cond.methodLink RX0 53 yX0_inRoom, Cond.instanceMethod yX0_inRoom, Cond.selects RX0 yX0_inRoom yX0_inRoom, Cond.code yX0_inRoom cX0_inRoom 4 (some .int), Cond.static yX11_with, Cond.code yX11_with cX11_with 2 (some .int), Cond.methodLink RX0 57 yJ6_bitCount_0f7a4, Cond.static yJ6_bitCount_0f7a4, Cond.initialized RJ6, Cond.code yJ6_bitCount_0f7a4 cJ6_bitCount_0f7a4 1 (some .int), Cond.constant RJ6 265 (1431655765), Cond.constant RJ6 266 (858993459), Cond.constant RJ6 267 (252645135), Cond.methodLink RX11 170 yX4_beginDay, Cond.instanceMethod yX4_beginDay, Cond.selects RX4 yX4_beginDay yX4_beginDay, Cond.code yX4_beginDay cX4_beginDay 1 none, Cond.fieldLink RX4 113 "SmallRooms$Hands" "ill" "I", Cond.fieldLink RX4 116 "SmallRooms$Log" "count" "I"]
def wsL_law_r18 : List Cond := [Cond.methodLink RX4 110 yX0_allOut, Cond.instanceMethod yX0_allOut, Cond.selects RX0 yX0_allOut yX0_allOut, Cond.code yX0_allOut cX0_allOut 2 none, Cond.methodLink RL 52 yX12_day, Cond.instanceMethod yX12_day, Cond.selects RX12 yX12_day yX12_day, Cond.code yX12_day cX12_day 3 (some .int), Cond.methodLink RL 53 yX11_in, Cond.instanceMethod yX11_in, Cond.selects RX11 yX11_in yX11_in, Cond.code yX11_in cX11_in 4 (some .int), Cond.constant RX11 174 (-100007), Cond.fieldLink RX11 178 "SmallRooms$Nursery" "roll" "LSmallRooms$Log;", Cond.methodLink RX11 173 yX8_has, Cond.instanceMethod yX8_has, Cond.selects RX8 yX8_has yX8_has, Cond.code yX8_has cX8_has 2 (some .boolean), Cond.methodLink RX11 175 yX4_refusal, Cond.instanceMethod yX4_refusal, Cond.selects RX4 yX4_refusal yX4_refusal, Cond.code yX4_refusal cX4_refusal 3 (some .int), Cond.constant RX4 77 (-100004), Cond.fieldLink RX4 86 "SmallRooms$Rooms" "most" "[I"]
def wsL_law_r19 : List Cond := [Cond.constant RX4 89 (-100005), Cond.methodLink RX4 70 yX4_ageNow, Cond.instanceMethod yX4_ageNow, Cond.selects RX4 yX4_ageNow yX4_ageNow, Cond.code yX4_ageNow cX4_ageNow 2 (some .int), Cond.methodLink RX4 73 yX8_takes, Cond.instanceMethod yX8_takes, Cond.selects RX8 yX8_takes yX8_takes, Cond.code yX8_takes cX8_takes 3 (some .boolean), Cond.methodLink RX4 78 yX0_inRoom, Cond.methodLink RX4 81 yJ6_bitCount_0f7a4, Cond.methodLink RX11 182 yX3_lead, Cond.instanceMethod yX3_lead, Cond.selects RX3 yX3_lead yX3_lead, Cond.code yX3_lead cX3_lead 4 none, Cond.methodLink RX3 25 yX3_dropOldest, Cond.instanceMethod yX3_dropOldest, Cond.selects RX3 yX3_dropOldest yX3_dropOldest, Cond.code yX3_dropOldest cX3_dropOldest 1 none, Cond.methodLink RX11 188 yX0_inRoom, Cond.methodLink RX11 191 yJ6_bitCount_0f7a4, Cond.methodLink RL 56 yX12_in, Cond.instanceMethod yX12_in, Cond.selects RX12 yX12_in yX12_in]
def wsL_law_r20 : List Cond := [Cond.code yX12_in cX12_in 3 (some .int), Cond.methodLink RX12 100 yX12_isRoom, Cond.instanceMethod yX12_isRoom, Cond.selects RX12 yX12_isRoom yX12_isRoom, Cond.code yX12_isRoom cX12_isRoom 2 (some .boolean), Cond.methodLink RX12 103 yX12_childrenIn, Cond.instanceMethod yX12_childrenIn, Cond.selects RX12 yX12_childrenIn yX12_childrenIn, Cond.code yX12_childrenIn cX12_childrenIn 4 (some .int), Cond.methodLink RX12 106 yX12_ones, Cond.static yX12_ones, Cond.code yX12_ones cX12_ones 3 (some .int), Cond.methodLink RX12 109 yX12_leadRoll, Cond.instanceMethod yX12_leadRoll, Cond.selects RX12 yX12_leadRoll yX12_leadRoll, Cond.code yX12_leadRoll cX12_leadRoll 3 none, Cond.methodLink RX12 96 yX12_lead, Cond.instanceMethod yX12_lead, Cond.selects RX12 yX12_lead yX12_lead, Cond.code yX12_lead cX12_lead 8 none, Cond.methodLink RL 57 yX11_to, Cond.instanceMethod yX11_to, Cond.selects RX11 yX11_to yX11_to, Cond.code yX11_to cX11_to 5 (some .int)]
def wsL_law_r21 : List Cond := [Cond.methodLink RL 60 yX12_to, Cond.instanceMethod yX12_to, Cond.selects RX12 yX12_to yX12_to, Cond.code yX12_to cX12_to 4 (some .int), Cond.methodLink RL 61 yX11_over, Cond.instanceMethod yX11_over, Cond.selects RX11 yX11_over yX11_over, Cond.code yX11_over cX11_over 3 (some .int), Cond.constant RX11 199 (-100008), Cond.methodLink RX11 196 yX11_isPerson, Cond.static yX11_isPerson, Cond.code yX11_isPerson cX11_isPerson 1 (some .boolean), Cond.methodLink RX11 200 yX4_goOut, Cond.instanceMethod yX4_goOut, Cond.selects RX4 yX4_goOut yX4_goOut, Cond.code yX4_goOut cX4_goOut 2 none, Cond.fieldLink RX4 90 "SmallRooms$Children" "room" "[I", Cond.fieldLink RX4 100 "SmallRooms$Children" "asleep" "I", Cond.methodLink RX4 96 yX3_lead, Cond.methodLink RL 64 yX12_over, Cond.instanceMethod yX12_over, Cond.selects RX12 yX12_over yX12_over, Cond.code yX12_over cX12_over 3 (some .int), Cond.methodLink RX12 113 yX12_leadSleep]
def wsL_law_r22 : List Cond := [Cond.instanceMethod yX12_leadSleep, Cond.selects RX12 yX12_leadSleep yX12_leadSleep, Cond.code yX12_leadSleep cX12_leadSleep 3 none, Cond.methodLink RL 65 yX11_fetches, Cond.instanceMethod yX11_fetches, Cond.selects RX11 yX11_fetches yX11_fetches, Cond.code yX11_fetches cX11_fetches 6 (some .int), Cond.methodLink RX11 204 yX11_with, Cond.methodLink RX11 207 yX11_without, Cond.methodLink RL 69 yX12_fetches, Cond.instanceMethod yX12_fetches, Cond.selects RX12 yX12_fetches yX12_fetches, Cond.code yX12_fetches cX12_fetches 5 (some .int), Cond.methodLink RL 70 yX11_place, Cond.instanceMethod yX11_place, Cond.selects RX11 yX11_place yX11_place, Cond.code yX11_place cX11_place 4 (some .int), Cond.fieldLink RX11 210 "SmallRooms$Hands" "ill" "I", Cond.fieldLink RX11 213 "SmallRooms$Hands" "room" "[I", Cond.methodLink RL 73 yX12_place, Cond.instanceMethod yX12_place, Cond.selects RX12 yX12_place yX12_place, Cond.code yX12_place cX12_place 4 (some .int), Cond.methodLink RL 74 yX11_ill]
def wsL_law_r23 : List Cond := [Cond.instanceMethod yX11_ill, Cond.selects RX11 yX11_ill yX11_ill, Cond.code yX11_ill cX11_ill 3 (some .int), Cond.methodLink RL 77 yX12_ill, Cond.instanceMethod yX12_ill, Cond.selects RX12 yX12_ill yX12_ill, Cond.code yX12_ill cX12_ill 3 (some .int), Cond.methodLink RL 78 yX11_now, Cond.instanceMethod yX11_now, Cond.selects RX11 yX11_now yX11_now, Cond.code yX11_now cX11_now 3 (some .int), Cond.methodLink RX11 214 yX1_inRoom, Cond.instanceMethod yX1_inRoom, Cond.selects RX1 yX1_inRoom yX1_inRoom, Cond.code yX1_inRoom cX1_inRoom 4 (some .int), Cond.methodLink RX11 215 yX7_needOf, Cond.instanceMethod yX7_needOf, Cond.selects RX7 yX7_needOf yX7_needOf, Cond.code yX7_needOf cX7_needOf 5 (some .int), Cond.fieldLink RX7 23 "SmallRooms$Nursery" "ratio" "LSmallRooms$Ratio;", Cond.fieldLink RX7 29 "SmallRooms$Ratio" "wrongAt" "I", Cond.constantLong RX7 43 (2147483647), Cond.methodLink RX7 45 Lib.MathLoose.min_long.x, Cond.static Lib.MathLoose.min_long.x]
def wsL_law_r24 : List Cond := [Cond.code Lib.MathLoose.min_long.x Lib.MathLoose.min_long.code 4 (some .long), Cond.methodLink RX7 51 Lib.MathLoose.max_long.x, Cond.static Lib.MathLoose.max_long.x, Cond.code Lib.MathLoose.max_long.x Lib.MathLoose.max_long.code 4 (some .long), Cond.methodLink RX7 19 yX7_countChildren, Cond.instanceMethod yX7_countChildren, Cond.selects RX7 yX7_countChildren yX7_countChildren, Cond.code yX7_countChildren cX7_countChildren 4 none, Cond.fieldLink RX7 60 "SmallRooms$Nursery" "children" "LSmallRooms$Children;", Cond.fieldLink RX7 64 "SmallRooms$Children" "count" "I", Cond.fieldLink RX7 69 "SmallRooms$Children" "room" "[I", Cond.fieldLink RX7 79 "SmallRooms$Children" "asleep" "I", Cond.methodLink RX7 54 yJ7_fill_53178, Cond.static yJ7_fill_53178, Cond.initialized RJ7, Cond.code yJ7_fill_53178 cJ7_fill_53178 4 none, Cond.methodLink RX7 72 yX4_ageNow, Cond.methodLink RX7 76 yX7_ageGroup, Cond.static yX7_ageGroup, Cond.code yX7_ageGroup cX7_ageGroup 1 (some .int), Cond.methodLink RX7 35 yX7_workOut, Cond.instanceMethod yX7_workOut, Cond.selects RX7 yX7_workOut yX7_workOut, Cond.code yX7_workOut cX7_workOut 5 (some .long)]
def wsL_law_r25 : List Cond := [Cond.fieldLink RX7 101 "SmallRooms$Ratio" "count" "I", Cond.fieldLink RX7 102 "SmallRooms$Ratio" "signs" "[I", Cond.methodLink RX7 105 yX7_joined, Cond.static yX7_joined, Cond.code yX7_joined cX7_joined 5 (some .long), Cond.static yX11_quotientUpwards, Cond.code yX11_quotientUpwards cX11_quotientUpwards 4 (some .long), Cond.methodLink RX11 385 yJ9_floorDiv_f86c9, Cond.static yJ9_floorDiv_f86c9, Cond.initialized RJ9, Cond.code yJ9_floorDiv_f86c9 cJ9_floorDiv_f86c9 6 (some .long), Cond.methodLink RX7 109 yX7_numberOf, Cond.instanceMethod yX7_numberOf, Cond.selects RX7 yX7_numberOf yX7_numberOf, Cond.code yX7_numberOf cX7_numberOf 2 (some .int), Cond.methodLink RX7 39 yX7_usualNeed, Cond.instanceMethod yX7_usualNeed, Cond.selects RX7 yX7_usualNeed yX7_usualNeed, Cond.code yX7_usualNeed cX7_usualNeed 1 (some .long), Cond.constantLong RX7 90 (2), Cond.constantLong RX7 92 (3), Cond.constantLong RX7 97 (4), Cond.constantLong RX7 99 (8), Cond.methodLink RX11 219 yX1_worthIn]
def wsL_law_r26 : List Cond := [Cond.instanceMethod yX1_worthIn, Cond.selects RX1 yX1_worthIn yX1_worthIn, Cond.code yX1_worthIn cX1_worthIn 4 (some .int), Cond.methodLink RX1 35 yX1_worth, Cond.instanceMethod yX1_worth, Cond.selects RX1 yX1_worth yX1_worth, Cond.code yX1_worth cX1_worth 2 (some .int), Cond.methodLink RX11 222 yX11_hasEnough, Cond.instanceMethod yX11_hasEnough, Cond.selects RX11 yX11_hasEnough yX11_hasEnough, Cond.code yX11_hasEnough cX11_hasEnough 4 (some .boolean), Cond.methodLink RX11 369 yX1_trained, Cond.instanceMethod yX1_trained, Cond.selects RX1 yX1_trained yX1_trained, Cond.code yX1_trained cX1_trained 3 (some .int), Cond.methodLink RL 81 yX12_now, Cond.instanceMethod yX12_now, Cond.selects RX12 yX12_now yX12_now, Cond.code yX12_now cX12_now 5 (some .int), Cond.methodLink RX12 129 yX12_worthOf, Cond.instanceMethod yX12_worthOf, Cond.selects RX12 yX12_worthOf yX12_worthOf, Cond.code yX12_worthOf cX12_worthOf 2 (some .int), Cond.methodLink RX12 132 yX12_handsIn]
def wsL_law_r27 : List Cond := [Cond.instanceMethod yX12_handsIn, Cond.selects RX12 yX12_handsIn yX12_handsIn, Cond.code yX12_handsIn cX12_handsIn 4 (some .int), Cond.methodLink RX12 135 yX12_needOf, Cond.instanceMethod yX12_needOf, Cond.selects RX12 yX12_needOf yX12_needOf, Cond.code yX12_needOf cX12_needOf 4 (some .int), Cond.methodLink RX12 122 yX12_read, Cond.instanceMethod yX12_read, Cond.selects RX12 yX12_read yX12_read, Cond.code yX12_read cX12_read 2 (some .int), Cond.fieldLink RX12 116 "SmallRoomsModel" "piled" "I", Cond.methodLink RX12 119 yX12_goes, Cond.instanceMethod yX12_goes, Cond.selects RX12 yX12_goes yX12_goes, Cond.code yX12_goes cX12_goes 5 (some .boolean), Cond.methodLink RX12 126 yX12_upwards, Cond.static yX12_upwards, Cond.code yX12_upwards cX12_upwards 2 (some .int), Cond.methodLink RX12 142 yX12_hasEnough, Cond.instanceMethod yX12_hasEnough, Cond.selects RX12 yX12_hasEnough yX12_hasEnough, Cond.code yX12_hasEnough cX12_hasEnough 2 (some .boolean), Cond.methodLink RX12 138 yX12_areEnough]
def wsL_law_r28 : List Cond := [Cond.instanceMethod yX12_areEnough, Cond.selects RX12 yX12_areEnough yX12_areEnough, Cond.code yX12_areEnough cX12_areEnough 7 (some .boolean), Cond.methodLink RL 82 yX11_lacking, Cond.instanceMethod yX11_lacking, Cond.selects RX11 yX11_lacking yX11_lacking, Cond.code yX11_lacking cX11_lacking 3 (some .int), Cond.methodLink RL 85 yX12_lacking, Cond.instanceMethod yX12_lacking, Cond.selects RX12 yX12_lacking yX12_lacking, Cond.code yX12_lacking cX12_lacking 3 (some .int), Cond.methodLink RL 86 yX11_moves, Cond.instanceMethod yX11_moves, Cond.selects RX11 yX11_moves yX11_moves, Cond.code yX11_moves cX11_moves 1 (some .int), Cond.methodLink RX11 225 yX11_planMoves, Cond.instanceMethod yX11_planMoves, Cond.selects RX11 yX11_planMoves yX11_planMoves, Cond.code yX11_planMoves cX11_planMoves 3 (some .boolean), Cond.methodLink RX11 372 yX5_begin, Cond.instanceMethod yX5_begin, Cond.selects RX5 yX5_begin yX5_begin, Cond.code yX5_begin cX5_begin 4 none, Cond.fieldLink RX5 27 "SmallRooms$Planner" "able" "I"]
def wsL_law_r29 : List Cond := [Cond.fieldLink RX5 33 "SmallRooms$Planner" "trained" "I", Cond.constant RX5 43 (2147483647), Cond.methodLink RX5 21 yX1_able, Cond.instanceMethod yX1_able, Cond.selects RX1 yX1_able yX1_able, Cond.code yX1_able cX1_able 1 (some .int), Cond.methodLink RX5 30 yX1_trained, Cond.methodLink RX5 35 yX5_sumWorths, Cond.instanceMethod yX5_sumWorths, Cond.selects RX5 yX5_sumWorths yX5_sumWorths, Cond.code yX5_sumWorths cX5_sumWorths 3 none, Cond.fieldLink RX5 44 "SmallRooms$Hands" "count" "I", Cond.methodLink RX5 47 yX1_worth, Cond.methodLink RX5 49 yX5_addForHand, Cond.static yX5_addForHand, Cond.code yX5_addForHand cX5_addForHand 5 none, Cond.methodLink RX5 39 yX1_inRoom, Cond.methodLink RX11 375 yX5_fill, Cond.instanceMethod yX5_fill, Cond.selects RX5 yX5_fill yX5_fill, Cond.code yX5_fill cX5_fill 7 none, Cond.methodLink RX5 60 yX5_sumCosts, Cond.instanceMethod yX5_sumCosts, Cond.selects RX5 yX5_sumCosts yX5_sumCosts]
def wsL_law_r30 : List Cond := [Cond.code yX5_sumCosts cX5_sumCosts 5 none, Cond.fieldLink RX5 53 "SmallRooms$Hands" "room" "[I", Cond.constant RX5 56 (279936), Cond.fieldLink RX5 57 "SmallRooms$Planner" "DIGIT_OF_HAND" "[I", Cond.methodLink RX5 64 yX5_partsOf, Cond.static yX5_partsOf, Cond.code yX5_partsOf cX5_partsOf 1 (some .int), Cond.methodLink RX5 77 yJ6_bitCount_0f7a4, Cond.methodLink RX5 67 yX5_leastWith, Cond.instanceMethod yX5_leastWith, Cond.selects RX5 yX5_leastWith yX5_leastWith, Cond.code yX5_leastWith cX5_leastWith 9 (some .int), Cond.methodLink RX5 71 Lib.Math.min.name, Cond.methodLink RX11 379 yX5_isPossible, Cond.instanceMethod yX5_isPossible, Cond.selects RX5 yX5_isPossible yX5_isPossible, Cond.code yX5_isPossible cX5_isPossible 1 (some .boolean), Cond.methodLink RX11 229 yX5_movedHands, Cond.instanceMethod yX5_movedHands, Cond.selects RX5 yX5_movedHands yX5_movedHands, Cond.code yX5_movedHands cX5_movedHands 1 (some .int), Cond.methodLink RL 89 yX12_moves, Cond.instanceMethod yX12_moves, Cond.selects RX12 yX12_moves yX12_moves]
def wsL_law_r31 : List Cond := [Cond.code yX12_moves cX12_moves 1 (some .int), Cond.fieldLink RX12 145 "SmallRoomsModel" "fewest" "I", Cond.methodLink RX12 151 yX12_findMoves, Cond.instanceMethod yX12_findMoves, Cond.selects RX12 yX12_findMoves yX12_findMoves, Cond.code yX12_findMoves cX12_findMoves 2 (some .boolean), Cond.methodLink RX12 148 yX12_tries, Cond.instanceMethod yX12_tries, Cond.selects RX12 yX12_tries yX12_tries, Cond.code yX12_tries cX12_tries 5 none, Cond.methodLink RL 90 yX11_moved, Cond.instanceMethod yX11_moved, Cond.selects RX11 yX11_moved yX11_moved, Cond.code yX11_moved cX11_moved 2 (some .int), Cond.methodLink RX11 232 yX5_roomFor, Cond.instanceMethod yX5_roomFor, Cond.selects RX5 yX5_roomFor yX5_roomFor, Cond.code yX5_roomFor cX5_roomFor 2 (some .int), Cond.methodLink RL 93 yX12_moved, Cond.instanceMethod yX12_moved, Cond.selects RX12 yX12_moved yX12_moved, Cond.code yX12_moved cX12_moved 2 (some .int), Cond.methodLink RL 94 yX11_move, Cond.instanceMethod yX11_move]
def wsL_law_r32 : List Cond := [Cond.selects RX11 yX11_move yX11_move, Cond.code yX11_move cX11_move 2 (some .int), Cond.methodLink RL 97 yX12_move, Cond.instanceMethod yX12_move, Cond.selects RX12 yX12_move yX12_move, Cond.code yX12_move cX12_move 2 (some .int), Cond.methodLink RL 98 yX11_roll, Cond.instanceMethod yX11_roll, Cond.selects RX11 yX11_roll yX11_roll, Cond.code yX11_roll cX11_roll 5 (some .int), Cond.methodLink RX11 235 yX3_wasIn, Cond.instanceMethod yX3_wasIn, Cond.selects RX3 yX3_wasIn yX3_wasIn, Cond.code yX3_wasIn cX3_wasIn 5 (some .boolean), Cond.methodLink RL 101 yX12_roll, Cond.instanceMethod yX12_roll, Cond.selects RX12 yX12_roll yX12_roll, Cond.code yX12_roll cX12_roll 5 (some .int), Cond.methodLink RX12 155 yX12_wasIn, Cond.instanceMethod yX12_wasIn, Cond.selects RX12 yX12_wasIn yX12_wasIn, Cond.code yX12_wasIn cX12_wasIn 5 (some .boolean), Cond.methodLink RL 102 yX11_sleeps, Cond.instanceMethod yX11_sleeps]
def wsL_law_r33 : List Cond := [Cond.selects RX11 yX11_sleeps yX11_sleeps, Cond.code yX11_sleeps cX11_sleeps 4 (some .int), Cond.fieldLink RX11 238 "SmallRooms$Nursery" "sleep" "LSmallRooms$Log;", Cond.methodLink RL 106 yX12_sleeps, Cond.instanceMethod yX12_sleeps, Cond.selects RX12 yX12_sleeps yX12_sleeps, Cond.code yX12_sleeps cX12_sleeps 4 (some .int), Cond.methodLink RL 107 yX11_look, Cond.instanceMethod yX11_look, Cond.selects RX11 yX11_look yX11_look, Cond.code yX11_look cX11_look 2 (some .int), Cond.methodLink RX11 241 yX3_countOf, Cond.instanceMethod yX3_countOf, Cond.selects RX3 yX3_countOf yX3_countOf, Cond.code yX3_countOf cX3_countOf 4 (some .int), Cond.methodLink RL 110 yX12_look, Cond.instanceMethod yX12_look, Cond.selects RX12 yX12_look yX12_look, Cond.code yX12_look cX12_look 4 (some .int), Cond.methodLink RL 111 yX11_missed, Cond.instanceMethod yX11_missed, Cond.selects RX11 yX11_missed yX11_missed, Cond.code yX11_missed cX11_missed 4 (some .int), Cond.methodLink RX11 244 yX3_missedOf]
def wsL_law_r34 : List Cond := [Cond.instanceMethod yX3_missedOf, Cond.selects RX3 yX3_missedOf yX3_missedOf, Cond.code yX3_missedOf cX3_missedOf 5 (some .int), Cond.methodLink RX3 38 yX3_isMissedFrom, Cond.instanceMethod yX3_isMissedFrom, Cond.selects RX3 yX3_isMissedFrom yX3_isMissedFrom, Cond.code yX3_isMissedFrom cX3_isMissedFrom 5 (some .boolean), Cond.methodLink RX11 247 yX3_firstMissedOf, Cond.instanceMethod yX3_firstMissedOf, Cond.selects RX3 yX3_firstMissedOf yX3_firstMissedOf, Cond.code yX3_firstMissedOf cX3_firstMissedOf 4 (some .int), Cond.methodLink RL 114 yX12_missed, Cond.instanceMethod yX12_missed, Cond.selects RX12 yX12_missed yX12_missed, Cond.code yX12_missed cX12_missed 9 (some .int), Cond.methodLink RL 115 yX11_needed, Cond.instanceMethod yX11_needed, Cond.selects RX11 yX11_needed yX11_needed, Cond.code yX11_needed cX11_needed 5 (some .int), Cond.fieldLink RX11 250 "SmallRooms$Nursery" "needed" "[I", Cond.methodLink RL 119 yX12_needed, Cond.instanceMethod yX12_needed, Cond.selects RX12 yX12_needed yX12_needed, Cond.code yX12_needed cX12_needed 5 (some .int)]
def wsL_law_r35 : List Cond := [Cond.methodLink RL 120 yX11_longer, Cond.instanceMethod yX11_longer, Cond.selects RX11 yX11_longer yX11_longer, Cond.code yX11_longer cX11_longer 3 (some .int), Cond.fieldLink RX11 253 "SmallRooms$Nursery" "longSlots" "I", Cond.methodLink RL 123 yX12_longer, Cond.instanceMethod yX12_longer, Cond.selects RX12 yX12_longer yX12_longer, Cond.code yX12_longer cX12_longer 3 (some .int), Cond.methodLink RL 124 yX11_shifts, Cond.instanceMethod yX11_shifts, Cond.selects RX11 yX11_shifts yX11_shifts, Cond.code yX11_shifts cX11_shifts 3 (some .int), Cond.methodLink RX11 256 yX10_plan, Cond.instanceMethod yX10_plan, Cond.selects RX10 yX10_plan yX10_plan, Cond.code yX10_plan cX10_plan 7 (some .int), Cond.methodLink RX10 25 Lib.Math.max.name, Cond.static Lib.Math.max.name, Cond.code Lib.Math.max.name Lib.Math.max.code 2 (some .int), Cond.methodLink RX10 30 Lib.Math.min.name, Cond.methodLink RX10 15 yJ7_fill_53178, Cond.methodLink RX10 21 yX10_endedAt, Cond.instanceMethod yX10_endedAt]
def wsL_law_r36 : List Cond := [Cond.selects RX10 yX10_endedAt yX10_endedAt, Cond.code yX10_endedAt cX10_endedAt 3 (some .int), Cond.methodLink RX11 260 yX10_beginOf, Cond.instanceMethod yX10_beginOf, Cond.selects RX10 yX10_beginOf yX10_beginOf, Cond.code yX10_beginOf cX10_beginOf 4 (some .int), Cond.methodLink RL 127 yX12_shifts, Cond.instanceMethod yX12_shifts, Cond.selects RX12 yX12_shifts yX12_shifts, Cond.code yX12_shifts cX12_shifts 2 (some .int), Cond.fieldLink RX12 158 "SmallRoomsModel" "shiftMany" "I", Cond.methodLink RX12 165 yX12_findShifts, Cond.instanceMethod yX12_findShifts, Cond.selects RX12 yX12_findShifts yX12_findShifts, Cond.code yX12_findShifts cX12_findShifts 3 none, Cond.methodLink RX12 161 yX12_putShift, Cond.instanceMethod yX12_putShift, Cond.selects RX12 yX12_putShift yX12_putShift, Cond.code yX12_putShift cX12_putShift 3 none, Cond.methodLink RL 128 yX11_proves, Cond.instanceMethod yX11_proves, Cond.selects RX11 yX11_proves yX11_proves, Cond.code yX11_proves cX11_proves 6 (some .int), Cond.fieldLink RX11 279 "SmallRooms$Sheet" "size" "I"]
def wsL_law_r37 : List Cond := [Cond.methodLink RX11 263 yX11_sheetFinding, Cond.instanceMethod yX11_sheetFinding, Cond.selects RX11 yX11_sheetFinding yX11_sheetFinding, Cond.code yX11_sheetFinding cX11_sheetFinding 2 (some .int), Cond.constant RX11 342 (-100002), Cond.methodLink RX11 329 yX11_isSheet, Cond.static yX11_isSheet, Cond.code yX11_isSheet cX11_isSheet 1 (some .boolean), Cond.methodLink RX11 339 yX9_isMissing, Cond.instanceMethod yX9_isMissing, Cond.selects RX9 yX9_isMissing yX9_isMissing, Cond.code yX9_isMissing cX9_isMissing 1 (some .boolean), Cond.fieldLink RX9 15 "SmallRooms$Sheet" "bits" "I", Cond.methodLink RX11 266 yX9_rises, Cond.instanceMethod yX9_rises, Cond.selects RX9 yX9_rises yX9_rises, Cond.code yX9_rises cX9_rises 2 (some .boolean), Cond.fieldLink RX9 19 "SmallRooms$Sheet" "size" "I", Cond.methodLink RX11 269 yX9_isAllWithin, Cond.instanceMethod yX9_isAllWithin, Cond.selects RX9 yX9_isAllWithin yX9_isAllWithin, Cond.code yX9_isAllWithin cX9_isAllWithin 4 (some .boolean), Cond.methodLink RX11 272 yX10_take, Cond.instanceMethod yX10_take]
def wsL_law_r38 : List Cond := [Cond.selects RX10 yX10_take yX10_take, Cond.code yX10_take cX10_take 3 none, Cond.fieldLink RX10 33 "SmallRooms$Sheet" "size" "I", Cond.fieldLink RX10 39 "SmallRooms$Sheet" "numbers" "[I", Cond.methodLink RX11 276 yX10_firstLacking, Cond.instanceMethod yX10_firstLacking, Cond.selects RX10 yX10_firstLacking yX10_firstLacking, Cond.code yX10_firstLacking cX10_firstLacking 5 (some .int), Cond.methodLink RL 131 yX12_proves, Cond.instanceMethod yX12_proves, Cond.selects RX12 yX12_proves yX12_proves, Cond.code yX12_proves cX12_proves 4 (some .int), Cond.methodLink RX12 168 yX12_isSheet, Cond.static yX12_isSheet, Cond.code yX12_isSheet cX12_isSheet 1 (some .boolean), Cond.methodLink RL 132 yX11_waits, Cond.instanceMethod yX11_waits, Cond.selects RX11 yX11_waits yX11_waits, Cond.code yX11_waits cX11_waits 2 (some .int), Cond.fieldLink RX11 288 "SmallRooms$Children" "waiters" "I", Cond.methodLink RX11 282 yX0_isWaiting, Cond.instanceMethod yX0_isWaiting, Cond.selects RX0 yX0_isWaiting yX0_isWaiting, Cond.code yX0_isWaiting cX0_isWaiting 3 (some .boolean)]
def wsL_law_r39 : List Cond := [Cond.methodLink RX11 285 yX0_addWaiter, Cond.instanceMethod yX0_addWaiter, Cond.selects RX0 yX0_addWaiter yX0_addWaiter, Cond.code yX0_addWaiter cX0_addWaiter 2 none, Cond.methodLink RL 135 yX12_waits, Cond.instanceMethod yX12_waits, Cond.selects RX12 yX12_waits yX12_waits, Cond.code yX12_waits cX12_waits 2 (some .int), Cond.methodLink RX12 171 yX12_listed, Cond.instanceMethod yX12_listed, Cond.selects RX12 yX12_listed yX12_listed, Cond.code yX12_listed cX12_listed 3 (some .int), Cond.methodLink RL 136 yX11_list, Cond.instanceMethod yX11_list, Cond.selects RX11 yX11_list yX11_list, Cond.code yX11_list cX11_list 3 (some .int), Cond.methodLink RX11 291 yX0_waiterAt, Cond.instanceMethod yX0_waiterAt, Cond.selects RX0 yX0_waiterAt yX0_waiterAt, Cond.code yX0_waiterAt cX0_waiterAt 4 (some .int), Cond.methodLink RX0 72 yX0_hasAdmittedSibling, Cond.instanceMethod yX0_hasAdmittedSibling, Cond.selects RX0 yX0_hasAdmittedSibling yX0_hasAdmittedSibling, Cond.code yX0_hasAdmittedSibling cX0_hasAdmittedSibling 3 (some .boolean)]
def wsL_law_r40 : List Cond := [Cond.methodLink RX0 66 yX0_areSiblings, Cond.instanceMethod yX0_areSiblings, Cond.selects RX0 yX0_areSiblings yX0_areSiblings, Cond.code yX0_areSiblings cX0_areSiblings 4 (some .boolean), Cond.methodLink RX0 80 yX0_waiterOf, Cond.instanceMethod yX0_waiterOf, Cond.selects RX0 yX0_waiterOf yX0_waiterOf, Cond.code yX0_waiterOf cX0_waiterOf 5 (some .int), Cond.methodLink RL 139 yX12_list, Cond.instanceMethod yX12_list, Cond.selects RX12 yX12_list yX12_list, Cond.code yX12_list cX12_list 5 (some .int), Cond.methodLink RX12 177 yX12_hasSibling, Cond.instanceMethod yX12_hasSibling, Cond.selects RX12 yX12_hasSibling yX12_hasSibling, Cond.code yX12_hasSibling cX12_hasSibling 4 (some .boolean), Cond.methodLink RX12 174 yX12_areSiblings, Cond.instanceMethod yX12_areSiblings, Cond.selects RX12 yX12_areSiblings yX12_areSiblings, Cond.code yX12_areSiblings cX12_areSiblings 3 (some .boolean), Cond.methodLink RL 140 yX11_earliest, Cond.instanceMethod yX11_earliest, Cond.selects RX11 yX11_earliest yX11_earliest, Cond.code yX11_earliest cX11_earliest 3 (some .int)]
def wsL_law_r41 : List Cond := [Cond.methodLink RX11 294 yX11_leastMonth, Cond.instanceMethod yX11_leastMonth, Cond.selects RX11 yX11_leastMonth yX11_leastMonth, Cond.code yX11_leastMonth cX11_leastMonth 3 (some .int), Cond.methodLink RX11 382 yX4_earliestMonth, Cond.instanceMethod yX4_earliestMonth, Cond.selects RX4 yX4_earliestMonth yX4_earliestMonth, Cond.code yX4_earliestMonth cX4_earliestMonth 4 (some .int), Cond.fieldLink RX4 134 "SmallRooms$Children" "last" "[I", Cond.fieldLink RX4 137 "SmallRooms$Children" "first" "[I", Cond.methodLink RX4 140 yX4_fits, Cond.instanceMethod yX4_fits, Cond.selects RX4 yX4_fits yX4_fits, Cond.code yX4_fits cX4_fits 6 (some .boolean), Cond.fieldLink RX4 127 "SmallRooms$Children" "sessions" "[I", Cond.methodLink RX4 124 yX4_roomInMonth, Cond.methodLink RX4 130 yX4_placesTaken, Cond.instanceMethod yX4_placesTaken, Cond.selects RX4 yX4_placesTaken yX4_placesTaken, Cond.code yX4_placesTaken cX4_placesTaken 6 (some .int), Cond.fieldLink RX4 119 "SmallRooms$Children" "count" "I", Cond.methodLink RX4 120 yX0_isAwaited, Cond.instanceMethod yX0_isAwaited, Cond.selects RX0 yX0_isAwaited yX0_isAwaited]
def wsL_law_r42 : List Cond := [Cond.code yX0_isAwaited cX0_isAwaited 5 (some .boolean), Cond.methodLink RL 143 yX12_earliest, Cond.instanceMethod yX12_earliest, Cond.selects RX12 yX12_earliest yX12_earliest, Cond.code yX12_earliest cX12_earliest 3 (some .int), Cond.methodLink RX12 187 yX12_leastMonth, Cond.instanceMethod yX12_leastMonth, Cond.selects RX12 yX12_leastMonth yX12_leastMonth, Cond.code yX12_leastMonth cX12_leastMonth 3 (some .int), Cond.methodLink RX12 184 yX12_can, Cond.instanceMethod yX12_can, Cond.selects RX12 yX12_can yX12_can, Cond.code yX12_can cX12_can 6 (some .boolean), Cond.methodLink RX12 180 yX12_haveIn, Cond.instanceMethod yX12_haveIn, Cond.selects RX12 yX12_haveIn yX12_haveIn, Cond.code yX12_haveIn cX12_haveIn 7 (some .int), Cond.methodLink RL 144 yX11_admit, Cond.instanceMethod yX11_admit, Cond.selects RX11 yX11_admit yX11_admit, Cond.code yX11_admit cX11_admit 3 (some .int), Cond.methodLink RX11 297 yX0_removeWaiter, Cond.instanceMethod yX0_removeWaiter, Cond.selects RX0 yX0_removeWaiter yX0_removeWaiter]
def wsL_law_r43 : List Cond := [Cond.code yX0_removeWaiter cX0_removeWaiter 4 none, Cond.methodLink RL 147 yX12_admit, Cond.instanceMethod yX12_admit, Cond.selects RX12 yX12_admit yX12_admit, Cond.code yX12_admit cX12_admit 5 (some .int), Cond.methodLink RL 148 yX11_places, Cond.instanceMethod yX11_places, Cond.selects RX11 yX11_places yX11_places, Cond.code yX11_places cX11_places 4 (some .int), Cond.methodLink RX11 300 yX4_placesTaken, Cond.methodLink RL 151 yX12_places, Cond.instanceMethod yX12_places, Cond.selects RX12 yX12_places yX12_places, Cond.code yX12_places cX12_places 4 (some .int), Cond.methodLink RL 152 yX11_rate, Cond.instanceMethod yX11_rate, Cond.selects RX11 yX11_rate yX11_rate, Cond.code yX11_rate cX11_rate 3 (some .int), Cond.fieldLink RX11 303 "SmallRooms$Nursery" "rate" "I", Cond.methodLink RL 155 yX12_rate, Cond.instanceMethod yX12_rate, Cond.selects RX12 yX12_rate yX12_rate, Cond.code yX12_rate cX12_rate 3 (some .int), Cond.methodLink RL 156 yX11_bill]
def wsL_law_r44 : List Cond := [Cond.instanceMethod yX11_bill, Cond.selects RX11 yX11_bill yX11_bill, Cond.code yX11_bill cX11_bill 9 (some .int), Cond.methodLink RX11 306 Lib.Math.max.name, Cond.methodLink RX11 311 yX3_latestGoingOut, Cond.instanceMethod yX3_latestGoingOut, Cond.selects RX3 yX3_latestGoingOut yX3_latestGoingOut, Cond.code yX3_latestGoingOut cX3_latestGoingOut 4 (some .int), Cond.methodLink RL 160 yX12_bill, Cond.instanceMethod yX12_bill, Cond.selects RX12 yX12_bill yX12_bill, Cond.code yX12_bill cX12_bill 8 (some .int), Cond.methodLink RL 161 yX11_text, Cond.instanceMethod yX11_text, Cond.selects RX11 yX11_text yX11_text, Cond.code yX11_text cX11_text 4 (some .int), Cond.fieldLink RX11 317 "SmallRooms$Nursery" "ratio" "LSmallRooms$Ratio;", Cond.methodLink RX11 314 yX9_isAllSigns, Cond.instanceMethod yX9_isAllSigns, Cond.selects RX9 yX9_isAllSigns yX9_isAllSigns, Cond.code yX9_isAllSigns cX9_isAllSigns 2 (some .boolean), Cond.methodLink RX9 32 yX6_isSign, Cond.static yX6_isSign, Cond.code yX6_isSign cX6_isSign 1 (some .boolean)]
def wsL_law_r45 : List Cond := [Cond.methodLink RX11 321 yX6_read, Cond.instanceMethod yX6_read, Cond.selects RX6 yX6_read yX6_read, Cond.code yX6_read cX6_read 2 none, Cond.fieldLink RX6 15 "SmallRooms$Sheet" "size" "I", Cond.methodLink RX6 21 Lib.Math.min.name, Cond.fieldLink RX6 30 "SmallRooms$Sheet" "numbers" "[I", Cond.methodLink RX6 39 yX6_firstWrong, Cond.instanceMethod yX6_firstWrong, Cond.selects RX6 yX6_firstWrong yX6_firstWrong, Cond.code yX6_firstWrong cX6_firstWrong 4 (some .int), Cond.methodLink RL 164 yX12_text, Cond.instanceMethod yX12_text, Cond.selects RX12 yX12_text yX12_text, Cond.code yX12_text cX12_text 4 (some .int), Cond.methodLink RL 165 yX11_wrong, Cond.instanceMethod yX11_wrong, Cond.selects RX11 yX11_wrong yX11_wrong, Cond.code yX11_wrong cX11_wrong 1 (some .int), Cond.fieldLink RX11 326 "SmallRooms$Ratio" "wrongAt" "I", Cond.methodLink RL 168 yX12_wrong, Cond.instanceMethod yX12_wrong, Cond.selects RX12 yX12_wrong yX12_wrong, Cond.code yX12_wrong cX12_wrong 1 (some .int)]
def wsL_law_r46 : List Cond := [Cond.methodLink RL 169 yX11_sheet, Cond.instanceMethod yX11_sheet, Cond.selects RX11 yX11_sheet yX11_sheet, Cond.code yX11_sheet cX11_sheet 4 (some .int), Cond.methodLink RX11 332 yX9_begin, Cond.instanceMethod yX9_begin, Cond.selects RX9 yX9_begin yX9_begin, Cond.code yX9_begin cX9_begin 3 none, Cond.methodLink RX9 22 yJ7_fill_53178, Cond.methodLink RL 172 yX12_sheet, Cond.instanceMethod yX12_sheet, Cond.selects RX12 yX12_sheet yX12_sheet, Cond.code yX12_sheet cX12_sheet 5 (some .int), Cond.methodLink RL 173 yX11_put, Cond.instanceMethod yX11_put, Cond.selects RX11 yX11_put yX11_put, Cond.code yX11_put cX11_put 5 (some .int), Cond.methodLink RX11 336 yX9_write, Cond.instanceMethod yX9_write, Cond.selects RX9 yX9_write yX9_write, Cond.code yX9_write cX9_write 3 none, Cond.methodLink RL 176 yX12_put, Cond.instanceMethod yX12_put, Cond.selects RX12 yX12_put yX12_put]
def wsL_law_r47 : List Cond := [Cond.code yX12_put cX12_put 4 (some .int), Cond.methodLink RX12 190 yX12_lowest, Cond.static yX12_lowest, Cond.code yX12_lowest cX12_lowest 2 (some .int), Cond.methodLink RL 177 yX11_copy, Cond.instanceMethod yX11_copy, Cond.selects RX11 yX11_copy yX11_copy, Cond.code yX11_copy cX11_copy 8 (some .int), Cond.fieldLink RX11 343 "SmallRooms$Sheet" "bits" "I", Cond.fieldLink RX11 349 "SmallRooms$Sheet" "numbers" "[I", Cond.methodLink RX11 352 arraycopyName, Cond.methodLink RX11 346 yX9_hasStretch, Cond.instanceMethod yX9_hasStretch, Cond.selects RX9 yX9_hasStretch yX9_hasStretch, Cond.code yX9_hasStretch cX9_hasStretch 3 (some .boolean), Cond.methodLink RL 181 yX12_copy, Cond.instanceMethod yX12_copy, Cond.selects RX12 yX12_copy yX12_copy, Cond.code yX12_copy cX12_copy 7 (some .int), Cond.methodLink RL 182 yX11_undo, Cond.instanceMethod yX11_undo, Cond.selects RX11 yX11_undo yX11_undo, Cond.code yX11_undo cX11_undo 1 (some .int), Cond.fieldLink RX11 358 "SmallRooms$History" "count" "I"]
def wsL_law_r48 : List Cond := [Cond.methodLink RX11 359 yX2_bringBack, Cond.instanceMethod yX2_bringBack, Cond.selects RX2 yX2_bringBack yX2_bringBack, Cond.code yX2_bringBack cX2_bringBack 3 none, Cond.methodLink RL 185 yX12_undo, Cond.instanceMethod yX12_undo, Cond.selects RX12 yX12_undo yX12_undo, Cond.code yX12_undo cX12_undo 2 (some .int), Cond.methodLink RL 186 yX11_all, Cond.instanceMethod yX11_all, Cond.selects RX11 yX11_all yX11_all, Cond.code yX11_all cX11_all 2 (some .int), Cond.fieldLink RX11 363 "SmallRooms$Log" "count" "I", Cond.methodLink RL 189 yX12_all, Cond.instanceMethod yX12_all, Cond.selects RX12 yX12_all yX12_all, Cond.code yX12_all cX12_all 4 (some .int)]
def wsL_law : List Cond := (wsL_law_r1 ++ (wsL_law_r2 ++ (wsL_law_r3 ++ (wsL_law_r4 ++ (wsL_law_r5 ++ (wsL_law_r6 ++ (wsL_law_r7 ++ (wsL_law_r8 ++ (wsL_law_r9 ++ (wsL_law_r10 ++ (wsL_law_r11 ++ (wsL_law_r12 ++ (wsL_law_r13 ++ (wsL_law_r14 ++ (wsL_law_r15 ++ (wsL_law_r16 ++ (wsL_law_r17 ++ (wsL_law_r18 ++ (wsL_law_r19 ++ (wsL_law_r20 ++ (wsL_law_r21 ++ (wsL_law_r22 ++ (wsL_law_r23 ++ (wsL_law_r24 ++ (wsL_law_r25 ++ (wsL_law_r26 ++ (wsL_law_r27 ++ (wsL_law_r28 ++ (wsL_law_r29 ++ (wsL_law_r30 ++ (wsL_law_r31 ++ (wsL_law_r32 ++ (wsL_law_r33 ++ (wsL_law_r34 ++ (wsL_law_r35 ++ (wsL_law_r36 ++ (wsL_law_r37 ++ (wsL_law_r38 ++ (wsL_law_r39 ++ (wsL_law_r40 ++ (wsL_law_r41 ++ (wsL_law_r42 ++ (wsL_law_r43 ++ (wsL_law_r44 ++ (wsL_law_r45 ++ (wsL_law_r46 ++ (wsL_law_r47 ++ wsL_law_r48))))))))))))))))))))))))))))))))))))))))))))))) ++ wsX110 ++ wsX120 ++ wsX40 ++ wsX20 ++ wsX70 ++ wsX50 ++ wsX100 ++ wsX90 ++ wsX80 ++ wsX10 ++ wsX00 ++ wsX30 ++ wsX60 ++ ([] : List Cond)
theorem inlX0 : ∀ w ∈ wsX00, w ∈ wsL_law := fun _ h => List.mem_append_left _ (List.mem_append_left _ (List.mem_append_left _ (List.mem_append_right _ h)))
theorem inlX1 : ∀ w ∈ wsX10, w ∈ wsL_law := fun _ h => List.mem_append_left _ (List.mem_append_left _ (List.mem_append_left _ (List.mem_append_left _ (List.mem_append_right _ h))))
theorem inlX2 : ∀ w ∈ wsX20, w ∈ wsL_law := fun _ h => List.mem_append_left _ (List.mem_append_left _ (List.mem_append_left _ (List.mem_append_left _ (List.mem_append_left _ (List.mem_append_left _ (List.mem_append_left _ (List.mem_append_left _ (List.mem_append_left _ (List.mem_append_left _ (List.mem_append_right _ h))))))))))
theorem inlX3 : ∀ w ∈ wsX30, w ∈ wsL_law := fun _ h => List.mem_append_left _ (List.mem_append_left _ (List.mem_append_right _ h))
theorem inlX4 : ∀ w ∈ wsX40, w ∈ wsL_law := fun _ h => List.mem_append_left _ (List.mem_append_left _ (List.mem_append_left _ (List.mem_append_left _ (List.mem_append_left _ (List.mem_append_left _ (List.mem_append_left _ (List.mem_append_left _ (List.mem_append_left _ (List.mem_append_left _ (List.mem_append_left _ (List.mem_append_right _ h)))))))))))
theorem inlX5 : ∀ w ∈ wsX50, w ∈ wsL_law := fun _ h => List.mem_append_left _ (List.mem_append_left _ (List.mem_append_left _ (List.mem_append_left _ (List.mem_append_left _ (List.mem_append_left _ (List.mem_append_left _ (List.mem_append_left _ (List.mem_append_right _ h))))))))
theorem inlX6 : ∀ w ∈ wsX60, w ∈ wsL_law := fun _ h => List.mem_append_left _ (List.mem_append_right _ h)
theorem inlX7 : ∀ w ∈ wsX70, w ∈ wsL_law := fun _ h => List.mem_append_left _ (List.mem_append_left _ (List.mem_append_left _ (List.mem_append_left _ (List.mem_append_left _ (List.mem_append_left _ (List.mem_append_left _ (List.mem_append_left _ (List.mem_append_left _ (List.mem_append_right _ h)))))))))
theorem inlX8 : ∀ w ∈ wsX80, w ∈ wsL_law := fun _ h => List.mem_append_left _ (List.mem_append_left _ (List.mem_append_left _ (List.mem_append_left _ (List.mem_append_left _ (List.mem_append_right _ h)))))
theorem inlX9 : ∀ w ∈ wsX90, w ∈ wsL_law := fun _ h => List.mem_append_left _ (List.mem_append_left _ (List.mem_append_left _ (List.mem_append_left _ (List.mem_append_left _ (List.mem_append_left _ (List.mem_append_right _ h))))))
theorem inlX10 : ∀ w ∈ wsX100, w ∈ wsL_law := fun _ h => List.mem_append_left _ (List.mem_append_left _ (List.mem_append_left _ (List.mem_append_left _ (List.mem_append_left _ (List.mem_append_left _ (List.mem_append_left _ (List.mem_append_right _ h)))))))
theorem inlX11 : ∀ w ∈ wsX110, w ∈ wsL_law := fun _ h => List.mem_append_left _ (List.mem_append_left _ (List.mem_append_left _ (List.mem_append_left _ (List.mem_append_left _ (List.mem_append_left _ (List.mem_append_left _ (List.mem_append_left _ (List.mem_append_left _ (List.mem_append_left _ (List.mem_append_left _ (List.mem_append_left _ (List.mem_append_left _ (List.mem_append_right _ h)))))))))))))
theorem inlX12 : ∀ w ∈ wsX120, w ∈ wsL_law := fun _ h => List.mem_append_left _ (List.mem_append_left _ (List.mem_append_left _ (List.mem_append_left _ (List.mem_append_left _ (List.mem_append_left _ (List.mem_append_left _ (List.mem_append_left _ (List.mem_append_left _ (List.mem_append_left _ (List.mem_append_left _ (List.mem_append_left _ (List.mem_append_right _ h))))))))))))
abbrev vwCl : List vw_C := [(RX0, TX0, 12), (RX1, TX1, 4), (RX2, TX2, 3), (RX3, TX3, 4), (RX4, TX4, 11), (RX5, TX5, 5), (RX6, TX6, 3), (RX7, TX7, 2), (RX8, TX8, 4), (RX9, TX9, 3), (RX10, TX10, 1), (RX11, TX11, 7), (RX12, TX12, 20)]
end
section
theorem wsR_in : ∀ w ∈ (wsL_law_r1 ++ (wsL_law_r2 ++ (wsL_law_r3 ++ (wsL_law_r4 ++ (wsL_law_r5 ++ (wsL_law_r6 ++ (wsL_law_r7 ++ (wsL_law_r8 ++ (wsL_law_r9 ++ (wsL_law_r10 ++ (wsL_law_r11 ++ (wsL_law_r12 ++ (wsL_law_r13 ++ (wsL_law_r14 ++ (wsL_law_r15 ++ (wsL_law_r16 ++ (wsL_law_r17 ++ (wsL_law_r18 ++ (wsL_law_r19 ++ (wsL_law_r20 ++ (wsL_law_r21 ++ (wsL_law_r22 ++ (wsL_law_r23 ++ (wsL_law_r24 ++ (wsL_law_r25 ++ (wsL_law_r26 ++ (wsL_law_r27 ++ (wsL_law_r28 ++ (wsL_law_r29 ++ (wsL_law_r30 ++ (wsL_law_r31 ++ (wsL_law_r32 ++ (wsL_law_r33 ++ (wsL_law_r34 ++ (wsL_law_r35 ++ (wsL_law_r36 ++ (wsL_law_r37 ++ (wsL_law_r38 ++ (wsL_law_r39 ++ (wsL_law_r40 ++ (wsL_law_r41 ++ (wsL_law_r42 ++ (wsL_law_r43 ++ (wsL_law_r44 ++ (wsL_law_r45 ++ (wsL_law_r46 ++ (wsL_law_r47 ++ wsL_law_r48))))))))))))))))))))))))))))))))))))))))))))))), w ∈ wsL_law := fun _ h => List.mem_append_left _ (List.mem_append_left _ (List.mem_append_left _ (List.mem_append_left _ (List.mem_append_left _ (List.mem_append_left _ (List.mem_append_left _ (List.mem_append_left _ (List.mem_append_left _ (List.mem_append_left _ (List.mem_append_left _ (List.mem_append_left _ (List.mem_append_left _ (List.mem_append_left _ h)))))))))))))
theorem inr_1 : ∀ w ∈ wsL_law_r1, w ∈ wsL_law := fun w h => wsR_in w (List.mem_append_left _ h)
theorem inr_2 : ∀ w ∈ wsL_law_r2, w ∈ wsL_law := fun w h => wsR_in w (List.mem_append_right _ (List.mem_append_left _ h))
theorem inr_3 : ∀ w ∈ wsL_law_r3, w ∈ wsL_law := fun w h => wsR_in w (List.mem_append_right _ (List.mem_append_right _ (List.mem_append_left _ h)))
theorem inr_4 : ∀ w ∈ wsL_law_r4, w ∈ wsL_law := fun w h => wsR_in w (List.mem_append_right _ (List.mem_append_right _ (List.mem_append_right _ (List.mem_append_left _ h))))
theorem inr_5 : ∀ w ∈ wsL_law_r5, w ∈ wsL_law := fun w h => wsR_in w (List.mem_append_right _ (List.mem_append_right _ (List.mem_append_right _ (List.mem_append_right _ (List.mem_append_left _ h)))))
theorem inr_6 : ∀ w ∈ wsL_law_r6, w ∈ wsL_law := fun w h => wsR_in w (List.mem_append_right _ (List.mem_append_right _ (List.mem_append_right _ (List.mem_append_right _ (List.mem_append_right _ (List.mem_append_left _ h))))))
theorem inr_7 : ∀ w ∈ wsL_law_r7, w ∈ wsL_law := fun w h => wsR_in w (List.mem_append_right _ (List.mem_append_right _ (List.mem_append_right _ (List.mem_append_right _ (List.mem_append_right _ (List.mem_append_right _ (List.mem_append_left _ h)))))))
theorem inr_8 : ∀ w ∈ wsL_law_r8, w ∈ wsL_law := fun w h => wsR_in w (List.mem_append_right _ (List.mem_append_right _ (List.mem_append_right _ (List.mem_append_right _ (List.mem_append_right _ (List.mem_append_right _ (List.mem_append_right _ (List.mem_append_left _ h))))))))
theorem inr_9 : ∀ w ∈ wsL_law_r9, w ∈ wsL_law := fun w h => wsR_in w (List.mem_append_right _ (List.mem_append_right _ (List.mem_append_right _ (List.mem_append_right _ (List.mem_append_right _ (List.mem_append_right _ (List.mem_append_right _ (List.mem_append_right _ (List.mem_append_left _ h)))))))))
theorem inr_10 : ∀ w ∈ wsL_law_r10, w ∈ wsL_law := fun w h => wsR_in w (List.mem_append_right _ (List.mem_append_right _ (List.mem_append_right _ (List.mem_append_right _ (List.mem_append_right _ (List.mem_append_right _ (List.mem_append_right _ (List.mem_append_right _ (List.mem_append_right _ (List.mem_append_left _ h))))))))))
theorem inr_11 : ∀ w ∈ wsL_law_r11, w ∈ wsL_law := fun w h => wsR_in w (List.mem_append_right _ (List.mem_append_right _ (List.mem_append_right _ (List.mem_append_right _ (List.mem_append_right _ (List.mem_append_right _ (List.mem_append_right _ (List.mem_append_right _ (List.mem_append_right _ (List.mem_append_right _ (List.mem_append_left _ h)))))))))))
theorem inr_12 : ∀ w ∈ wsL_law_r12, w ∈ wsL_law := fun w h => wsR_in w (List.mem_append_right _ (List.mem_append_right _ (List.mem_append_right _ (List.mem_append_right _ (List.mem_append_right _ (List.mem_append_right _ (List.mem_append_right _ (List.mem_append_right _ (List.mem_append_right _ (List.mem_append_right _ (List.mem_append_right _ (List.mem_append_left _ h))))))))))))
theorem inr_13 : ∀ w ∈ wsL_law_r13, w ∈ wsL_law := fun w h => wsR_in w (List.mem_append_right _ (List.mem_append_right _ (List.mem_append_right _ (List.mem_append_right _ (List.mem_append_right _ (List.mem_append_right _ (List.mem_append_right _ (List.mem_append_right _ (List.mem_append_right _ (List.mem_append_right _ (List.mem_append_right _ (List.mem_append_right _ (List.mem_append_left _ h)))))))))))))
theorem inr_14 : ∀ w ∈ wsL_law_r14, w ∈ wsL_law := fun w h => wsR_in w (List.mem_append_right _ (List.mem_append_right _ (List.mem_append_right _ (List.mem_append_right _ (List.mem_append_right _ (List.mem_append_right _ (List.mem_append_right _ (List.mem_append_right _ (List.mem_append_right _ (List.mem_append_right _ (List.mem_append_right _ (List.mem_append_right _ (List.mem_append_right _ (List.mem_append_left _ h))))))))))))))
theorem inr_15 : ∀ w ∈ wsL_law_r15, w ∈ wsL_law := fun w h => wsR_in w (List.mem_append_right _ (List.mem_append_right _ (List.mem_append_right _ (List.mem_append_right _ (List.mem_append_right _ (List.mem_append_right _ (List.mem_append_right _ (List.mem_append_right _ (List.mem_append_right _ (List.mem_append_right _ (List.mem_append_right _ (List.mem_append_right _ (List.mem_append_right _ (List.mem_append_right _ (List.mem_append_left _ h)))))))))))))))
theorem inr_16 : ∀ w ∈ wsL_law_r16, w ∈ wsL_law := fun w h => wsR_in w (List.mem_append_right _ (List.mem_append_right _ (List.mem_append_right _ (List.mem_append_right _ (List.mem_append_right _ (List.mem_append_right _ (List.mem_append_right _ (List.mem_append_right _ (List.mem_append_right _ (List.mem_append_right _ (List.mem_append_right _ (List.mem_append_right _ (List.mem_append_right _ (List.mem_append_right _ (List.mem_append_right _ (List.mem_append_left _ h))))))))))))))))
theorem inr_17 : ∀ w ∈ wsL_law_r17, w ∈ wsL_law := fun w h => wsR_in w (List.mem_append_right _ (List.mem_append_right _ (List.mem_append_right _ (List.mem_append_right _ (List.mem_append_right _ (List.mem_append_right _ (List.mem_append_right _ (List.mem_append_right _ (List.mem_append_right _ (List.mem_append_right _ (List.mem_append_right _ (List.mem_append_right _ (List.mem_append_right _ (List.mem_append_right _ (List.mem_append_right _ (List.mem_append_right _ (List.mem_append_left _ h)))))))))))))))))
theorem inr_18 : ∀ w ∈ wsL_law_r18, w ∈ wsL_law := fun w h => wsR_in w (List.mem_append_right _ (List.mem_append_right _ (List.mem_append_right _ (List.mem_append_right _ (List.mem_append_right _ (List.mem_append_right _ (List.mem_append_right _ (List.mem_append_right _ (List.mem_append_right _ (List.mem_append_right _ (List.mem_append_right _ (List.mem_append_right _ (List.mem_append_right _ (List.mem_append_right _ (List.mem_append_right _ (List.mem_append_right _ (List.mem_append_right _ (List.mem_append_left _ h))))))))))))))))))
theorem inr_19 : ∀ w ∈ wsL_law_r19, w ∈ wsL_law := fun w h => wsR_in w (List.mem_append_right _ (List.mem_append_right _ (List.mem_append_right _ (List.mem_append_right _ (List.mem_append_right _ (List.mem_append_right _ (List.mem_append_right _ (List.mem_append_right _ (List.mem_append_right _ (List.mem_append_right _ (List.mem_append_right _ (List.mem_append_right _ (List.mem_append_right _ (List.mem_append_right _ (List.mem_append_right _ (List.mem_append_right _ (List.mem_append_right _ (List.mem_append_right _ (List.mem_append_left _ h)))))))))))))))))))
theorem inr_20 : ∀ w ∈ wsL_law_r20, w ∈ wsL_law := fun w h => wsR_in w (List.mem_append_right _ (List.mem_append_right _ (List.mem_append_right _ (List.mem_append_right _ (List.mem_append_right _ (List.mem_append_right _ (List.mem_append_right _ (List.mem_append_right _ (List.mem_append_right _ (List.mem_append_right _ (List.mem_append_right _ (List.mem_append_right _ (List.mem_append_right _ (List.mem_append_right _ (List.mem_append_right _ (List.mem_append_right _ (List.mem_append_right _ (List.mem_append_right _ (List.mem_append_right _ (List.mem_append_left _ h))))))))))))))))))))
theorem inr_21 : ∀ w ∈ wsL_law_r21, w ∈ wsL_law := fun w h => wsR_in w (List.mem_append_right _ (List.mem_append_right _ (List.mem_append_right _ (List.mem_append_right _ (List.mem_append_right _ (List.mem_append_right _ (List.mem_append_right _ (List.mem_append_right _ (List.mem_append_right _ (List.mem_append_right _ (List.mem_append_right _ (List.mem_append_right _ (List.mem_append_right _ (List.mem_append_right _ (List.mem_append_right _ (List.mem_append_right _ (List.mem_append_right _ (List.mem_append_right _ (List.mem_append_right _ (List.mem_append_right _ (List.mem_append_left _ h)))))))))))))))))))))
theorem inr_22 : ∀ w ∈ wsL_law_r22, w ∈ wsL_law := fun w h => wsR_in w (List.mem_append_right _ (List.mem_append_right _ (List.mem_append_right _ (List.mem_append_right _ (List.mem_append_right _ (List.mem_append_right _ (List.mem_append_right _ (List.mem_append_right _ (List.mem_append_right _ (List.mem_append_right _ (List.mem_append_right _ (List.mem_append_right _ (List.mem_append_right _ (List.mem_append_right _ (List.mem_append_right _ (List.mem_append_right _ (List.mem_append_right _ (List.mem_append_right _ (List.mem_append_right _ (List.mem_append_right _ (List.mem_append_right _ (List.mem_append_left _ h))))))))))))))))))))))
theorem inr_23 : ∀ w ∈ wsL_law_r23, w ∈ wsL_law := fun w h => wsR_in w (List.mem_append_right _ (List.mem_append_right _ (List.mem_append_right _ (List.mem_append_right _ (List.mem_append_right _ (List.mem_append_right _ (List.mem_append_right _ (List.mem_append_right _ (List.mem_append_right _ (List.mem_append_right _ (List.mem_append_right _ (List.mem_append_right _ (List.mem_append_right _ (List.mem_append_right _ (List.mem_append_right _ (List.mem_append_right _ (List.mem_append_right _ (List.mem_append_right _ (List.mem_append_right _ (List.mem_append_right _ (List.mem_append_right _ (List.mem_append_right _ (List.mem_append_left _ h)))))))))))))))))))))))
theorem inr_24 : ∀ w ∈ wsL_law_r24, w ∈ wsL_law := fun w h => wsR_in w (List.mem_append_right _ (List.mem_append_right _ (List.mem_append_right _ (List.mem_append_right _ (List.mem_append_right _ (List.mem_append_right _ (List.mem_append_right _ (List.mem_append_right _ (List.mem_append_right _ (List.mem_append_right _ (List.mem_append_right _ (List.mem_append_right _ (List.mem_append_right _ (List.mem_append_right _ (List.mem_append_right _ (List.mem_append_right _ (List.mem_append_right _ (List.mem_append_right _ (List.mem_append_right _ (List.mem_append_right _ (List.mem_append_right _ (List.mem_append_right _ (List.mem_append_right _ (List.mem_append_left _ h))))))))))))))))))))))))
theorem inr_25 : ∀ w ∈ wsL_law_r25, w ∈ wsL_law := fun w h => wsR_in w (List.mem_append_right _ (List.mem_append_right _ (List.mem_append_right _ (List.mem_append_right _ (List.mem_append_right _ (List.mem_append_right _ (List.mem_append_right _ (List.mem_append_right _ (List.mem_append_right _ (List.mem_append_right _ (List.mem_append_right _ (List.mem_append_right _ (List.mem_append_right _ (List.mem_append_right _ (List.mem_append_right _ (List.mem_append_right _ (List.mem_append_right _ (List.mem_append_right _ (List.mem_append_right _ (List.mem_append_right _ (List.mem_append_right _ (List.mem_append_right _ (List.mem_append_right _ (List.mem_append_right _ (List.mem_append_left _ h)))))))))))))))))))))))))
theorem inr_26 : ∀ w ∈ wsL_law_r26, w ∈ wsL_law := fun w h => wsR_in w (List.mem_append_right _ (List.mem_append_right _ (List.mem_append_right _ (List.mem_append_right _ (List.mem_append_right _ (List.mem_append_right _ (List.mem_append_right _ (List.mem_append_right _ (List.mem_append_right _ (List.mem_append_right _ (List.mem_append_right _ (List.mem_append_right _ (List.mem_append_right _ (List.mem_append_right _ (List.mem_append_right _ (List.mem_append_right _ (List.mem_append_right _ (List.mem_append_right _ (List.mem_append_right _ (List.mem_append_right _ (List.mem_append_right _ (List.mem_append_right _ (List.mem_append_right _ (List.mem_append_right _ (List.mem_append_right _ (List.mem_append_left _ h))))))))))))))))))))))))))
theorem inr_27 : ∀ w ∈ wsL_law_r27, w ∈ wsL_law := fun w h => wsR_in w (List.mem_append_right _ (List.mem_append_right _ (List.mem_append_right _ (List.mem_append_right _ (List.mem_append_right _ (List.mem_append_right _ (List.mem_append_right _ (List.mem_append_right _ (List.mem_append_right _ (List.mem_append_right _ (List.mem_append_right _ (List.mem_append_right _ (List.mem_append_right _ (List.mem_append_right _ (List.mem_append_right _ (List.mem_append_right _ (List.mem_append_right _ (List.mem_append_right _ (List.mem_append_right _ (List.mem_append_right _ (List.mem_append_right _ (List.mem_append_right _ (List.mem_append_right _ (List.mem_append_right _ (List.mem_append_right _ (List.mem_append_right _ (List.mem_append_left _ h)))))))))))))))))))))))))))
theorem inr_28 : ∀ w ∈ wsL_law_r28, w ∈ wsL_law := fun w h => wsR_in w (List.mem_append_right _ (List.mem_append_right _ (List.mem_append_right _ (List.mem_append_right _ (List.mem_append_right _ (List.mem_append_right _ (List.mem_append_right _ (List.mem_append_right _ (List.mem_append_right _ (List.mem_append_right _ (List.mem_append_right _ (List.mem_append_right _ (List.mem_append_right _ (List.mem_append_right _ (List.mem_append_right _ (List.mem_append_right _ (List.mem_append_right _ (List.mem_append_right _ (List.mem_append_right _ (List.mem_append_right _ (List.mem_append_right _ (List.mem_append_right _ (List.mem_append_right _ (List.mem_append_right _ (List.mem_append_right _ (List.mem_append_right _ (List.mem_append_right _ (List.mem_append_left _ h))))))))))))))))))))))))))))
theorem inr_29 : ∀ w ∈ wsL_law_r29, w ∈ wsL_law := fun w h => wsR_in w (List.mem_append_right _ (List.mem_append_right _ (List.mem_append_right _ (List.mem_append_right _ (List.mem_append_right _ (List.mem_append_right _ (List.mem_append_right _ (List.mem_append_right _ (List.mem_append_right _ (List.mem_append_right _ (List.mem_append_right _ (List.mem_append_right _ (List.mem_append_right _ (List.mem_append_right _ (List.mem_append_right _ (List.mem_append_right _ (List.mem_append_right _ (List.mem_append_right _ (List.mem_append_right _ (List.mem_append_right _ (List.mem_append_right _ (List.mem_append_right _ (List.mem_append_right _ (List.mem_append_right _ (List.mem_append_right _ (List.mem_append_right _ (List.mem_append_right _ (List.mem_append_right _ (List.mem_append_left _ h)))))))))))))))))))))))))))))
theorem inr_30 : ∀ w ∈ wsL_law_r30, w ∈ wsL_law := fun w h => wsR_in w (List.mem_append_right _ (List.mem_append_right _ (List.mem_append_right _ (List.mem_append_right _ (List.mem_append_right _ (List.mem_append_right _ (List.mem_append_right _ (List.mem_append_right _ (List.mem_append_right _ (List.mem_append_right _ (List.mem_append_right _ (List.mem_append_right _ (List.mem_append_right _ (List.mem_append_right _ (List.mem_append_right _ (List.mem_append_right _ (List.mem_append_right _ (List.mem_append_right _ (List.mem_append_right _ (List.mem_append_right _ (List.mem_append_right _ (List.mem_append_right _ (List.mem_append_right _ (List.mem_append_right _ (List.mem_append_right _ (List.mem_append_right _ (List.mem_append_right _ (List.mem_append_right _ (List.mem_append_right _ (List.mem_append_left _ h))))))))))))))))))))))))))))))
theorem inr_31 : ∀ w ∈ wsL_law_r31, w ∈ wsL_law := fun w h => wsR_in w (List.mem_append_right _ (List.mem_append_right _ (List.mem_append_right _ (List.mem_append_right _ (List.mem_append_right _ (List.mem_append_right _ (List.mem_append_right _ (List.mem_append_right _ (List.mem_append_right _ (List.mem_append_right _ (List.mem_append_right _ (List.mem_append_right _ (List.mem_append_right _ (List.mem_append_right _ (List.mem_append_right _ (List.mem_append_right _ (List.mem_append_right _ (List.mem_append_right _ (List.mem_append_right _ (List.mem_append_right _ (List.mem_append_right _ (List.mem_append_right _ (List.mem_append_right _ (List.mem_append_right _ (List.mem_append_right _ (List.mem_append_right _ (List.mem_append_right _ (List.mem_append_right _ (List.mem_append_right _ (List.mem_append_right _ (List.mem_append_left _ h)))))))))))))))))))))))))))))))
theorem inr_32 : ∀ w ∈ wsL_law_r32, w ∈ wsL_law := fun w h => wsR_in w (List.mem_append_right _ (List.mem_append_right _ (List.mem_append_right _ (List.mem_append_right _ (List.mem_append_right _ (List.mem_append_right _ (List.mem_append_right _ (List.mem_append_right _ (List.mem_append_right _ (List.mem_append_right _ (List.mem_append_right _ (List.mem_append_right _ (List.mem_append_right _ (List.mem_append_right _ (List.mem_append_right _ (List.mem_append_right _ (List.mem_append_right _ (List.mem_append_right _ (List.mem_append_right _ (List.mem_append_right _ (List.mem_append_right _ (List.mem_append_right _ (List.mem_append_right _ (List.mem_append_right _ (List.mem_append_right _ (List.mem_append_right _ (List.mem_append_right _ (List.mem_append_right _ (List.mem_append_right _ (List.mem_append_right _ (List.mem_append_right _ (List.mem_append_left _ h))))))))))))))))))))))))))))))))
theorem inr_33 : ∀ w ∈ wsL_law_r33, w ∈ wsL_law := fun w h => wsR_in w (List.mem_append_right _ (List.mem_append_right _ (List.mem_append_right _ (List.mem_append_right _ (List.mem_append_right _ (List.mem_append_right _ (List.mem_append_right _ (List.mem_append_right _ (List.mem_append_right _ (List.mem_append_right _ (List.mem_append_right _ (List.mem_append_right _ (List.mem_append_right _ (List.mem_append_right _ (List.mem_append_right _ (List.mem_append_right _ (List.mem_append_right _ (List.mem_append_right _ (List.mem_append_right _ (List.mem_append_right _ (List.mem_append_right _ (List.mem_append_right _ (List.mem_append_right _ (List.mem_append_right _ (List.mem_append_right _ (List.mem_append_right _ (List.mem_append_right _ (List.mem_append_right _ (List.mem_append_right _ (List.mem_append_right _ (List.mem_append_right _ (List.mem_append_right _ (List.mem_append_left _ h)))))))))))))))))))))))))))))))))
theorem inr_34 : ∀ w ∈ wsL_law_r34, w ∈ wsL_law := fun w h => wsR_in w (List.mem_append_right _ (List.mem_append_right _ (List.mem_append_right _ (List.mem_append_right _ (List.mem_append_right _ (List.mem_append_right _ (List.mem_append_right _ (List.mem_append_right _ (List.mem_append_right _ (List.mem_append_right _ (List.mem_append_right _ (List.mem_append_right _ (List.mem_append_right _ (List.mem_append_right _ (List.mem_append_right _ (List.mem_append_right _ (List.mem_append_right _ (List.mem_append_right _ (List.mem_append_right _ (List.mem_append_right _ (List.mem_append_right _ (List.mem_append_right _ (List.mem_append_right _ (List.mem_append_right _ (List.mem_append_right _ (List.mem_append_right _ (List.mem_append_right _ (List.mem_append_right _ (List.mem_append_right _ (List.mem_append_right _ (List.mem_append_right _ (List.mem_append_right _ (List.mem_append_right _ (List.mem_append_left _ h))))))))))))))))))))))))))))))))))
theorem inr_35 : ∀ w ∈ wsL_law_r35, w ∈ wsL_law := fun w h => wsR_in w (List.mem_append_right _ (List.mem_append_right _ (List.mem_append_right _ (List.mem_append_right _ (List.mem_append_right _ (List.mem_append_right _ (List.mem_append_right _ (List.mem_append_right _ (List.mem_append_right _ (List.mem_append_right _ (List.mem_append_right _ (List.mem_append_right _ (List.mem_append_right _ (List.mem_append_right _ (List.mem_append_right _ (List.mem_append_right _ (List.mem_append_right _ (List.mem_append_right _ (List.mem_append_right _ (List.mem_append_right _ (List.mem_append_right _ (List.mem_append_right _ (List.mem_append_right _ (List.mem_append_right _ (List.mem_append_right _ (List.mem_append_right _ (List.mem_append_right _ (List.mem_append_right _ (List.mem_append_right _ (List.mem_append_right _ (List.mem_append_right _ (List.mem_append_right _ (List.mem_append_right _ (List.mem_append_right _ (List.mem_append_left _ h)))))))))))))))))))))))))))))))))))
theorem inr_36 : ∀ w ∈ wsL_law_r36, w ∈ wsL_law := fun w h => wsR_in w (List.mem_append_right _ (List.mem_append_right _ (List.mem_append_right _ (List.mem_append_right _ (List.mem_append_right _ (List.mem_append_right _ (List.mem_append_right _ (List.mem_append_right _ (List.mem_append_right _ (List.mem_append_right _ (List.mem_append_right _ (List.mem_append_right _ (List.mem_append_right _ (List.mem_append_right _ (List.mem_append_right _ (List.mem_append_right _ (List.mem_append_right _ (List.mem_append_right _ (List.mem_append_right _ (List.mem_append_right _ (List.mem_append_right _ (List.mem_append_right _ (List.mem_append_right _ (List.mem_append_right _ (List.mem_append_right _ (List.mem_append_right _ (List.mem_append_right _ (List.mem_append_right _ (List.mem_append_right _ (List.mem_append_right _ (List.mem_append_right _ (List.mem_append_right _ (List.mem_append_right _ (List.mem_append_right _ (List.mem_append_right _ (List.mem_append_left _ h))))))))))))))))))))))))))))))))))))
theorem inr_37 : ∀ w ∈ wsL_law_r37, w ∈ wsL_law := fun w h => wsR_in w (List.mem_append_right _ (List.mem_append_right _ (List.mem_append_right _ (List.mem_append_right _ (List.mem_append_right _ (List.mem_append_right _ (List.mem_append_right _ (List.mem_append_right _ (List.mem_append_right _ (List.mem_append_right _ (List.mem_append_right _ (List.mem_append_right _ (List.mem_append_right _ (List.mem_append_right _ (List.mem_append_right _ (List.mem_append_right _ (List.mem_append_right _ (List.mem_append_right _ (List.mem_append_right _ (List.mem_append_right _ (List.mem_append_right _ (List.mem_append_right _ (List.mem_append_right _ (List.mem_append_right _ (List.mem_append_right _ (List.mem_append_right _ (List.mem_append_right _ (List.mem_append_right _ (List.mem_append_right _ (List.mem_append_right _ (List.mem_append_right _ (List.mem_append_right _ (List.mem_append_right _ (List.mem_append_right _ (List.mem_append_right _ (List.mem_append_right _ (List.mem_append_left _ h)))))))))))))))))))))))))))))))))))))
theorem inr_38 : ∀ w ∈ wsL_law_r38, w ∈ wsL_law := fun w h => wsR_in w (List.mem_append_right _ (List.mem_append_right _ (List.mem_append_right _ (List.mem_append_right _ (List.mem_append_right _ (List.mem_append_right _ (List.mem_append_right _ (List.mem_append_right _ (List.mem_append_right _ (List.mem_append_right _ (List.mem_append_right _ (List.mem_append_right _ (List.mem_append_right _ (List.mem_append_right _ (List.mem_append_right _ (List.mem_append_right _ (List.mem_append_right _ (List.mem_append_right _ (List.mem_append_right _ (List.mem_append_right _ (List.mem_append_right _ (List.mem_append_right _ (List.mem_append_right _ (List.mem_append_right _ (List.mem_append_right _ (List.mem_append_right _ (List.mem_append_right _ (List.mem_append_right _ (List.mem_append_right _ (List.mem_append_right _ (List.mem_append_right _ (List.mem_append_right _ (List.mem_append_right _ (List.mem_append_right _ (List.mem_append_right _ (List.mem_append_right _ (List.mem_append_right _ (List.mem_append_left _ h))))))))))))))))))))))))))))))))))))))
theorem inr_39 : ∀ w ∈ wsL_law_r39, w ∈ wsL_law := fun w h => wsR_in w (List.mem_append_right _ (List.mem_append_right _ (List.mem_append_right _ (List.mem_append_right _ (List.mem_append_right _ (List.mem_append_right _ (List.mem_append_right _ (List.mem_append_right _ (List.mem_append_right _ (List.mem_append_right _ (List.mem_append_right _ (List.mem_append_right _ (List.mem_append_right _ (List.mem_append_right _ (List.mem_append_right _ (List.mem_append_right _ (List.mem_append_right _ (List.mem_append_right _ (List.mem_append_right _ (List.mem_append_right _ (List.mem_append_right _ (List.mem_append_right _ (List.mem_append_right _ (List.mem_append_right _ (List.mem_append_right _ (List.mem_append_right _ (List.mem_append_right _ (List.mem_append_right _ (List.mem_append_right _ (List.mem_append_right _ (List.mem_append_right _ (List.mem_append_right _ (List.mem_append_right _ (List.mem_append_right _ (List.mem_append_right _ (List.mem_append_right _ (List.mem_append_right _ (List.mem_append_right _ (List.mem_append_left _ h)))))))))))))))))))))))))))))))))))))))
theorem inr_40 : ∀ w ∈ wsL_law_r40, w ∈ wsL_law := fun w h => wsR_in w (List.mem_append_right _ (List.mem_append_right _ (List.mem_append_right _ (List.mem_append_right _ (List.mem_append_right _ (List.mem_append_right _ (List.mem_append_right _ (List.mem_append_right _ (List.mem_append_right _ (List.mem_append_right _ (List.mem_append_right _ (List.mem_append_right _ (List.mem_append_right _ (List.mem_append_right _ (List.mem_append_right _ (List.mem_append_right _ (List.mem_append_right _ (List.mem_append_right _ (List.mem_append_right _ (List.mem_append_right _ (List.mem_append_right _ (List.mem_append_right _ (List.mem_append_right _ (List.mem_append_right _ (List.mem_append_right _ (List.mem_append_right _ (List.mem_append_right _ (List.mem_append_right _ (List.mem_append_right _ (List.mem_append_right _ (List.mem_append_right _ (List.mem_append_right _ (List.mem_append_right _ (List.mem_append_right _ (List.mem_append_right _ (List.mem_append_right _ (List.mem_append_right _ (List.mem_append_right _ (List.mem_append_right _ (List.mem_append_left _ h))))))))))))))))))))))))))))))))))))))))
theorem inr_41 : ∀ w ∈ wsL_law_r41, w ∈ wsL_law := fun w h => wsR_in w (List.mem_append_right _ (List.mem_append_right _ (List.mem_append_right _ (List.mem_append_right _ (List.mem_append_right _ (List.mem_append_right _ (List.mem_append_right _ (List.mem_append_right _ (List.mem_append_right _ (List.mem_append_right _ (List.mem_append_right _ (List.mem_append_right _ (List.mem_append_right _ (List.mem_append_right _ (List.mem_append_right _ (List.mem_append_right _ (List.mem_append_right _ (List.mem_append_right _ (List.mem_append_right _ (List.mem_append_right _ (List.mem_append_right _ (List.mem_append_right _ (List.mem_append_right _ (List.mem_append_right _ (List.mem_append_right _ (List.mem_append_right _ (List.mem_append_right _ (List.mem_append_right _ (List.mem_append_right _ (List.mem_append_right _ (List.mem_append_right _ (List.mem_append_right _ (List.mem_append_right _ (List.mem_append_right _ (List.mem_append_right _ (List.mem_append_right _ (List.mem_append_right _ (List.mem_append_right _ (List.mem_append_right _ (List.mem_append_right _ (List.mem_append_left _ h)))))))))))))))))))))))))))))))))))))))))
theorem inr_42 : ∀ w ∈ wsL_law_r42, w ∈ wsL_law := fun w h => wsR_in w (List.mem_append_right _ (List.mem_append_right _ (List.mem_append_right _ (List.mem_append_right _ (List.mem_append_right _ (List.mem_append_right _ (List.mem_append_right _ (List.mem_append_right _ (List.mem_append_right _ (List.mem_append_right _ (List.mem_append_right _ (List.mem_append_right _ (List.mem_append_right _ (List.mem_append_right _ (List.mem_append_right _ (List.mem_append_right _ (List.mem_append_right _ (List.mem_append_right _ (List.mem_append_right _ (List.mem_append_right _ (List.mem_append_right _ (List.mem_append_right _ (List.mem_append_right _ (List.mem_append_right _ (List.mem_append_right _ (List.mem_append_right _ (List.mem_append_right _ (List.mem_append_right _ (List.mem_append_right _ (List.mem_append_right _ (List.mem_append_right _ (List.mem_append_right _ (List.mem_append_right _ (List.mem_append_right _ (List.mem_append_right _ (List.mem_append_right _ (List.mem_append_right _ (List.mem_append_right _ (List.mem_append_right _ (List.mem_append_right _ (List.mem_append_right _ (List.mem_append_left _ h))))))))))))))))))))))))))))))))))))))))))
theorem inr_43 : ∀ w ∈ wsL_law_r43, w ∈ wsL_law := fun w h => wsR_in w (List.mem_append_right _ (List.mem_append_right _ (List.mem_append_right _ (List.mem_append_right _ (List.mem_append_right _ (List.mem_append_right _ (List.mem_append_right _ (List.mem_append_right _ (List.mem_append_right _ (List.mem_append_right _ (List.mem_append_right _ (List.mem_append_right _ (List.mem_append_right _ (List.mem_append_right _ (List.mem_append_right _ (List.mem_append_right _ (List.mem_append_right _ (List.mem_append_right _ (List.mem_append_right _ (List.mem_append_right _ (List.mem_append_right _ (List.mem_append_right _ (List.mem_append_right _ (List.mem_append_right _ (List.mem_append_right _ (List.mem_append_right _ (List.mem_append_right _ (List.mem_append_right _ (List.mem_append_right _ (List.mem_append_right _ (List.mem_append_right _ (List.mem_append_right _ (List.mem_append_right _ (List.mem_append_right _ (List.mem_append_right _ (List.mem_append_right _ (List.mem_append_right _ (List.mem_append_right _ (List.mem_append_right _ (List.mem_append_right _ (List.mem_append_right _ (List.mem_append_right _ (List.mem_append_left _ h)))))))))))))))))))))))))))))))))))))))))))
theorem inr_44 : ∀ w ∈ wsL_law_r44, w ∈ wsL_law := fun w h => wsR_in w (List.mem_append_right _ (List.mem_append_right _ (List.mem_append_right _ (List.mem_append_right _ (List.mem_append_right _ (List.mem_append_right _ (List.mem_append_right _ (List.mem_append_right _ (List.mem_append_right _ (List.mem_append_right _ (List.mem_append_right _ (List.mem_append_right _ (List.mem_append_right _ (List.mem_append_right _ (List.mem_append_right _ (List.mem_append_right _ (List.mem_append_right _ (List.mem_append_right _ (List.mem_append_right _ (List.mem_append_right _ (List.mem_append_right _ (List.mem_append_right _ (List.mem_append_right _ (List.mem_append_right _ (List.mem_append_right _ (List.mem_append_right _ (List.mem_append_right _ (List.mem_append_right _ (List.mem_append_right _ (List.mem_append_right _ (List.mem_append_right _ (List.mem_append_right _ (List.mem_append_right _ (List.mem_append_right _ (List.mem_append_right _ (List.mem_append_right _ (List.mem_append_right _ (List.mem_append_right _ (List.mem_append_right _ (List.mem_append_right _ (List.mem_append_right _ (List.mem_append_right _ (List.mem_append_right _ (List.mem_append_left _ h))))))))))))))))))))))))))))))))))))))))))))
theorem inr_45 : ∀ w ∈ wsL_law_r45, w ∈ wsL_law := fun w h => wsR_in w (List.mem_append_right _ (List.mem_append_right _ (List.mem_append_right _ (List.mem_append_right _ (List.mem_append_right _ (List.mem_append_right _ (List.mem_append_right _ (List.mem_append_right _ (List.mem_append_right _ (List.mem_append_right _ (List.mem_append_right _ (List.mem_append_right _ (List.mem_append_right _ (List.mem_append_right _ (List.mem_append_right _ (List.mem_append_right _ (List.mem_append_right _ (List.mem_append_right _ (List.mem_append_right _ (List.mem_append_right _ (List.mem_append_right _ (List.mem_append_right _ (List.mem_append_right _ (List.mem_append_right _ (List.mem_append_right _ (List.mem_append_right _ (List.mem_append_right _ (List.mem_append_right _ (List.mem_append_right _ (List.mem_append_right _ (List.mem_append_right _ (List.mem_append_right _ (List.mem_append_right _ (List.mem_append_right _ (List.mem_append_right _ (List.mem_append_right _ (List.mem_append_right _ (List.mem_append_right _ (List.mem_append_right _ (List.mem_append_right _ (List.mem_append_right _ (List.mem_append_right _ (List.mem_append_right _ (List.mem_append_right _ (List.mem_append_left _ h)))))))))))))))))))))))))))))))))))))))))))))
theorem inr_46 : ∀ w ∈ wsL_law_r46, w ∈ wsL_law := fun w h => wsR_in w (List.mem_append_right _ (List.mem_append_right _ (List.mem_append_right _ (List.mem_append_right _ (List.mem_append_right _ (List.mem_append_right _ (List.mem_append_right _ (List.mem_append_right _ (List.mem_append_right _ (List.mem_append_right _ (List.mem_append_right _ (List.mem_append_right _ (List.mem_append_right _ (List.mem_append_right _ (List.mem_append_right _ (List.mem_append_right _ (List.mem_append_right _ (List.mem_append_right _ (List.mem_append_right _ (List.mem_append_right _ (List.mem_append_right _ (List.mem_append_right _ (List.mem_append_right _ (List.mem_append_right _ (List.mem_append_right _ (List.mem_append_right _ (List.mem_append_right _ (List.mem_append_right _ (List.mem_append_right _ (List.mem_append_right _ (List.mem_append_right _ (List.mem_append_right _ (List.mem_append_right _ (List.mem_append_right _ (List.mem_append_right _ (List.mem_append_right _ (List.mem_append_right _ (List.mem_append_right _ (List.mem_append_right _ (List.mem_append_right _ (List.mem_append_right _ (List.mem_append_right _ (List.mem_append_right _ (List.mem_append_right _ (List.mem_append_right _ (List.mem_append_left _ h))))))))))))))))))))))))))))))))))))))))))))))
theorem inr_47 : ∀ w ∈ wsL_law_r47, w ∈ wsL_law := fun w h => wsR_in w (List.mem_append_right _ (List.mem_append_right _ (List.mem_append_right _ (List.mem_append_right _ (List.mem_append_right _ (List.mem_append_right _ (List.mem_append_right _ (List.mem_append_right _ (List.mem_append_right _ (List.mem_append_right _ (List.mem_append_right _ (List.mem_append_right _ (List.mem_append_right _ (List.mem_append_right _ (List.mem_append_right _ (List.mem_append_right _ (List.mem_append_right _ (List.mem_append_right _ (List.mem_append_right _ (List.mem_append_right _ (List.mem_append_right _ (List.mem_append_right _ (List.mem_append_right _ (List.mem_append_right _ (List.mem_append_right _ (List.mem_append_right _ (List.mem_append_right _ (List.mem_append_right _ (List.mem_append_right _ (List.mem_append_right _ (List.mem_append_right _ (List.mem_append_right _ (List.mem_append_right _ (List.mem_append_right _ (List.mem_append_right _ (List.mem_append_right _ (List.mem_append_right _ (List.mem_append_right _ (List.mem_append_right _ (List.mem_append_right _ (List.mem_append_right _ (List.mem_append_right _ (List.mem_append_right _ (List.mem_append_right _ (List.mem_append_right _ (List.mem_append_right _ (List.mem_append_left _ h)))))))))))))))))))))))))))))))))))))))))))))))
theorem inr_48 : ∀ w ∈ wsL_law_r48, w ∈ wsL_law := fun w h => wsR_in w (List.mem_append_right _ (List.mem_append_right _ (List.mem_append_right _ (List.mem_append_right _ (List.mem_append_right _ (List.mem_append_right _ (List.mem_append_right _ (List.mem_append_right _ (List.mem_append_right _ (List.mem_append_right _ (List.mem_append_right _ (List.mem_append_right _ (List.mem_append_right _ (List.mem_append_right _ (List.mem_append_right _ (List.mem_append_right _ (List.mem_append_right _ (List.mem_append_right _ (List.mem_append_right _ (List.mem_append_right _ (List.mem_append_right _ (List.mem_append_right _ (List.mem_append_right _ (List.mem_append_right _ (List.mem_append_right _ (List.mem_append_right _ (List.mem_append_right _ (List.mem_append_right _ (List.mem_append_right _ (List.mem_append_right _ (List.mem_append_right _ (List.mem_append_right _ (List.mem_append_right _ (List.mem_append_right _ (List.mem_append_right _ (List.mem_append_right _ (List.mem_append_right _ (List.mem_append_right _ (List.mem_append_right _ (List.mem_append_right _ (List.mem_append_right _ (List.mem_append_right _ (List.mem_append_right _ (List.mem_append_right _ (List.mem_append_right _ (List.mem_append_right _ (List.mem_append_right _ (h))))))))))))))))))))))))))))))))))))))))))))))))
theorem wd_1_0 : (Cond.classLink RL 7 RX11) ∈ wsL_law := inr_1 _ (List.mem_of_getElem? (i := 0) rfl)
theorem wd_1_1 : (Cond.instantiable RX11 7) ∈ wsL_law := inr_1 _ (List.mem_of_getElem? (i := 1) rfl)
theorem wd_1_2 : (Cond.initialized RX11) ∈ wsL_law := inr_1 _ (List.mem_of_getElem? (i := 2) rfl)
theorem wd_1_3 : (Cond.classLink RL 10 RX12) ∈ wsL_law := inr_1 _ (List.mem_of_getElem? (i := 3) rfl)
theorem wd_1_4 : (Cond.instantiable RX12 20) ∈ wsL_law := inr_1 _ (List.mem_of_getElem? (i := 4) rfl)
theorem wd_1_5 : (Cond.initialized RX12) ∈ wsL_law := inr_1 _ (List.mem_of_getElem? (i := 5) rfl)
theorem wd_1_6 : (Cond.methodLink RL 9 yX11_init) ∈ wsL_law := inr_1 _ (List.mem_of_getElem? (i := 6) rfl)
theorem wd_1_7 : (Cond.instanceMethod yX11_init) ∈ wsL_law := inr_1 _ (List.mem_of_getElem? (i := 7) rfl)
theorem wd_1_8 : (Cond.code yX11_init cX11_init 2 none) ∈ wsL_law := inr_1 _ (List.mem_of_getElem? (i := 8) rfl)
theorem wd_1_9 : (Cond.methodLink RX11 1 objectInit) ∈ wsL_law := inr_1 _ (List.mem_of_getElem? (i := 9) rfl)
theorem wd_1_10 : (Cond.instanceMethod objectInit) ∈ wsL_law := inr_1 _ (List.mem_of_getElem? (i := 10) rfl)
theorem wd_1_11 : (Cond.code objectInit ⟨#[0xb1]⟩ 1 none) ∈ wsL_law := inr_1 _ (List.mem_of_getElem? (i := 11) rfl)
theorem wd_1_12 : (Cond.classLink RX11 7 RX4) ∈ wsL_law := inr_1 _ (List.mem_of_getElem? (i := 12) rfl)
theorem wd_1_13 : (Cond.instantiable RX4 11) ∈ wsL_law := inr_1 _ (List.mem_of_getElem? (i := 13) rfl)
theorem wd_1_14 : (Cond.initialized RX4) ∈ wsL_law := inr_1 _ (List.mem_of_getElem? (i := 14) rfl)
theorem wd_1_15 : (Cond.fieldLink RX11 10 "SmallRooms" "nursery" "LSmallRooms$Nursery;") ∈ wsL_law := inr_1 _ (List.mem_of_getElem? (i := 15) rfl)
theorem wd_1_16 : (Cond.classLink RX11 16 RX2) ∈ wsL_law := inr_1 _ (List.mem_of_getElem? (i := 16) rfl)
theorem wd_1_17 : (Cond.instantiable RX2 3) ∈ wsL_law := inr_1 _ (List.mem_of_getElem? (i := 17) rfl)
theorem wd_1_18 : (Cond.initialized RX2) ∈ wsL_law := inr_1 _ (List.mem_of_getElem? (i := 18) rfl)
theorem wd_1_19 : (Cond.fieldLink RX11 19 "SmallRooms" "history" "LSmallRooms$History;") ∈ wsL_law := inr_1 _ (List.mem_of_getElem? (i := 19) rfl)
theorem wd_1_20 : (Cond.classLink RX11 23 RX7) ∈ wsL_law := inr_1 _ (List.mem_of_getElem? (i := 20) rfl)
theorem wd_1_21 : (Cond.instantiable RX7 2) ∈ wsL_law := inr_1 _ (List.mem_of_getElem? (i := 21) rfl)
theorem wd_1_22 : (Cond.initialized RX7) ∈ wsL_law := inr_1 _ (List.mem_of_getElem? (i := 22) rfl)
theorem wd_1_23 : (Cond.fieldLink RX11 26 "SmallRooms" "reckoning" "LSmallRooms$Reckoning;") ∈ wsL_law := inr_1 _ (List.mem_of_getElem? (i := 23) rfl)
theorem wd_2_0 : (Cond.classLink RX11 30 RX5) ∈ wsL_law := inr_2 _ (List.mem_of_getElem? (i := 0) rfl)
theorem wd_2_1 : (Cond.instantiable RX5 5) ∈ wsL_law := inr_2 _ (List.mem_of_getElem? (i := 1) rfl)
theorem wd_2_2 : (Cond.initialized RX5) ∈ wsL_law := inr_2 _ (List.mem_of_getElem? (i := 2) rfl)
theorem wd_2_3 : (Cond.fieldLink RX11 33 "SmallRooms" "planner" "LSmallRooms$Planner;") ∈ wsL_law := inr_2 _ (List.mem_of_getElem? (i := 3) rfl)
theorem wd_2_4 : (Cond.classLink RX11 37 RX10) ∈ wsL_law := inr_2 _ (List.mem_of_getElem? (i := 4) rfl)
theorem wd_2_5 : (Cond.instantiable RX10 1) ∈ wsL_law := inr_2 _ (List.mem_of_getElem? (i := 5) rfl)
theorem wd_2_6 : (Cond.initialized RX10) ∈ wsL_law := inr_2 _ (List.mem_of_getElem? (i := 6) rfl)
theorem wd_2_7 : (Cond.fieldLink RX11 40 "SmallRooms" "shiftPlan" "LSmallRooms$ShiftPlan;") ∈ wsL_law := inr_2 _ (List.mem_of_getElem? (i := 7) rfl)
theorem wd_2_8 : (Cond.classLink RX11 44 RX9) ∈ wsL_law := inr_2 _ (List.mem_of_getElem? (i := 8) rfl)
theorem wd_2_9 : (Cond.fieldLink RX11 46 "SmallRooms" "sheets" "[LSmallRooms$Sheet;") ∈ wsL_law := inr_2 _ (List.mem_of_getElem? (i := 9) rfl)
theorem wd_2_10 : (Cond.instantiable RX9 3) ∈ wsL_law := inr_2 _ (List.mem_of_getElem? (i := 10) rfl)
theorem wd_2_11 : (Cond.initialized RX9) ∈ wsL_law := inr_2 _ (List.mem_of_getElem? (i := 11) rfl)
theorem wd_2_12 : (Cond.instanceMethod yX4_init) ∈ wsL_law := inr_2 _ (List.mem_of_getElem? (i := 12) rfl)
theorem wd_2_13 : (Cond.code yX4_init cX4_init 1 none) ∈ wsL_law := inr_2 _ (List.mem_of_getElem? (i := 13) rfl)
theorem wd_2_14 : (Cond.methodLink RX4 3 objectInit) ∈ wsL_law := inr_2 _ (List.mem_of_getElem? (i := 14) rfl)
theorem wd_2_15 : (Cond.classLink RX4 9 RX8) ∈ wsL_law := inr_2 _ (List.mem_of_getElem? (i := 15) rfl)
theorem wd_2_16 : (Cond.instantiable RX8 4) ∈ wsL_law := inr_2 _ (List.mem_of_getElem? (i := 16) rfl)
theorem wd_2_17 : (Cond.initialized RX8) ∈ wsL_law := inr_2 _ (List.mem_of_getElem? (i := 17) rfl)
theorem wd_2_18 : (Cond.fieldLink RX4 12 "SmallRooms$Nursery" "rooms" "LSmallRooms$Rooms;") ∈ wsL_law := inr_2 _ (List.mem_of_getElem? (i := 18) rfl)
theorem wd_2_19 : (Cond.classLink RX4 18 RX1) ∈ wsL_law := inr_2 _ (List.mem_of_getElem? (i := 19) rfl)
theorem wd_2_20 : (Cond.instantiable RX1 4) ∈ wsL_law := inr_2 _ (List.mem_of_getElem? (i := 20) rfl)
theorem wd_2_21 : (Cond.initialized RX1) ∈ wsL_law := inr_2 _ (List.mem_of_getElem? (i := 21) rfl)
theorem wd_2_22 : (Cond.fieldLink RX4 21 "SmallRooms$Nursery" "hands" "LSmallRooms$Hands;") ∈ wsL_law := inr_2 _ (List.mem_of_getElem? (i := 22) rfl)
theorem wd_2_23 : (Cond.classLink RX4 25 RX0) ∈ wsL_law := inr_2 _ (List.mem_of_getElem? (i := 23) rfl)
theorem wd_3_0 : (Cond.instantiable RX0 12) ∈ wsL_law := inr_3 _ (List.mem_of_getElem? (i := 0) rfl)
theorem wd_3_1 : (Cond.initialized RX0) ∈ wsL_law := inr_3 _ (List.mem_of_getElem? (i := 1) rfl)
theorem wd_3_2 : (Cond.fieldLink RX4 28 "SmallRooms$Nursery" "children" "LSmallRooms$Children;") ∈ wsL_law := inr_3 _ (List.mem_of_getElem? (i := 2) rfl)
theorem wd_3_3 : (Cond.classLink RX4 32 RX3) ∈ wsL_law := inr_3 _ (List.mem_of_getElem? (i := 3) rfl)
theorem wd_3_4 : (Cond.instantiable RX3 4) ∈ wsL_law := inr_3 _ (List.mem_of_getElem? (i := 4) rfl)
theorem wd_3_5 : (Cond.initialized RX3) ∈ wsL_law := inr_3 _ (List.mem_of_getElem? (i := 5) rfl)
theorem wd_3_6 : (Cond.fieldLink RX4 35 "SmallRooms$Nursery" "roll" "LSmallRooms$Log;") ∈ wsL_law := inr_3 _ (List.mem_of_getElem? (i := 6) rfl)
theorem wd_3_7 : (Cond.fieldLink RX4 39 "SmallRooms$Nursery" "sleep" "LSmallRooms$Log;") ∈ wsL_law := inr_3 _ (List.mem_of_getElem? (i := 7) rfl)
theorem wd_3_8 : (Cond.classLink RX4 42 RX6) ∈ wsL_law := inr_3 _ (List.mem_of_getElem? (i := 8) rfl)
theorem wd_3_9 : (Cond.instantiable RX6 3) ∈ wsL_law := inr_3 _ (List.mem_of_getElem? (i := 9) rfl)
theorem wd_3_10 : (Cond.initialized RX6) ∈ wsL_law := inr_3 _ (List.mem_of_getElem? (i := 10) rfl)
theorem wd_3_11 : (Cond.fieldLink RX4 45 "SmallRooms$Nursery" "ratio" "LSmallRooms$Ratio;") ∈ wsL_law := inr_3 _ (List.mem_of_getElem? (i := 11) rfl)
theorem wd_3_12 : (Cond.arrayClass .int) ∈ wsL_law := inr_3 _ (List.mem_of_getElem? (i := 12) rfl)
theorem wd_3_13 : (Cond.fieldLink RX4 49 "SmallRooms$Nursery" "needed" "[I") ∈ wsL_law := inr_3 _ (List.mem_of_getElem? (i := 13) rfl)
theorem wd_3_14 : (Cond.fieldLink RX4 53 "SmallRooms$Nursery" "longSlots" "I") ∈ wsL_law := inr_3 _ (List.mem_of_getElem? (i := 14) rfl)
theorem wd_3_15 : (Cond.fieldLink RX4 57 "SmallRooms$Nursery" "rate" "I") ∈ wsL_law := inr_3 _ (List.mem_of_getElem? (i := 15) rfl)
theorem wd_3_16 : (Cond.instanceMethod yX8_init) ∈ wsL_law := inr_3 _ (List.mem_of_getElem? (i := 16) rfl)
theorem wd_3_17 : (Cond.code yX8_init cX8_init 1 none) ∈ wsL_law := inr_3 _ (List.mem_of_getElem? (i := 17) rfl)
theorem wd_3_18 : (Cond.methodLink RX8 3 objectInit) ∈ wsL_law := inr_3 _ (List.mem_of_getElem? (i := 18) rfl)
theorem wd_3_19 : (Cond.fieldLink RX8 9 "SmallRooms$Rooms" "from" "[I") ∈ wsL_law := inr_3 _ (List.mem_of_getElem? (i := 19) rfl)
theorem wd_3_20 : (Cond.fieldLink RX8 15 "SmallRooms$Rooms" "to" "[I") ∈ wsL_law := inr_3 _ (List.mem_of_getElem? (i := 20) rfl)
theorem wd_3_21 : (Cond.fieldLink RX8 18 "SmallRooms$Rooms" "most" "[I") ∈ wsL_law := inr_3 _ (List.mem_of_getElem? (i := 21) rfl)
theorem wd_3_22 : (Cond.instanceMethod yX1_init) ∈ wsL_law := inr_3 _ (List.mem_of_getElem? (i := 22) rfl)
theorem wd_3_23 : (Cond.code yX1_init cX1_init 1 none) ∈ wsL_law := inr_3 _ (List.mem_of_getElem? (i := 23) rfl)
theorem wd_4_0 : (Cond.methodLink RX1 3 objectInit) ∈ wsL_law := inr_4 _ (List.mem_of_getElem? (i := 0) rfl)
theorem wd_4_1 : (Cond.fieldLink RX1 9 "SmallRooms$Hands" "kind" "[I") ∈ wsL_law := inr_4 _ (List.mem_of_getElem? (i := 1) rfl)
theorem wd_4_2 : (Cond.fieldLink RX1 15 "SmallRooms$Hands" "room" "[I") ∈ wsL_law := inr_4 _ (List.mem_of_getElem? (i := 2) rfl)
theorem wd_4_3 : (Cond.instanceMethod yX0_init) ∈ wsL_law := inr_4 _ (List.mem_of_getElem? (i := 3) rfl)
theorem wd_4_4 : (Cond.code yX0_init cX0_init 1 none) ∈ wsL_law := inr_4 _ (List.mem_of_getElem? (i := 4) rfl)
theorem wd_4_5 : (Cond.methodLink RX0 3 objectInit) ∈ wsL_law := inr_4 _ (List.mem_of_getElem? (i := 5) rfl)
theorem wd_4_6 : (Cond.fieldLink RX0 9 "SmallRooms$Children" "birth" "[I") ∈ wsL_law := inr_4 _ (List.mem_of_getElem? (i := 6) rfl)
theorem wd_4_7 : (Cond.fieldLink RX0 15 "SmallRooms$Children" "sibling" "[I") ∈ wsL_law := inr_4 _ (List.mem_of_getElem? (i := 7) rfl)
theorem wd_4_8 : (Cond.fieldLink RX0 18 "SmallRooms$Children" "sessions" "[I") ∈ wsL_law := inr_4 _ (List.mem_of_getElem? (i := 8) rfl)
theorem wd_4_9 : (Cond.fieldLink RX0 21 "SmallRooms$Children" "first" "[I") ∈ wsL_law := inr_4 _ (List.mem_of_getElem? (i := 9) rfl)
theorem wd_4_10 : (Cond.fieldLink RX0 24 "SmallRooms$Children" "last" "[I") ∈ wsL_law := inr_4 _ (List.mem_of_getElem? (i := 10) rfl)
theorem wd_4_11 : (Cond.fieldLink RX0 27 "SmallRooms$Children" "room" "[I") ∈ wsL_law := inr_4 _ (List.mem_of_getElem? (i := 11) rfl)
theorem wd_4_12 : (Cond.fieldLink RX0 30 "SmallRooms$Children" "persons" "[I") ∈ wsL_law := inr_4 _ (List.mem_of_getElem? (i := 12) rfl)
theorem wd_4_13 : (Cond.fieldLink RX0 33 "SmallRooms$Children" "waiting" "[I") ∈ wsL_law := inr_4 _ (List.mem_of_getElem? (i := 13) rfl)
theorem wd_4_14 : (Cond.instanceMethod yX3_init) ∈ wsL_law := inr_4 _ (List.mem_of_getElem? (i := 14) rfl)
theorem wd_4_15 : (Cond.code yX3_init cX3_init 1 none) ∈ wsL_law := inr_4 _ (List.mem_of_getElem? (i := 15) rfl)
theorem wd_4_16 : (Cond.methodLink RX3 3 objectInit) ∈ wsL_law := inr_4 _ (List.mem_of_getElem? (i := 16) rfl)
theorem wd_4_17 : (Cond.fieldLink RX3 9 "SmallRooms$Log" "slots" "[I") ∈ wsL_law := inr_4 _ (List.mem_of_getElem? (i := 17) rfl)
theorem wd_4_18 : (Cond.fieldLink RX3 15 "SmallRooms$Log" "children" "[I") ∈ wsL_law := inr_4 _ (List.mem_of_getElem? (i := 18) rfl)
theorem wd_4_19 : (Cond.fieldLink RX3 18 "SmallRooms$Log" "acts" "[I") ∈ wsL_law := inr_4 _ (List.mem_of_getElem? (i := 19) rfl)
theorem wd_4_20 : (Cond.instanceMethod yX6_init) ∈ wsL_law := inr_4 _ (List.mem_of_getElem? (i := 20) rfl)
theorem wd_4_21 : (Cond.code yX6_init cX6_init 1 none) ∈ wsL_law := inr_4 _ (List.mem_of_getElem? (i := 21) rfl)
theorem wd_4_22 : (Cond.methodLink RX6 3 objectInit) ∈ wsL_law := inr_4 _ (List.mem_of_getElem? (i := 22) rfl)
theorem wd_4_23 : (Cond.fieldLink RX6 9 "SmallRooms$Ratio" "signs" "[I") ∈ wsL_law := inr_4 _ (List.mem_of_getElem? (i := 23) rfl)
theorem wd_5_0 : (Cond.instanceMethod yX2_init) ∈ wsL_law := inr_5 _ (List.mem_of_getElem? (i := 0) rfl)
theorem wd_5_1 : (Cond.code yX2_init cX2_init 1 none) ∈ wsL_law := inr_5 _ (List.mem_of_getElem? (i := 1) rfl)
theorem wd_5_2 : (Cond.methodLink RX2 3 objectInit) ∈ wsL_law := inr_5 _ (List.mem_of_getElem? (i := 2) rfl)
theorem wd_5_3 : (Cond.classLink RX2 9 RX4) ∈ wsL_law := inr_5 _ (List.mem_of_getElem? (i := 3) rfl)
theorem wd_5_4 : (Cond.fieldLink RX2 11 "SmallRooms$History" "kept" "[LSmallRooms$Nursery;") ∈ wsL_law := inr_5 _ (List.mem_of_getElem? (i := 4) rfl)
theorem wd_5_5 : (Cond.instanceMethod yX7_init) ∈ wsL_law := inr_5 _ (List.mem_of_getElem? (i := 5) rfl)
theorem wd_5_6 : (Cond.code yX7_init cX7_init 1 none) ∈ wsL_law := inr_5 _ (List.mem_of_getElem? (i := 6) rfl)
theorem wd_5_7 : (Cond.methodLink RX7 3 objectInit) ∈ wsL_law := inr_5 _ (List.mem_of_getElem? (i := 7) rfl)
theorem wd_5_8 : (Cond.fieldLink RX7 9 "SmallRooms$Reckoning" "counted" "[I") ∈ wsL_law := inr_5 _ (List.mem_of_getElem? (i := 8) rfl)
theorem wd_5_9 : (Cond.arrayClass .long) ∈ wsL_law := inr_5 _ (List.mem_of_getElem? (i := 9) rfl)
theorem wd_5_10 : (Cond.fieldLink RX7 15 "SmallRooms$Reckoning" "row" "[J") ∈ wsL_law := inr_5 _ (List.mem_of_getElem? (i := 10) rfl)
theorem wd_5_11 : (Cond.instanceMethod yX5_init) ∈ wsL_law := inr_5 _ (List.mem_of_getElem? (i := 11) rfl)
theorem wd_5_12 : (Cond.code yX5_init cX5_init 1 none) ∈ wsL_law := inr_5 _ (List.mem_of_getElem? (i := 12) rfl)
theorem wd_5_13 : (Cond.methodLink RX5 3 objectInit) ∈ wsL_law := inr_5 _ (List.mem_of_getElem? (i := 13) rfl)
theorem wd_5_14 : (Cond.fieldLink RX5 11 "SmallRooms$Planner" "least" "[I") ∈ wsL_law := inr_5 _ (List.mem_of_getElem? (i := 14) rfl)
theorem wd_5_15 : (Cond.fieldLink RX5 15 "SmallRooms$Planner" "cost" "[I") ∈ wsL_law := inr_5 _ (List.mem_of_getElem? (i := 15) rfl)
theorem wd_5_16 : (Cond.fieldLink RX5 18 "SmallRooms$Planner" "worth" "[I") ∈ wsL_law := inr_5 _ (List.mem_of_getElem? (i := 16) rfl)
theorem wd_5_17 : (Cond.instanceMethod yX10_init) ∈ wsL_law := inr_5 _ (List.mem_of_getElem? (i := 17) rfl)
theorem wd_5_18 : (Cond.code yX10_init cX10_init 1 none) ∈ wsL_law := inr_5 _ (List.mem_of_getElem? (i := 18) rfl)
theorem wd_5_19 : (Cond.methodLink RX10 3 objectInit) ∈ wsL_law := inr_5 _ (List.mem_of_getElem? (i := 19) rfl)
theorem wd_5_20 : (Cond.fieldLink RX10 9 "SmallRooms$ShiftPlan" "begins" "[I") ∈ wsL_law := inr_5 _ (List.mem_of_getElem? (i := 20) rfl)
theorem wd_5_21 : (Cond.instanceMethod yX9_init) ∈ wsL_law := inr_5 _ (List.mem_of_getElem? (i := 21) rfl)
theorem wd_5_22 : (Cond.code yX9_init cX9_init 1 none) ∈ wsL_law := inr_5 _ (List.mem_of_getElem? (i := 22) rfl)
theorem wd_5_23 : (Cond.methodLink RX9 3 objectInit) ∈ wsL_law := inr_5 _ (List.mem_of_getElem? (i := 23) rfl)
theorem wd_6_0 : (Cond.fieldLink RX9 9 "SmallRooms$Sheet" "numbers" "[I") ∈ wsL_law := inr_6 _ (List.mem_of_getElem? (i := 0) rfl)
theorem wd_6_1 : (Cond.methodLink RL 12 yX12_init) ∈ wsL_law := inr_6 _ (List.mem_of_getElem? (i := 1) rfl)
theorem wd_6_2 : (Cond.instanceMethod yX12_init) ∈ wsL_law := inr_6 _ (List.mem_of_getElem? (i := 2) rfl)
theorem wd_6_3 : (Cond.code yX12_init cX12_init 1 none) ∈ wsL_law := inr_6 _ (List.mem_of_getElem? (i := 3) rfl)
theorem wd_6_4 : (Cond.methodLink RX12 1 objectInit) ∈ wsL_law := inr_6 _ (List.mem_of_getElem? (i := 4) rfl)
theorem wd_6_5 : (Cond.fieldLink RX12 7 "SmallRoomsModel" "d" "[I") ∈ wsL_law := inr_6 _ (List.mem_of_getElem? (i := 5) rfl)
theorem wd_6_6 : (Cond.fieldLink RX12 13 "SmallRoomsModel" "was" "[I") ∈ wsL_law := inr_6 _ (List.mem_of_getElem? (i := 6) rfl)
theorem wd_6_7 : (Cond.fieldLink RX12 16 "SmallRoomsModel" "bits" "[I") ∈ wsL_law := inr_6 _ (List.mem_of_getElem? (i := 7) rfl)
theorem wd_6_8 : (Cond.fieldLink RX12 19 "SmallRoomsModel" "sizes" "[I") ∈ wsL_law := inr_6 _ (List.mem_of_getElem? (i := 8) rfl)
theorem wd_6_9 : (Cond.fieldLink RX12 22 "SmallRoomsModel" "numbers" "[I") ∈ wsL_law := inr_6 _ (List.mem_of_getElem? (i := 9) rfl)
theorem wd_6_10 : (Cond.fieldLink RX12 25 "SmallRoomsModel" "pile" "[I") ∈ wsL_law := inr_6 _ (List.mem_of_getElem? (i := 10) rfl)
theorem wd_6_11 : (Cond.fieldLink RX12 28 "SmallRoomsModel" "counts" "[I") ∈ wsL_law := inr_6 _ (List.mem_of_getElem? (i := 11) rfl)
theorem wd_6_12 : (Cond.fieldLink RX12 31 "SmallRoomsModel" "sets" "[I") ∈ wsL_law := inr_6 _ (List.mem_of_getElem? (i := 12) rfl)
theorem wd_6_13 : (Cond.fieldLink RX12 34 "SmallRoomsModel" "needs" "[I") ∈ wsL_law := inr_6 _ (List.mem_of_getElem? (i := 13) rfl)
theorem wd_6_14 : (Cond.arrayClass .boolean) ∈ wsL_law := inr_6 _ (List.mem_of_getElem? (i := 14) rfl)
theorem wd_6_15 : (Cond.fieldLink RX12 37 "SmallRoomsModel" "filled" "[Z") ∈ wsL_law := inr_6 _ (List.mem_of_getElem? (i := 15) rfl)
theorem wd_6_16 : (Cond.fieldLink RX12 41 "SmallRoomsModel" "tried" "[I") ∈ wsL_law := inr_6 _ (List.mem_of_getElem? (i := 16) rfl)
theorem wd_6_17 : (Cond.fieldLink RX12 44 "SmallRoomsModel" "best" "[I") ∈ wsL_law := inr_6 _ (List.mem_of_getElem? (i := 17) rfl)
theorem wd_6_18 : (Cond.fieldLink RX12 47 "SmallRoomsModel" "there" "[I") ∈ wsL_law := inr_6 _ (List.mem_of_getElem? (i := 18) rfl)
theorem wd_6_19 : (Cond.fieldLink RX12 50 "SmallRoomsModel" "begins" "[I") ∈ wsL_law := inr_6 _ (List.mem_of_getElem? (i := 19) rfl)
theorem wd_6_20 : (Cond.fieldLink RX12 53 "SmallRoomsModel" "carried" "[I") ∈ wsL_law := inr_6 _ (List.mem_of_getElem? (i := 20) rfl)
theorem wd_6_21 : (Cond.methodLink RL 13 yX11_room) ∈ wsL_law := inr_6 _ (List.mem_of_getElem? (i := 21) rfl)
theorem wd_6_22 : (Cond.instanceMethod yX11_room) ∈ wsL_law := inr_6 _ (List.mem_of_getElem? (i := 22) rfl)
theorem wd_6_23 : (Cond.selects RX11 yX11_room yX11_room) ∈ wsL_law := inr_6 _ (List.mem_of_getElem? (i := 23) rfl)
theorem wd_7_0 : (Cond.code yX11_room cX11_room 5 (some .int)) ∈ wsL_law := inr_7 _ (List.mem_of_getElem? (i := 0) rfl)
theorem wd_7_1 : (Cond.constant RX11 55 (-100001)) ∈ wsL_law := inr_7 _ (List.mem_of_getElem? (i := 1) rfl)
theorem wd_7_2 : (Cond.constant RX11 60 (-100003)) ∈ wsL_law := inr_7 _ (List.mem_of_getElem? (i := 2) rfl)
theorem wd_7_3 : (Cond.fieldLink RX11 61 "SmallRooms$Nursery" "rooms" "LSmallRooms$Rooms;") ∈ wsL_law := inr_7 _ (List.mem_of_getElem? (i := 3) rfl)
theorem wd_7_4 : (Cond.fieldLink RX11 65 "SmallRooms$Rooms" "count" "I") ∈ wsL_law := inr_7 _ (List.mem_of_getElem? (i := 4) rfl)
theorem wd_7_5 : (Cond.constant RX11 71 (-100005)) ∈ wsL_law := inr_7 _ (List.mem_of_getElem? (i := 5) rfl)
theorem wd_7_6 : (Cond.methodLink RX11 51 yX11_isWithin) ∈ wsL_law := inr_7 _ (List.mem_of_getElem? (i := 6) rfl)
theorem wd_7_7 : (Cond.static yX11_isWithin) ∈ wsL_law := inr_7 _ (List.mem_of_getElem? (i := 7) rfl)
theorem wd_7_8 : (Cond.code yX11_isWithin cX11_isWithin 3 (some .boolean)) ∈ wsL_law := inr_7 _ (List.mem_of_getElem? (i := 8) rfl)
theorem wd_7_9 : (Cond.methodLink RX11 56 yX11_finding) ∈ wsL_law := inr_7 _ (List.mem_of_getElem? (i := 9) rfl)
theorem wd_7_10 : (Cond.instanceMethod yX11_finding) ∈ wsL_law := inr_7 _ (List.mem_of_getElem? (i := 10) rfl)
theorem wd_7_11 : (Cond.selects RX11 yX11_finding yX11_finding) ∈ wsL_law := inr_7 _ (List.mem_of_getElem? (i := 11) rfl)
theorem wd_7_12 : (Cond.code yX11_finding cX11_finding 2 (some .int)) ∈ wsL_law := inr_7 _ (List.mem_of_getElem? (i := 12) rfl)
theorem wd_7_13 : (Cond.fieldLink RX11 364 "SmallRooms" "findings" "I") ∈ wsL_law := inr_7 _ (List.mem_of_getElem? (i := 13) rfl)
theorem wd_7_14 : (Cond.methodLink RX11 72 yX11_keep) ∈ wsL_law := inr_7 _ (List.mem_of_getElem? (i := 14) rfl)
theorem wd_7_15 : (Cond.instanceMethod yX11_keep) ∈ wsL_law := inr_7 _ (List.mem_of_getElem? (i := 15) rfl)
theorem wd_7_16 : (Cond.selects RX11 yX11_keep yX11_keep) ∈ wsL_law := inr_7 _ (List.mem_of_getElem? (i := 16) rfl)
theorem wd_7_17 : (Cond.code yX11_keep cX11_keep 1 none) ∈ wsL_law := inr_7 _ (List.mem_of_getElem? (i := 17) rfl)
theorem wd_7_18 : (Cond.methodLink RX11 367 yX2_add) ∈ wsL_law := inr_7 _ (List.mem_of_getElem? (i := 18) rfl)
theorem wd_7_19 : (Cond.instanceMethod yX2_add) ∈ wsL_law := inr_7 _ (List.mem_of_getElem? (i := 19) rfl)
theorem wd_7_20 : (Cond.selects RX2 yX2_add yX2_add) ∈ wsL_law := inr_7 _ (List.mem_of_getElem? (i := 20) rfl)
theorem wd_7_21 : (Cond.code yX2_add cX2_add 2 none) ∈ wsL_law := inr_7 _ (List.mem_of_getElem? (i := 21) rfl)
theorem wd_7_22 : (Cond.fieldLink RX2 17 "SmallRooms$History" "next" "I") ∈ wsL_law := inr_7 _ (List.mem_of_getElem? (i := 22) rfl)
theorem wd_7_23 : (Cond.fieldLink RX2 26 "SmallRooms$History" "count" "I") ∈ wsL_law := inr_7 _ (List.mem_of_getElem? (i := 23) rfl)
theorem wd_8_0 : (Cond.methodLink RX2 29 Lib.Math.min.name) ∈ wsL_law := inr_8 _ (List.mem_of_getElem? (i := 0) rfl)
theorem wd_8_1 : (Cond.static Lib.Math.min.name) ∈ wsL_law := inr_8 _ (List.mem_of_getElem? (i := 1) rfl)
theorem wd_8_2 : (Cond.initialized "java/lang/Math") ∈ wsL_law := inr_8 _ (List.mem_of_getElem? (i := 2) rfl)
theorem wd_8_3 : (Cond.code Lib.Math.min.name Lib.Math.min.code 2 (some .int)) ∈ wsL_law := inr_8 _ (List.mem_of_getElem? (i := 3) rfl)
theorem wd_8_4 : (Cond.methodLink RX2 22 yX4_become) ∈ wsL_law := inr_8 _ (List.mem_of_getElem? (i := 4) rfl)
theorem wd_8_5 : (Cond.instanceMethod yX4_become) ∈ wsL_law := inr_8 _ (List.mem_of_getElem? (i := 5) rfl)
theorem wd_8_6 : (Cond.selects RX4 yX4_become yX4_become) ∈ wsL_law := inr_8 _ (List.mem_of_getElem? (i := 6) rfl)
theorem wd_8_7 : (Cond.code yX4_become cX4_become 2 none) ∈ wsL_law := inr_8 _ (List.mem_of_getElem? (i := 7) rfl)
theorem wd_8_8 : (Cond.methodLink RX4 159 arraycopyName) ∈ wsL_law := inr_8 _ (List.mem_of_getElem? (i := 8) rfl)
theorem wd_8_9 : (Cond.native arraycopyName) ∈ wsL_law := inr_8 _ (List.mem_of_getElem? (i := 9) rfl)
theorem wd_8_10 : (Cond.static arraycopyName) ∈ wsL_law := inr_8 _ (List.mem_of_getElem? (i := 10) rfl)
theorem wd_8_11 : (Cond.initialized "java/lang/System") ∈ wsL_law := inr_8 _ (List.mem_of_getElem? (i := 11) rfl)
theorem wd_8_12 : (Cond.fieldLink RX4 60 "SmallRooms$Nursery" "month" "I") ∈ wsL_law := inr_8 _ (List.mem_of_getElem? (i := 12) rfl)
theorem wd_8_13 : (Cond.fieldLink RX4 93 "SmallRooms$Nursery" "slot" "I") ∈ wsL_law := inr_8 _ (List.mem_of_getElem? (i := 13) rfl)
theorem wd_8_14 : (Cond.methodLink RX4 143 yX8_become) ∈ wsL_law := inr_8 _ (List.mem_of_getElem? (i := 14) rfl)
theorem wd_8_15 : (Cond.instanceMethod yX8_become) ∈ wsL_law := inr_8 _ (List.mem_of_getElem? (i := 15) rfl)
theorem wd_8_16 : (Cond.selects RX8 yX8_become yX8_become) ∈ wsL_law := inr_8 _ (List.mem_of_getElem? (i := 16) rfl)
theorem wd_8_17 : (Cond.code yX8_become cX8_become 2 none) ∈ wsL_law := inr_8 _ (List.mem_of_getElem? (i := 17) rfl)
theorem wd_8_18 : (Cond.fieldLink RX8 21 "SmallRooms$Rooms" "count" "I") ∈ wsL_law := inr_8 _ (List.mem_of_getElem? (i := 18) rfl)
theorem wd_8_19 : (Cond.methodLink RX8 25 arraycopyName) ∈ wsL_law := inr_8 _ (List.mem_of_getElem? (i := 19) rfl)
theorem wd_8_20 : (Cond.methodLink RX4 147 yX1_become) ∈ wsL_law := inr_8 _ (List.mem_of_getElem? (i := 20) rfl)
theorem wd_8_21 : (Cond.instanceMethod yX1_become) ∈ wsL_law := inr_8 _ (List.mem_of_getElem? (i := 21) rfl)
theorem wd_8_22 : (Cond.selects RX1 yX1_become yX1_become) ∈ wsL_law := inr_8 _ (List.mem_of_getElem? (i := 22) rfl)
theorem wd_8_23 : (Cond.code yX1_become cX1_become 2 none) ∈ wsL_law := inr_8 _ (List.mem_of_getElem? (i := 23) rfl)
theorem wd_9_0 : (Cond.fieldLink RX1 18 "SmallRooms$Hands" "count" "I") ∈ wsL_law := inr_9 _ (List.mem_of_getElem? (i := 0) rfl)
theorem wd_9_1 : (Cond.methodLink RX1 43 arraycopyName) ∈ wsL_law := inr_9 _ (List.mem_of_getElem? (i := 1) rfl)
theorem wd_9_2 : (Cond.fieldLink RX1 22 "SmallRooms$Hands" "ill" "I") ∈ wsL_law := inr_9 _ (List.mem_of_getElem? (i := 2) rfl)
theorem wd_9_3 : (Cond.methodLink RX4 150 yX0_become) ∈ wsL_law := inr_9 _ (List.mem_of_getElem? (i := 3) rfl)
theorem wd_9_4 : (Cond.instanceMethod yX0_become) ∈ wsL_law := inr_9 _ (List.mem_of_getElem? (i := 4) rfl)
theorem wd_9_5 : (Cond.selects RX0 yX0_become yX0_become) ∈ wsL_law := inr_9 _ (List.mem_of_getElem? (i := 5) rfl)
theorem wd_9_6 : (Cond.code yX0_become cX0_become 2 none) ∈ wsL_law := inr_9 _ (List.mem_of_getElem? (i := 6) rfl)
theorem wd_9_7 : (Cond.fieldLink RX0 36 "SmallRooms$Children" "count" "I") ∈ wsL_law := inr_9 _ (List.mem_of_getElem? (i := 7) rfl)
theorem wd_9_8 : (Cond.fieldLink RX0 69 "SmallRooms$Children" "waiters" "I") ∈ wsL_law := inr_9 _ (List.mem_of_getElem? (i := 8) rfl)
theorem wd_9_9 : (Cond.methodLink RX0 84 arraycopyName) ∈ wsL_law := inr_9 _ (List.mem_of_getElem? (i := 9) rfl)
theorem wd_9_10 : (Cond.fieldLink RX0 40 "SmallRooms$Children" "asleep" "I") ∈ wsL_law := inr_9 _ (List.mem_of_getElem? (i := 10) rfl)
theorem wd_9_11 : (Cond.fieldLink RX0 47 "SmallRooms$Children" "admitted" "I") ∈ wsL_law := inr_9 _ (List.mem_of_getElem? (i := 11) rfl)
theorem wd_9_12 : (Cond.methodLink RX4 153 yX3_become) ∈ wsL_law := inr_9 _ (List.mem_of_getElem? (i := 12) rfl)
theorem wd_9_13 : (Cond.instanceMethod yX3_become) ∈ wsL_law := inr_9 _ (List.mem_of_getElem? (i := 13) rfl)
theorem wd_9_14 : (Cond.selects RX3 yX3_become yX3_become) ∈ wsL_law := inr_9 _ (List.mem_of_getElem? (i := 14) rfl)
theorem wd_9_15 : (Cond.code yX3_become cX3_become 2 none) ∈ wsL_law := inr_9 _ (List.mem_of_getElem? (i := 15) rfl)
theorem wd_9_16 : (Cond.fieldLink RX3 21 "SmallRooms$Log" "count" "I") ∈ wsL_law := inr_9 _ (List.mem_of_getElem? (i := 16) rfl)
theorem wd_9_17 : (Cond.methodLink RX3 28 arraycopyName) ∈ wsL_law := inr_9 _ (List.mem_of_getElem? (i := 17) rfl)
theorem wd_9_18 : (Cond.methodLink RX4 156 yX6_become) ∈ wsL_law := inr_9 _ (List.mem_of_getElem? (i := 18) rfl)
theorem wd_9_19 : (Cond.instanceMethod yX6_become) ∈ wsL_law := inr_9 _ (List.mem_of_getElem? (i := 19) rfl)
theorem wd_9_20 : (Cond.selects RX6 yX6_become yX6_become) ∈ wsL_law := inr_9 _ (List.mem_of_getElem? (i := 20) rfl)
theorem wd_9_21 : (Cond.code yX6_become cX6_become 2 none) ∈ wsL_law := inr_9 _ (List.mem_of_getElem? (i := 21) rfl)
theorem wd_9_22 : (Cond.fieldLink RX6 27 "SmallRooms$Ratio" "count" "I") ∈ wsL_law := inr_9 _ (List.mem_of_getElem? (i := 22) rfl)
theorem wd_9_23 : (Cond.fieldLink RX6 43 "SmallRooms$Ratio" "wrongAt" "I") ∈ wsL_law := inr_9 _ (List.mem_of_getElem? (i := 23) rfl)
theorem wd_10_0 : (Cond.methodLink RX6 33 arraycopyName) ∈ wsL_law := inr_10 _ (List.mem_of_getElem? (i := 0) rfl)
theorem wd_10_1 : (Cond.methodLink RX11 75 yX8_add) ∈ wsL_law := inr_10 _ (List.mem_of_getElem? (i := 1) rfl)
theorem wd_10_2 : (Cond.instanceMethod yX8_add) ∈ wsL_law := inr_10 _ (List.mem_of_getElem? (i := 2) rfl)
theorem wd_10_3 : (Cond.selects RX8 yX8_add yX8_add) ∈ wsL_law := inr_10 _ (List.mem_of_getElem? (i := 3) rfl)
theorem wd_10_4 : (Cond.code yX8_add cX8_add 4 (some .int)) ∈ wsL_law := inr_10 _ (List.mem_of_getElem? (i := 4) rfl)
theorem wd_10_5 : (Cond.methodLink RL 17 yX12_room) ∈ wsL_law := inr_10 _ (List.mem_of_getElem? (i := 5) rfl)
theorem wd_10_6 : (Cond.instanceMethod yX12_room) ∈ wsL_law := inr_10 _ (List.mem_of_getElem? (i := 6) rfl)
theorem wd_10_7 : (Cond.selects RX12 yX12_room yX12_room) ∈ wsL_law := inr_10 _ (List.mem_of_getElem? (i := 7) rfl)
theorem wd_10_8 : (Cond.code yX12_room cX12_room 4 (some .int)) ∈ wsL_law := inr_10 _ (List.mem_of_getElem? (i := 8) rfl)
theorem wd_10_9 : (Cond.methodLink RX12 64 yX12_isIn) ∈ wsL_law := inr_10 _ (List.mem_of_getElem? (i := 9) rfl)
theorem wd_10_10 : (Cond.static yX12_isIn) ∈ wsL_law := inr_10 _ (List.mem_of_getElem? (i := 10) rfl)
theorem wd_10_11 : (Cond.code yX12_isIn cX12_isIn 3 (some .boolean)) ∈ wsL_law := inr_10 _ (List.mem_of_getElem? (i := 11) rfl)
theorem wd_10_12 : (Cond.methodLink RX12 68 yX12_finding) ∈ wsL_law := inr_10 _ (List.mem_of_getElem? (i := 12) rfl)
theorem wd_10_13 : (Cond.instanceMethod yX12_finding) ∈ wsL_law := inr_10 _ (List.mem_of_getElem? (i := 13) rfl)
theorem wd_10_14 : (Cond.selects RX12 yX12_finding yX12_finding) ∈ wsL_law := inr_10 _ (List.mem_of_getElem? (i := 14) rfl)
theorem wd_10_15 : (Cond.code yX12_finding cX12_finding 2 (some .int)) ∈ wsL_law := inr_10 _ (List.mem_of_getElem? (i := 15) rfl)
theorem wd_10_16 : (Cond.fieldLink RX12 56 "SmallRoomsModel" "findings" "I") ∈ wsL_law := inr_10 _ (List.mem_of_getElem? (i := 16) rfl)
theorem wd_10_17 : (Cond.constant RX12 60 (-100000)) ∈ wsL_law := inr_10 _ (List.mem_of_getElem? (i := 17) rfl)
theorem wd_10_18 : (Cond.methodLink RX12 72 yX12_keep) ∈ wsL_law := inr_10 _ (List.mem_of_getElem? (i := 18) rfl)
theorem wd_10_19 : (Cond.instanceMethod yX12_keep) ∈ wsL_law := inr_10 _ (List.mem_of_getElem? (i := 19) rfl)
theorem wd_10_20 : (Cond.selects RX12 yX12_keep yX12_keep) ∈ wsL_law := inr_10 _ (List.mem_of_getElem? (i := 20) rfl)
theorem wd_10_21 : (Cond.code yX12_keep cX12_keep 2 none) ∈ wsL_law := inr_10 _ (List.mem_of_getElem? (i := 21) rfl)
theorem wd_10_22 : (Cond.fieldLink RX12 61 "SmallRoomsModel" "kept" "I") ∈ wsL_law := inr_10 _ (List.mem_of_getElem? (i := 22) rfl)
theorem wd_10_23 : (Cond.methodLink RL 18 yX11_hand) ∈ wsL_law := inr_10 _ (List.mem_of_getElem? (i := 23) rfl)
theorem wd_11_0 : (Cond.instanceMethod yX11_hand) ∈ wsL_law := inr_11 _ (List.mem_of_getElem? (i := 0) rfl)
theorem wd_11_1 : (Cond.selects RX11 yX11_hand yX11_hand) ∈ wsL_law := inr_11 _ (List.mem_of_getElem? (i := 1) rfl)
theorem wd_11_2 : (Cond.code yX11_hand cX11_hand 2 (some .int)) ∈ wsL_law := inr_11 _ (List.mem_of_getElem? (i := 2) rfl)
theorem wd_11_3 : (Cond.fieldLink RX11 83 "SmallRooms$Nursery" "hands" "LSmallRooms$Hands;") ∈ wsL_law := inr_11 _ (List.mem_of_getElem? (i := 3) rfl)
theorem wd_11_4 : (Cond.fieldLink RX11 87 "SmallRooms$Hands" "count" "I") ∈ wsL_law := inr_11 _ (List.mem_of_getElem? (i := 4) rfl)
theorem wd_11_5 : (Cond.methodLink RX11 79 yX11_isKind) ∈ wsL_law := inr_11 _ (List.mem_of_getElem? (i := 5) rfl)
theorem wd_11_6 : (Cond.static yX11_isKind) ∈ wsL_law := inr_11 _ (List.mem_of_getElem? (i := 6) rfl)
theorem wd_11_7 : (Cond.code yX11_isKind cX11_isKind 1 (some .boolean)) ∈ wsL_law := inr_11 _ (List.mem_of_getElem? (i := 7) rfl)
theorem wd_11_8 : (Cond.methodLink RX11 90 yX1_add) ∈ wsL_law := inr_11 _ (List.mem_of_getElem? (i := 8) rfl)
theorem wd_11_9 : (Cond.instanceMethod yX1_add) ∈ wsL_law := inr_11 _ (List.mem_of_getElem? (i := 9) rfl)
theorem wd_11_10 : (Cond.selects RX1 yX1_add yX1_add) ∈ wsL_law := inr_11 _ (List.mem_of_getElem? (i := 10) rfl)
theorem wd_11_11 : (Cond.code yX1_add cX1_add 2 (some .int)) ∈ wsL_law := inr_11 _ (List.mem_of_getElem? (i := 11) rfl)
theorem wd_11_12 : (Cond.static yX11_without) ∈ wsL_law := inr_11 _ (List.mem_of_getElem? (i := 12) rfl)
theorem wd_11_13 : (Cond.code yX11_without cX11_without 2 (some .int)) ∈ wsL_law := inr_11 _ (List.mem_of_getElem? (i := 13) rfl)
theorem wd_11_14 : (Cond.methodLink RL 22 yX12_hand) ∈ wsL_law := inr_11 _ (List.mem_of_getElem? (i := 14) rfl)
theorem wd_11_15 : (Cond.instanceMethod yX12_hand) ∈ wsL_law := inr_11 _ (List.mem_of_getElem? (i := 15) rfl)
theorem wd_11_16 : (Cond.selects RX12 yX12_hand yX12_hand) ∈ wsL_law := inr_11 _ (List.mem_of_getElem? (i := 16) rfl)
theorem wd_11_17 : (Cond.code yX12_hand cX12_hand 3 (some .int)) ∈ wsL_law := inr_11 _ (List.mem_of_getElem? (i := 17) rfl)
theorem wd_11_18 : (Cond.methodLink RL 23 yX11_as) ∈ wsL_law := inr_11 _ (List.mem_of_getElem? (i := 18) rfl)
theorem wd_11_19 : (Cond.instanceMethod yX11_as) ∈ wsL_law := inr_11 _ (List.mem_of_getElem? (i := 19) rfl)
theorem wd_11_20 : (Cond.selects RX11 yX11_as yX11_as) ∈ wsL_law := inr_11 _ (List.mem_of_getElem? (i := 20) rfl)
theorem wd_11_21 : (Cond.code yX11_as cX11_as 3 (some .int)) ∈ wsL_law := inr_11 _ (List.mem_of_getElem? (i := 21) rfl)
theorem wd_11_22 : (Cond.fieldLink RX11 95 "SmallRooms$Hands" "kind" "[I") ∈ wsL_law := inr_11 _ (List.mem_of_getElem? (i := 22) rfl)
theorem wd_11_23 : (Cond.constant RX11 103 (-100004)) ∈ wsL_law := inr_11 _ (List.mem_of_getElem? (i := 23) rfl)
theorem wd_12_0 : (Cond.methodLink RX11 92 yX1_has) ∈ wsL_law := inr_12 _ (List.mem_of_getElem? (i := 0) rfl)
theorem wd_12_1 : (Cond.instanceMethod yX1_has) ∈ wsL_law := inr_12 _ (List.mem_of_getElem? (i := 1) rfl)
theorem wd_12_2 : (Cond.selects RX1 yX1_has yX1_has) ∈ wsL_law := inr_12 _ (List.mem_of_getElem? (i := 2) rfl)
theorem wd_12_3 : (Cond.code yX1_has cX1_has 2 (some .boolean)) ∈ wsL_law := inr_12 _ (List.mem_of_getElem? (i := 3) rfl)
theorem wd_12_4 : (Cond.methodLink RX11 99 yX11_isUnder) ∈ wsL_law := inr_12 _ (List.mem_of_getElem? (i := 4) rfl)
theorem wd_12_5 : (Cond.static yX11_isUnder) ∈ wsL_law := inr_12 _ (List.mem_of_getElem? (i := 5) rfl)
theorem wd_12_6 : (Cond.code yX11_isUnder cX11_isUnder 2 (some .boolean)) ∈ wsL_law := inr_12 _ (List.mem_of_getElem? (i := 6) rfl)
theorem wd_12_7 : (Cond.methodLink RL 26 yX12_as) ∈ wsL_law := inr_12 _ (List.mem_of_getElem? (i := 7) rfl)
theorem wd_12_8 : (Cond.instanceMethod yX12_as) ∈ wsL_law := inr_12 _ (List.mem_of_getElem? (i := 8) rfl)
theorem wd_12_9 : (Cond.selects RX12 yX12_as yX12_as) ∈ wsL_law := inr_12 _ (List.mem_of_getElem? (i := 9) rfl)
theorem wd_12_10 : (Cond.code yX12_as cX12_as 3 (some .int)) ∈ wsL_law := inr_12 _ (List.mem_of_getElem? (i := 10) rfl)
theorem wd_12_11 : (Cond.methodLink RX12 75 yX12_isHand) ∈ wsL_law := inr_12 _ (List.mem_of_getElem? (i := 11) rfl)
theorem wd_12_12 : (Cond.instanceMethod yX12_isHand) ∈ wsL_law := inr_12 _ (List.mem_of_getElem? (i := 12) rfl)
theorem wd_12_13 : (Cond.selects RX12 yX12_isHand yX12_isHand) ∈ wsL_law := inr_12 _ (List.mem_of_getElem? (i := 13) rfl)
theorem wd_12_14 : (Cond.code yX12_isHand cX12_isHand 2 (some .boolean)) ∈ wsL_law := inr_12 _ (List.mem_of_getElem? (i := 14) rfl)
theorem wd_12_15 : (Cond.methodLink RX12 79 yX12_isTrained) ∈ wsL_law := inr_12 _ (List.mem_of_getElem? (i := 15) rfl)
theorem wd_12_16 : (Cond.instanceMethod yX12_isTrained) ∈ wsL_law := inr_12 _ (List.mem_of_getElem? (i := 16) rfl)
theorem wd_12_17 : (Cond.selects RX12 yX12_isTrained yX12_isTrained) ∈ wsL_law := inr_12 _ (List.mem_of_getElem? (i := 17) rfl)
theorem wd_12_18 : (Cond.code yX12_isTrained cX12_isTrained 2 (some .boolean)) ∈ wsL_law := inr_12 _ (List.mem_of_getElem? (i := 18) rfl)
theorem wd_12_19 : (Cond.methodLink RL 27 yX11_child) ∈ wsL_law := inr_12 _ (List.mem_of_getElem? (i := 19) rfl)
theorem wd_12_20 : (Cond.instanceMethod yX11_child) ∈ wsL_law := inr_12 _ (List.mem_of_getElem? (i := 20) rfl)
theorem wd_12_21 : (Cond.selects RX11 yX11_child yX11_child) ∈ wsL_law := inr_12 _ (List.mem_of_getElem? (i := 21) rfl)
theorem wd_12_22 : (Cond.code yX11_child cX11_child 8 (some .int)) ∈ wsL_law := inr_12 _ (List.mem_of_getElem? (i := 22) rfl)
theorem wd_12_23 : (Cond.fieldLink RX11 104 "SmallRooms$Nursery" "children" "LSmallRooms$Children;") ∈ wsL_law := inr_12 _ (List.mem_of_getElem? (i := 23) rfl)
theorem wd_13_0 : (Cond.fieldLink RX11 114 "SmallRooms$Children" "count" "I") ∈ wsL_law := inr_13 _ (List.mem_of_getElem? (i := 0) rfl)
theorem wd_13_1 : (Cond.methodLink RX11 108 yX0_has) ∈ wsL_law := inr_13 _ (List.mem_of_getElem? (i := 1) rfl)
theorem wd_13_2 : (Cond.instanceMethod yX0_has) ∈ wsL_law := inr_13 _ (List.mem_of_getElem? (i := 2) rfl)
theorem wd_13_3 : (Cond.selects RX0 yX0_has yX0_has) ∈ wsL_law := inr_13 _ (List.mem_of_getElem? (i := 3) rfl)
theorem wd_13_4 : (Cond.code yX0_has cX0_has 2 (some .boolean)) ∈ wsL_law := inr_13 _ (List.mem_of_getElem? (i := 4) rfl)
theorem wd_13_5 : (Cond.methodLink RX11 111 yX11_isMonth) ∈ wsL_law := inr_13 _ (List.mem_of_getElem? (i := 5) rfl)
theorem wd_13_6 : (Cond.static yX11_isMonth) ∈ wsL_law := inr_13 _ (List.mem_of_getElem? (i := 6) rfl)
theorem wd_13_7 : (Cond.code yX11_isMonth cX11_isMonth 1 (some .boolean)) ∈ wsL_law := inr_13 _ (List.mem_of_getElem? (i := 7) rfl)
theorem wd_13_8 : (Cond.methodLink RX11 115 yX0_add) ∈ wsL_law := inr_13 _ (List.mem_of_getElem? (i := 8) rfl)
theorem wd_13_9 : (Cond.instanceMethod yX0_add) ∈ wsL_law := inr_13 _ (List.mem_of_getElem? (i := 9) rfl)
theorem wd_13_10 : (Cond.selects RX0 yX0_add yX0_add) ∈ wsL_law := inr_13 _ (List.mem_of_getElem? (i := 10) rfl)
theorem wd_13_11 : (Cond.code yX0_add cX0_add 6 (some .int)) ∈ wsL_law := inr_13 _ (List.mem_of_getElem? (i := 11) rfl)
theorem wd_13_12 : (Cond.methodLink RL 31 yX12_child) ∈ wsL_law := inr_13 _ (List.mem_of_getElem? (i := 12) rfl)
theorem wd_13_13 : (Cond.instanceMethod yX12_child) ∈ wsL_law := inr_13 _ (List.mem_of_getElem? (i := 13) rfl)
theorem wd_13_14 : (Cond.selects RX12 yX12_child yX12_child) ∈ wsL_law := inr_13 _ (List.mem_of_getElem? (i := 14) rfl)
theorem wd_13_15 : (Cond.code yX12_child cX12_child 6 (some .int)) ∈ wsL_law := inr_13 _ (List.mem_of_getElem? (i := 15) rfl)
theorem wd_13_16 : (Cond.methodLink RX12 82 yX12_isChild) ∈ wsL_law := inr_13 _ (List.mem_of_getElem? (i := 16) rfl)
theorem wd_13_17 : (Cond.instanceMethod yX12_isChild) ∈ wsL_law := inr_13 _ (List.mem_of_getElem? (i := 17) rfl)
theorem wd_13_18 : (Cond.selects RX12 yX12_isChild yX12_isChild) ∈ wsL_law := inr_13 _ (List.mem_of_getElem? (i := 18) rfl)
theorem wd_13_19 : (Cond.code yX12_isChild cX12_isChild 2 (some .boolean)) ∈ wsL_law := inr_13 _ (List.mem_of_getElem? (i := 19) rfl)
theorem wd_13_20 : (Cond.methodLink RL 32 yX11_childIs) ∈ wsL_law := inr_13 _ (List.mem_of_getElem? (i := 20) rfl)
theorem wd_13_21 : (Cond.instanceMethod yX11_childIs) ∈ wsL_law := inr_13 _ (List.mem_of_getElem? (i := 21) rfl)
theorem wd_13_22 : (Cond.selects RX11 yX11_childIs yX11_childIs) ∈ wsL_law := inr_13 _ (List.mem_of_getElem? (i := 22) rfl)
theorem wd_13_23 : (Cond.code yX11_childIs cX11_childIs 4 (some .int)) ∈ wsL_law := inr_13 _ (List.mem_of_getElem? (i := 23) rfl)
theorem wd_14_0 : (Cond.fieldLink RX11 118 "SmallRooms$Children" "birth" "[I") ∈ wsL_law := inr_14 _ (List.mem_of_getElem? (i := 0) rfl)
theorem wd_14_1 : (Cond.fieldLink RX11 121 "SmallRooms$Children" "sibling" "[I") ∈ wsL_law := inr_14 _ (List.mem_of_getElem? (i := 1) rfl)
theorem wd_14_2 : (Cond.fieldLink RX11 124 "SmallRooms$Children" "sessions" "[I") ∈ wsL_law := inr_14 _ (List.mem_of_getElem? (i := 2) rfl)
theorem wd_14_3 : (Cond.fieldLink RX11 127 "SmallRooms$Children" "first" "[I") ∈ wsL_law := inr_14 _ (List.mem_of_getElem? (i := 3) rfl)
theorem wd_14_4 : (Cond.fieldLink RX11 130 "SmallRooms$Children" "last" "[I") ∈ wsL_law := inr_14 _ (List.mem_of_getElem? (i := 4) rfl)
theorem wd_14_5 : (Cond.fieldLink RX11 133 "SmallRooms$Children" "room" "[I") ∈ wsL_law := inr_14 _ (List.mem_of_getElem? (i := 5) rfl)
theorem wd_14_6 : (Cond.fieldLink RX11 136 "SmallRooms$Children" "asleep" "I") ∈ wsL_law := inr_14 _ (List.mem_of_getElem? (i := 6) rfl)
theorem wd_14_7 : (Cond.fieldLink RX11 146 "SmallRooms$Children" "admitted" "I") ∈ wsL_law := inr_14 _ (List.mem_of_getElem? (i := 7) rfl)
theorem wd_14_8 : (Cond.fieldLink RX11 149 "SmallRooms$Children" "persons" "[I") ∈ wsL_law := inr_14 _ (List.mem_of_getElem? (i := 8) rfl)
theorem wd_14_9 : (Cond.methodLink RX11 139 yX11_hasBit) ∈ wsL_law := inr_14 _ (List.mem_of_getElem? (i := 9) rfl)
theorem wd_14_10 : (Cond.static yX11_hasBit) ∈ wsL_law := inr_14 _ (List.mem_of_getElem? (i := 10) rfl)
theorem wd_14_11 : (Cond.code yX11_hasBit cX11_hasBit 2 (some .boolean)) ∈ wsL_law := inr_14 _ (List.mem_of_getElem? (i := 11) rfl)
theorem wd_14_12 : (Cond.methodLink RX11 142 yX11_oneIf) ∈ wsL_law := inr_14 _ (List.mem_of_getElem? (i := 12) rfl)
theorem wd_14_13 : (Cond.static yX11_oneIf) ∈ wsL_law := inr_14 _ (List.mem_of_getElem? (i := 13) rfl)
theorem wd_14_14 : (Cond.code yX11_oneIf cX11_oneIf 1 (some .int)) ∈ wsL_law := inr_14 _ (List.mem_of_getElem? (i := 14) rfl)
theorem wd_14_15 : (Cond.methodLink RL 35 yX12_childIs) ∈ wsL_law := inr_14 _ (List.mem_of_getElem? (i := 15) rfl)
theorem wd_14_16 : (Cond.instanceMethod yX12_childIs) ∈ wsL_law := inr_14 _ (List.mem_of_getElem? (i := 16) rfl)
theorem wd_14_17 : (Cond.selects RX12 yX12_childIs yX12_childIs) ∈ wsL_law := inr_14 _ (List.mem_of_getElem? (i := 17) rfl)
theorem wd_14_18 : (Cond.code yX12_childIs cX12_childIs 3 (some .int)) ∈ wsL_law := inr_14 _ (List.mem_of_getElem? (i := 18) rfl)
theorem wd_14_19 : (Cond.methodLink RL 36 yX11_roomOf) ∈ wsL_law := inr_14 _ (List.mem_of_getElem? (i := 19) rfl)
theorem wd_14_20 : (Cond.instanceMethod yX11_roomOf) ∈ wsL_law := inr_14 _ (List.mem_of_getElem? (i := 20) rfl)
theorem wd_14_21 : (Cond.selects RX11 yX11_roomOf yX11_roomOf) ∈ wsL_law := inr_14 _ (List.mem_of_getElem? (i := 21) rfl)
theorem wd_14_22 : (Cond.code yX11_roomOf cX11_roomOf 4 (some .int)) ∈ wsL_law := inr_14 _ (List.mem_of_getElem? (i := 22) rfl)
theorem wd_14_23 : (Cond.constant RX11 156 (-100006)) ∈ wsL_law := inr_14 _ (List.mem_of_getElem? (i := 23) rfl)
theorem wd_15_0 : (Cond.methodLink RX11 152 yX4_roomInMonth) ∈ wsL_law := inr_15 _ (List.mem_of_getElem? (i := 0) rfl)
theorem wd_15_1 : (Cond.instanceMethod yX4_roomInMonth) ∈ wsL_law := inr_15 _ (List.mem_of_getElem? (i := 1) rfl)
theorem wd_15_2 : (Cond.selects RX4 yX4_roomInMonth yX4_roomInMonth) ∈ wsL_law := inr_15 _ (List.mem_of_getElem? (i := 2) rfl)
theorem wd_15_3 : (Cond.code yX4_roomInMonth cX4_roomInMonth 3 (some .int)) ∈ wsL_law := inr_15 _ (List.mem_of_getElem? (i := 3) rfl)
theorem wd_15_4 : (Cond.fieldLink RX4 63 "SmallRooms$Children" "birth" "[I") ∈ wsL_law := inr_15 _ (List.mem_of_getElem? (i := 4) rfl)
theorem wd_15_5 : (Cond.methodLink RX4 66 yX8_forAge) ∈ wsL_law := inr_15 _ (List.mem_of_getElem? (i := 5) rfl)
theorem wd_15_6 : (Cond.instanceMethod yX8_forAge) ∈ wsL_law := inr_15 _ (List.mem_of_getElem? (i := 6) rfl)
theorem wd_15_7 : (Cond.selects RX8 yX8_forAge yX8_forAge) ∈ wsL_law := inr_15 _ (List.mem_of_getElem? (i := 7) rfl)
theorem wd_15_8 : (Cond.code yX8_forAge cX8_forAge 3 (some .int)) ∈ wsL_law := inr_15 _ (List.mem_of_getElem? (i := 8) rfl)
theorem wd_15_9 : (Cond.methodLink RL 39 yX12_roomOf) ∈ wsL_law := inr_15 _ (List.mem_of_getElem? (i := 9) rfl)
theorem wd_15_10 : (Cond.instanceMethod yX12_roomOf) ∈ wsL_law := inr_15 _ (List.mem_of_getElem? (i := 10) rfl)
theorem wd_15_11 : (Cond.selects RX12 yX12_roomOf yX12_roomOf) ∈ wsL_law := inr_15 _ (List.mem_of_getElem? (i := 11) rfl)
theorem wd_15_12 : (Cond.code yX12_roomOf cX12_roomOf 4 (some .int)) ∈ wsL_law := inr_15 _ (List.mem_of_getElem? (i := 12) rfl)
theorem wd_15_13 : (Cond.methodLink RX12 89 yX12_isMonth) ∈ wsL_law := inr_15 _ (List.mem_of_getElem? (i := 13) rfl)
theorem wd_15_14 : (Cond.static yX12_isMonth) ∈ wsL_law := inr_15 _ (List.mem_of_getElem? (i := 14) rfl)
theorem wd_15_15 : (Cond.code yX12_isMonth cX12_isMonth 1 (some .boolean)) ∈ wsL_law := inr_15 _ (List.mem_of_getElem? (i := 15) rfl)
theorem wd_15_16 : (Cond.methodLink RX12 92 yX12_roomIn) ∈ wsL_law := inr_15 _ (List.mem_of_getElem? (i := 16) rfl)
theorem wd_15_17 : (Cond.instanceMethod yX12_roomIn) ∈ wsL_law := inr_15 _ (List.mem_of_getElem? (i := 17) rfl)
theorem wd_15_18 : (Cond.selects RX12 yX12_roomIn yX12_roomIn) ∈ wsL_law := inr_15 _ (List.mem_of_getElem? (i := 18) rfl)
theorem wd_15_19 : (Cond.code yX12_roomIn cX12_roomIn 4 (some .int)) ∈ wsL_law := inr_15 _ (List.mem_of_getElem? (i := 19) rfl)
theorem wd_15_20 : (Cond.methodLink RX12 85 yX12_takes) ∈ wsL_law := inr_15 _ (List.mem_of_getElem? (i := 20) rfl)
theorem wd_15_21 : (Cond.instanceMethod yX12_takes) ∈ wsL_law := inr_15 _ (List.mem_of_getElem? (i := 21) rfl)
theorem wd_15_22 : (Cond.selects RX12 yX12_takes yX12_takes) ∈ wsL_law := inr_15 _ (List.mem_of_getElem? (i := 22) rfl)
theorem wd_15_23 : (Cond.code yX12_takes cX12_takes 3 (some .boolean)) ∈ wsL_law := inr_15 _ (List.mem_of_getElem? (i := 23) rfl)
theorem wd_16_0 : (Cond.methodLink RL 40 yX11_month) ∈ wsL_law := inr_16 _ (List.mem_of_getElem? (i := 0) rfl)
theorem wd_16_1 : (Cond.instanceMethod yX11_month) ∈ wsL_law := inr_16 _ (List.mem_of_getElem? (i := 1) rfl)
theorem wd_16_2 : (Cond.selects RX11 yX11_month yX11_month) ∈ wsL_law := inr_16 _ (List.mem_of_getElem? (i := 2) rfl)
theorem wd_16_3 : (Cond.code yX11_month cX11_month 3 (some .int)) ∈ wsL_law := inr_16 _ (List.mem_of_getElem? (i := 3) rfl)
theorem wd_16_4 : (Cond.fieldLink RX11 157 "SmallRooms$Nursery" "month" "I") ∈ wsL_law := inr_16 _ (List.mem_of_getElem? (i := 4) rfl)
theorem wd_16_5 : (Cond.methodLink RL 43 yX12_month) ∈ wsL_law := inr_16 _ (List.mem_of_getElem? (i := 5) rfl)
theorem wd_16_6 : (Cond.instanceMethod yX12_month) ∈ wsL_law := inr_16 _ (List.mem_of_getElem? (i := 6) rfl)
theorem wd_16_7 : (Cond.selects RX12 yX12_month yX12_month) ∈ wsL_law := inr_16 _ (List.mem_of_getElem? (i := 7) rfl)
theorem wd_16_8 : (Cond.code yX12_month cX12_month 3 (some .int)) ∈ wsL_law := inr_16 _ (List.mem_of_getElem? (i := 8) rfl)
theorem wd_16_9 : (Cond.methodLink RL 44 yX11_slot) ∈ wsL_law := inr_16 _ (List.mem_of_getElem? (i := 9) rfl)
theorem wd_16_10 : (Cond.instanceMethod yX11_slot) ∈ wsL_law := inr_16 _ (List.mem_of_getElem? (i := 10) rfl)
theorem wd_16_11 : (Cond.selects RX11 yX11_slot yX11_slot) ∈ wsL_law := inr_16 _ (List.mem_of_getElem? (i := 11) rfl)
theorem wd_16_12 : (Cond.code yX11_slot cX11_slot 3 (some .int)) ∈ wsL_law := inr_16 _ (List.mem_of_getElem? (i := 12) rfl)
theorem wd_16_13 : (Cond.fieldLink RX11 163 "SmallRooms$Nursery" "slot" "I") ∈ wsL_law := inr_16 _ (List.mem_of_getElem? (i := 13) rfl)
theorem wd_16_14 : (Cond.methodLink RX11 160 yX11_isSlot) ∈ wsL_law := inr_16 _ (List.mem_of_getElem? (i := 14) rfl)
theorem wd_16_15 : (Cond.static yX11_isSlot) ∈ wsL_law := inr_16 _ (List.mem_of_getElem? (i := 15) rfl)
theorem wd_16_16 : (Cond.code yX11_isSlot cX11_isSlot 1 (some .boolean)) ∈ wsL_law := inr_16 _ (List.mem_of_getElem? (i := 16) rfl)
theorem wd_16_17 : (Cond.methodLink RL 47 yX12_slot) ∈ wsL_law := inr_16 _ (List.mem_of_getElem? (i := 17) rfl)
theorem wd_16_18 : (Cond.instanceMethod yX12_slot) ∈ wsL_law := inr_16 _ (List.mem_of_getElem? (i := 18) rfl)
theorem wd_16_19 : (Cond.selects RX12 yX12_slot yX12_slot) ∈ wsL_law := inr_16 _ (List.mem_of_getElem? (i := 19) rfl)
theorem wd_16_20 : (Cond.code yX12_slot cX12_slot 3 (some .int)) ∈ wsL_law := inr_16 _ (List.mem_of_getElem? (i := 20) rfl)
theorem wd_16_21 : (Cond.methodLink RL 48 yX11_day) ∈ wsL_law := inr_16 _ (List.mem_of_getElem? (i := 21) rfl)
theorem wd_16_22 : (Cond.instanceMethod yX11_day) ∈ wsL_law := inr_16 _ (List.mem_of_getElem? (i := 22) rfl)
theorem wd_16_23 : (Cond.selects RX11 yX11_day yX11_day) ∈ wsL_law := inr_16 _ (List.mem_of_getElem? (i := 23) rfl)
theorem wd_17_0 : (Cond.code yX11_day cX11_day 2 (some .int)) ∈ wsL_law := inr_17 _ (List.mem_of_getElem? (i := 0) rfl)
theorem wd_17_1 : (Cond.methodLink RX11 166 yX0_countIn) ∈ wsL_law := inr_17 _ (List.mem_of_getElem? (i := 1) rfl)
theorem wd_17_2 : (Cond.instanceMethod yX0_countIn) ∈ wsL_law := inr_17 _ (List.mem_of_getElem? (i := 2) rfl)
theorem wd_17_3 : (Cond.selects RX0 yX0_countIn yX0_countIn) ∈ wsL_law := inr_17 _ (List.mem_of_getElem? (i := 3) rfl)
theorem wd_17_4 : (Cond.code yX0_countIn cX0_countIn 1 (some .int)) ∈ wsL_law := inr_17 _ (List.mem_of_getElem? (i := 4) rfl)
theorem wd_17_5 : (Cond.methodLink RX0 53 yX0_inRoom) ∈ wsL_law := inr_17 _ (List.mem_of_getElem? (i := 5) rfl)
theorem wd_17_6 : (Cond.instanceMethod yX0_inRoom) ∈ wsL_law := inr_17 _ (List.mem_of_getElem? (i := 6) rfl)
theorem wd_17_7 : (Cond.selects RX0 yX0_inRoom yX0_inRoom) ∈ wsL_law := inr_17 _ (List.mem_of_getElem? (i := 7) rfl)
theorem wd_17_8 : (Cond.code yX0_inRoom cX0_inRoom 4 (some .int)) ∈ wsL_law := inr_17 _ (List.mem_of_getElem? (i := 8) rfl)
theorem wd_17_9 : (Cond.static yX11_with) ∈ wsL_law := inr_17 _ (List.mem_of_getElem? (i := 9) rfl)
theorem wd_17_10 : (Cond.code yX11_with cX11_with 2 (some .int)) ∈ wsL_law := inr_17 _ (List.mem_of_getElem? (i := 10) rfl)
theorem wd_17_11 : (Cond.methodLink RX0 57 yJ6_bitCount_0f7a4) ∈ wsL_law := inr_17 _ (List.mem_of_getElem? (i := 11) rfl)
theorem wd_17_12 : (Cond.static yJ6_bitCount_0f7a4) ∈ wsL_law := inr_17 _ (List.mem_of_getElem? (i := 12) rfl)
theorem wd_17_13 : (Cond.initialized RJ6) ∈ wsL_law := inr_17 _ (List.mem_of_getElem? (i := 13) rfl)
theorem wd_17_14 : (Cond.code yJ6_bitCount_0f7a4 cJ6_bitCount_0f7a4 1 (some .int)) ∈ wsL_law := inr_17 _ (List.mem_of_getElem? (i := 14) rfl)
theorem wd_17_15 : (Cond.constant RJ6 265 (1431655765)) ∈ wsL_law := inr_17 _ (List.mem_of_getElem? (i := 15) rfl)
theorem wd_17_16 : (Cond.constant RJ6 266 (858993459)) ∈ wsL_law := inr_17 _ (List.mem_of_getElem? (i := 16) rfl)
theorem wd_17_17 : (Cond.constant RJ6 267 (252645135)) ∈ wsL_law := inr_17 _ (List.mem_of_getElem? (i := 17) rfl)
theorem wd_17_18 : (Cond.methodLink RX11 170 yX4_beginDay) ∈ wsL_law := inr_17 _ (List.mem_of_getElem? (i := 18) rfl)
theorem wd_17_19 : (Cond.instanceMethod yX4_beginDay) ∈ wsL_law := inr_17 _ (List.mem_of_getElem? (i := 19) rfl)
theorem wd_17_20 : (Cond.selects RX4 yX4_beginDay yX4_beginDay) ∈ wsL_law := inr_17 _ (List.mem_of_getElem? (i := 20) rfl)
theorem wd_17_21 : (Cond.code yX4_beginDay cX4_beginDay 1 none) ∈ wsL_law := inr_17 _ (List.mem_of_getElem? (i := 21) rfl)
theorem wd_17_22 : (Cond.fieldLink RX4 113 "SmallRooms$Hands" "ill" "I") ∈ wsL_law := inr_17 _ (List.mem_of_getElem? (i := 22) rfl)
theorem wd_17_23 : (Cond.fieldLink RX4 116 "SmallRooms$Log" "count" "I") ∈ wsL_law := inr_17 _ (List.mem_of_getElem? (i := 23) rfl)
theorem wd_18_0 : (Cond.methodLink RX4 110 yX0_allOut) ∈ wsL_law := inr_18 _ (List.mem_of_getElem? (i := 0) rfl)
theorem wd_18_1 : (Cond.instanceMethod yX0_allOut) ∈ wsL_law := inr_18 _ (List.mem_of_getElem? (i := 1) rfl)
theorem wd_18_2 : (Cond.selects RX0 yX0_allOut yX0_allOut) ∈ wsL_law := inr_18 _ (List.mem_of_getElem? (i := 2) rfl)
theorem wd_18_3 : (Cond.code yX0_allOut cX0_allOut 2 none) ∈ wsL_law := inr_18 _ (List.mem_of_getElem? (i := 3) rfl)
theorem wd_18_4 : (Cond.methodLink RL 52 yX12_day) ∈ wsL_law := inr_18 _ (List.mem_of_getElem? (i := 4) rfl)
theorem wd_18_5 : (Cond.instanceMethod yX12_day) ∈ wsL_law := inr_18 _ (List.mem_of_getElem? (i := 5) rfl)
theorem wd_18_6 : (Cond.selects RX12 yX12_day yX12_day) ∈ wsL_law := inr_18 _ (List.mem_of_getElem? (i := 6) rfl)
theorem wd_18_7 : (Cond.code yX12_day cX12_day 3 (some .int)) ∈ wsL_law := inr_18 _ (List.mem_of_getElem? (i := 7) rfl)
theorem wd_18_8 : (Cond.methodLink RL 53 yX11_in) ∈ wsL_law := inr_18 _ (List.mem_of_getElem? (i := 8) rfl)
theorem wd_18_9 : (Cond.instanceMethod yX11_in) ∈ wsL_law := inr_18 _ (List.mem_of_getElem? (i := 9) rfl)
theorem wd_18_10 : (Cond.selects RX11 yX11_in yX11_in) ∈ wsL_law := inr_18 _ (List.mem_of_getElem? (i := 10) rfl)
theorem wd_18_11 : (Cond.code yX11_in cX11_in 4 (some .int)) ∈ wsL_law := inr_18 _ (List.mem_of_getElem? (i := 11) rfl)
theorem wd_18_12 : (Cond.constant RX11 174 (-100007)) ∈ wsL_law := inr_18 _ (List.mem_of_getElem? (i := 12) rfl)
theorem wd_18_13 : (Cond.fieldLink RX11 178 "SmallRooms$Nursery" "roll" "LSmallRooms$Log;") ∈ wsL_law := inr_18 _ (List.mem_of_getElem? (i := 13) rfl)
theorem wd_18_14 : (Cond.methodLink RX11 173 yX8_has) ∈ wsL_law := inr_18 _ (List.mem_of_getElem? (i := 14) rfl)
theorem wd_18_15 : (Cond.instanceMethod yX8_has) ∈ wsL_law := inr_18 _ (List.mem_of_getElem? (i := 15) rfl)
theorem wd_18_16 : (Cond.selects RX8 yX8_has yX8_has) ∈ wsL_law := inr_18 _ (List.mem_of_getElem? (i := 16) rfl)
theorem wd_18_17 : (Cond.code yX8_has cX8_has 2 (some .boolean)) ∈ wsL_law := inr_18 _ (List.mem_of_getElem? (i := 17) rfl)
theorem wd_18_18 : (Cond.methodLink RX11 175 yX4_refusal) ∈ wsL_law := inr_18 _ (List.mem_of_getElem? (i := 18) rfl)
theorem wd_18_19 : (Cond.instanceMethod yX4_refusal) ∈ wsL_law := inr_18 _ (List.mem_of_getElem? (i := 19) rfl)
theorem wd_18_20 : (Cond.selects RX4 yX4_refusal yX4_refusal) ∈ wsL_law := inr_18 _ (List.mem_of_getElem? (i := 20) rfl)
theorem wd_18_21 : (Cond.code yX4_refusal cX4_refusal 3 (some .int)) ∈ wsL_law := inr_18 _ (List.mem_of_getElem? (i := 21) rfl)
theorem wd_18_22 : (Cond.constant RX4 77 (-100004)) ∈ wsL_law := inr_18 _ (List.mem_of_getElem? (i := 22) rfl)
theorem wd_18_23 : (Cond.fieldLink RX4 86 "SmallRooms$Rooms" "most" "[I") ∈ wsL_law := inr_18 _ (List.mem_of_getElem? (i := 23) rfl)
theorem wd_19_0 : (Cond.constant RX4 89 (-100005)) ∈ wsL_law := inr_19 _ (List.mem_of_getElem? (i := 0) rfl)
theorem wd_19_1 : (Cond.methodLink RX4 70 yX4_ageNow) ∈ wsL_law := inr_19 _ (List.mem_of_getElem? (i := 1) rfl)
theorem wd_19_2 : (Cond.instanceMethod yX4_ageNow) ∈ wsL_law := inr_19 _ (List.mem_of_getElem? (i := 2) rfl)
theorem wd_19_3 : (Cond.selects RX4 yX4_ageNow yX4_ageNow) ∈ wsL_law := inr_19 _ (List.mem_of_getElem? (i := 3) rfl)
theorem wd_19_4 : (Cond.code yX4_ageNow cX4_ageNow 2 (some .int)) ∈ wsL_law := inr_19 _ (List.mem_of_getElem? (i := 4) rfl)
theorem wd_19_5 : (Cond.methodLink RX4 73 yX8_takes) ∈ wsL_law := inr_19 _ (List.mem_of_getElem? (i := 5) rfl)
theorem wd_19_6 : (Cond.instanceMethod yX8_takes) ∈ wsL_law := inr_19 _ (List.mem_of_getElem? (i := 6) rfl)
theorem wd_19_7 : (Cond.selects RX8 yX8_takes yX8_takes) ∈ wsL_law := inr_19 _ (List.mem_of_getElem? (i := 7) rfl)
theorem wd_19_8 : (Cond.code yX8_takes cX8_takes 3 (some .boolean)) ∈ wsL_law := inr_19 _ (List.mem_of_getElem? (i := 8) rfl)
theorem wd_19_9 : (Cond.methodLink RX4 78 yX0_inRoom) ∈ wsL_law := inr_19 _ (List.mem_of_getElem? (i := 9) rfl)
theorem wd_19_10 : (Cond.methodLink RX4 81 yJ6_bitCount_0f7a4) ∈ wsL_law := inr_19 _ (List.mem_of_getElem? (i := 10) rfl)
theorem wd_19_11 : (Cond.methodLink RX11 182 yX3_lead) ∈ wsL_law := inr_19 _ (List.mem_of_getElem? (i := 11) rfl)
theorem wd_19_12 : (Cond.instanceMethod yX3_lead) ∈ wsL_law := inr_19 _ (List.mem_of_getElem? (i := 12) rfl)
theorem wd_19_13 : (Cond.selects RX3 yX3_lead yX3_lead) ∈ wsL_law := inr_19 _ (List.mem_of_getElem? (i := 13) rfl)
theorem wd_19_14 : (Cond.code yX3_lead cX3_lead 4 none) ∈ wsL_law := inr_19 _ (List.mem_of_getElem? (i := 14) rfl)
theorem wd_19_15 : (Cond.methodLink RX3 25 yX3_dropOldest) ∈ wsL_law := inr_19 _ (List.mem_of_getElem? (i := 15) rfl)
theorem wd_19_16 : (Cond.instanceMethod yX3_dropOldest) ∈ wsL_law := inr_19 _ (List.mem_of_getElem? (i := 16) rfl)
theorem wd_19_17 : (Cond.selects RX3 yX3_dropOldest yX3_dropOldest) ∈ wsL_law := inr_19 _ (List.mem_of_getElem? (i := 17) rfl)
theorem wd_19_18 : (Cond.code yX3_dropOldest cX3_dropOldest 1 none) ∈ wsL_law := inr_19 _ (List.mem_of_getElem? (i := 18) rfl)
theorem wd_19_19 : (Cond.methodLink RX11 188 yX0_inRoom) ∈ wsL_law := inr_19 _ (List.mem_of_getElem? (i := 19) rfl)
theorem wd_19_20 : (Cond.methodLink RX11 191 yJ6_bitCount_0f7a4) ∈ wsL_law := inr_19 _ (List.mem_of_getElem? (i := 20) rfl)
theorem wd_19_21 : (Cond.methodLink RL 56 yX12_in) ∈ wsL_law := inr_19 _ (List.mem_of_getElem? (i := 21) rfl)
theorem wd_19_22 : (Cond.instanceMethod yX12_in) ∈ wsL_law := inr_19 _ (List.mem_of_getElem? (i := 22) rfl)
theorem wd_19_23 : (Cond.selects RX12 yX12_in yX12_in) ∈ wsL_law := inr_19 _ (List.mem_of_getElem? (i := 23) rfl)
theorem wd_20_0 : (Cond.code yX12_in cX12_in 3 (some .int)) ∈ wsL_law := inr_20 _ (List.mem_of_getElem? (i := 0) rfl)
theorem wd_20_1 : (Cond.methodLink RX12 100 yX12_isRoom) ∈ wsL_law := inr_20 _ (List.mem_of_getElem? (i := 1) rfl)
theorem wd_20_2 : (Cond.instanceMethod yX12_isRoom) ∈ wsL_law := inr_20 _ (List.mem_of_getElem? (i := 2) rfl)
theorem wd_20_3 : (Cond.selects RX12 yX12_isRoom yX12_isRoom) ∈ wsL_law := inr_20 _ (List.mem_of_getElem? (i := 3) rfl)
theorem wd_20_4 : (Cond.code yX12_isRoom cX12_isRoom 2 (some .boolean)) ∈ wsL_law := inr_20 _ (List.mem_of_getElem? (i := 4) rfl)
theorem wd_20_5 : (Cond.methodLink RX12 103 yX12_childrenIn) ∈ wsL_law := inr_20 _ (List.mem_of_getElem? (i := 5) rfl)
theorem wd_20_6 : (Cond.instanceMethod yX12_childrenIn) ∈ wsL_law := inr_20 _ (List.mem_of_getElem? (i := 6) rfl)
theorem wd_20_7 : (Cond.selects RX12 yX12_childrenIn yX12_childrenIn) ∈ wsL_law := inr_20 _ (List.mem_of_getElem? (i := 7) rfl)
theorem wd_20_8 : (Cond.code yX12_childrenIn cX12_childrenIn 4 (some .int)) ∈ wsL_law := inr_20 _ (List.mem_of_getElem? (i := 8) rfl)
theorem wd_20_9 : (Cond.methodLink RX12 106 yX12_ones) ∈ wsL_law := inr_20 _ (List.mem_of_getElem? (i := 9) rfl)
theorem wd_20_10 : (Cond.static yX12_ones) ∈ wsL_law := inr_20 _ (List.mem_of_getElem? (i := 10) rfl)
theorem wd_20_11 : (Cond.code yX12_ones cX12_ones 3 (some .int)) ∈ wsL_law := inr_20 _ (List.mem_of_getElem? (i := 11) rfl)
theorem wd_20_12 : (Cond.methodLink RX12 109 yX12_leadRoll) ∈ wsL_law := inr_20 _ (List.mem_of_getElem? (i := 12) rfl)
theorem wd_20_13 : (Cond.instanceMethod yX12_leadRoll) ∈ wsL_law := inr_20 _ (List.mem_of_getElem? (i := 13) rfl)
theorem wd_20_14 : (Cond.selects RX12 yX12_leadRoll yX12_leadRoll) ∈ wsL_law := inr_20 _ (List.mem_of_getElem? (i := 14) rfl)
theorem wd_20_15 : (Cond.code yX12_leadRoll cX12_leadRoll 3 none) ∈ wsL_law := inr_20 _ (List.mem_of_getElem? (i := 15) rfl)
theorem wd_20_16 : (Cond.methodLink RX12 96 yX12_lead) ∈ wsL_law := inr_20 _ (List.mem_of_getElem? (i := 16) rfl)
theorem wd_20_17 : (Cond.instanceMethod yX12_lead) ∈ wsL_law := inr_20 _ (List.mem_of_getElem? (i := 17) rfl)
theorem wd_20_18 : (Cond.selects RX12 yX12_lead yX12_lead) ∈ wsL_law := inr_20 _ (List.mem_of_getElem? (i := 18) rfl)
theorem wd_20_19 : (Cond.code yX12_lead cX12_lead 8 none) ∈ wsL_law := inr_20 _ (List.mem_of_getElem? (i := 19) rfl)
theorem wd_20_20 : (Cond.methodLink RL 57 yX11_to) ∈ wsL_law := inr_20 _ (List.mem_of_getElem? (i := 20) rfl)
theorem wd_20_21 : (Cond.instanceMethod yX11_to) ∈ wsL_law := inr_20 _ (List.mem_of_getElem? (i := 21) rfl)
theorem wd_20_22 : (Cond.selects RX11 yX11_to yX11_to) ∈ wsL_law := inr_20 _ (List.mem_of_getElem? (i := 22) rfl)
theorem wd_20_23 : (Cond.code yX11_to cX11_to 5 (some .int)) ∈ wsL_law := inr_20 _ (List.mem_of_getElem? (i := 23) rfl)
theorem wd_21_0 : (Cond.methodLink RL 60 yX12_to) ∈ wsL_law := inr_21 _ (List.mem_of_getElem? (i := 0) rfl)
theorem wd_21_1 : (Cond.instanceMethod yX12_to) ∈ wsL_law := inr_21 _ (List.mem_of_getElem? (i := 1) rfl)
theorem wd_21_2 : (Cond.selects RX12 yX12_to yX12_to) ∈ wsL_law := inr_21 _ (List.mem_of_getElem? (i := 2) rfl)
theorem wd_21_3 : (Cond.code yX12_to cX12_to 4 (some .int)) ∈ wsL_law := inr_21 _ (List.mem_of_getElem? (i := 3) rfl)
theorem wd_21_4 : (Cond.methodLink RL 61 yX11_over) ∈ wsL_law := inr_21 _ (List.mem_of_getElem? (i := 4) rfl)
theorem wd_21_5 : (Cond.instanceMethod yX11_over) ∈ wsL_law := inr_21 _ (List.mem_of_getElem? (i := 5) rfl)
theorem wd_21_6 : (Cond.selects RX11 yX11_over yX11_over) ∈ wsL_law := inr_21 _ (List.mem_of_getElem? (i := 6) rfl)
theorem wd_21_7 : (Cond.code yX11_over cX11_over 3 (some .int)) ∈ wsL_law := inr_21 _ (List.mem_of_getElem? (i := 7) rfl)
theorem wd_21_8 : (Cond.constant RX11 199 (-100008)) ∈ wsL_law := inr_21 _ (List.mem_of_getElem? (i := 8) rfl)
theorem wd_21_9 : (Cond.methodLink RX11 196 yX11_isPerson) ∈ wsL_law := inr_21 _ (List.mem_of_getElem? (i := 9) rfl)
theorem wd_21_10 : (Cond.static yX11_isPerson) ∈ wsL_law := inr_21 _ (List.mem_of_getElem? (i := 10) rfl)
theorem wd_21_11 : (Cond.code yX11_isPerson cX11_isPerson 1 (some .boolean)) ∈ wsL_law := inr_21 _ (List.mem_of_getElem? (i := 11) rfl)
theorem wd_21_12 : (Cond.methodLink RX11 200 yX4_goOut) ∈ wsL_law := inr_21 _ (List.mem_of_getElem? (i := 12) rfl)
theorem wd_21_13 : (Cond.instanceMethod yX4_goOut) ∈ wsL_law := inr_21 _ (List.mem_of_getElem? (i := 13) rfl)
theorem wd_21_14 : (Cond.selects RX4 yX4_goOut yX4_goOut) ∈ wsL_law := inr_21 _ (List.mem_of_getElem? (i := 14) rfl)
theorem wd_21_15 : (Cond.code yX4_goOut cX4_goOut 2 none) ∈ wsL_law := inr_21 _ (List.mem_of_getElem? (i := 15) rfl)
theorem wd_21_16 : (Cond.fieldLink RX4 90 "SmallRooms$Children" "room" "[I") ∈ wsL_law := inr_21 _ (List.mem_of_getElem? (i := 16) rfl)
theorem wd_21_17 : (Cond.fieldLink RX4 100 "SmallRooms$Children" "asleep" "I") ∈ wsL_law := inr_21 _ (List.mem_of_getElem? (i := 17) rfl)
theorem wd_21_18 : (Cond.methodLink RX4 96 yX3_lead) ∈ wsL_law := inr_21 _ (List.mem_of_getElem? (i := 18) rfl)
theorem wd_21_19 : (Cond.methodLink RL 64 yX12_over) ∈ wsL_law := inr_21 _ (List.mem_of_getElem? (i := 19) rfl)
theorem wd_21_20 : (Cond.instanceMethod yX12_over) ∈ wsL_law := inr_21 _ (List.mem_of_getElem? (i := 20) rfl)
theorem wd_21_21 : (Cond.selects RX12 yX12_over yX12_over) ∈ wsL_law := inr_21 _ (List.mem_of_getElem? (i := 21) rfl)
theorem wd_21_22 : (Cond.code yX12_over cX12_over 3 (some .int)) ∈ wsL_law := inr_21 _ (List.mem_of_getElem? (i := 22) rfl)
theorem wd_21_23 : (Cond.methodLink RX12 113 yX12_leadSleep) ∈ wsL_law := inr_21 _ (List.mem_of_getElem? (i := 23) rfl)
theorem wd_22_0 : (Cond.instanceMethod yX12_leadSleep) ∈ wsL_law := inr_22 _ (List.mem_of_getElem? (i := 0) rfl)
theorem wd_22_1 : (Cond.selects RX12 yX12_leadSleep yX12_leadSleep) ∈ wsL_law := inr_22 _ (List.mem_of_getElem? (i := 1) rfl)
theorem wd_22_2 : (Cond.code yX12_leadSleep cX12_leadSleep 3 none) ∈ wsL_law := inr_22 _ (List.mem_of_getElem? (i := 2) rfl)
theorem wd_22_3 : (Cond.methodLink RL 65 yX11_fetches) ∈ wsL_law := inr_22 _ (List.mem_of_getElem? (i := 3) rfl)
theorem wd_22_4 : (Cond.instanceMethod yX11_fetches) ∈ wsL_law := inr_22 _ (List.mem_of_getElem? (i := 4) rfl)
theorem wd_22_5 : (Cond.selects RX11 yX11_fetches yX11_fetches) ∈ wsL_law := inr_22 _ (List.mem_of_getElem? (i := 5) rfl)
theorem wd_22_6 : (Cond.code yX11_fetches cX11_fetches 6 (some .int)) ∈ wsL_law := inr_22 _ (List.mem_of_getElem? (i := 6) rfl)
theorem wd_22_7 : (Cond.methodLink RX11 204 yX11_with) ∈ wsL_law := inr_22 _ (List.mem_of_getElem? (i := 7) rfl)
theorem wd_22_8 : (Cond.methodLink RX11 207 yX11_without) ∈ wsL_law := inr_22 _ (List.mem_of_getElem? (i := 8) rfl)
theorem wd_22_9 : (Cond.methodLink RL 69 yX12_fetches) ∈ wsL_law := inr_22 _ (List.mem_of_getElem? (i := 9) rfl)
theorem wd_22_10 : (Cond.instanceMethod yX12_fetches) ∈ wsL_law := inr_22 _ (List.mem_of_getElem? (i := 10) rfl)
theorem wd_22_11 : (Cond.selects RX12 yX12_fetches yX12_fetches) ∈ wsL_law := inr_22 _ (List.mem_of_getElem? (i := 11) rfl)
theorem wd_22_12 : (Cond.code yX12_fetches cX12_fetches 5 (some .int)) ∈ wsL_law := inr_22 _ (List.mem_of_getElem? (i := 12) rfl)
theorem wd_22_13 : (Cond.methodLink RL 70 yX11_place) ∈ wsL_law := inr_22 _ (List.mem_of_getElem? (i := 13) rfl)
theorem wd_22_14 : (Cond.instanceMethod yX11_place) ∈ wsL_law := inr_22 _ (List.mem_of_getElem? (i := 14) rfl)
theorem wd_22_15 : (Cond.selects RX11 yX11_place yX11_place) ∈ wsL_law := inr_22 _ (List.mem_of_getElem? (i := 15) rfl)
theorem wd_22_16 : (Cond.code yX11_place cX11_place 4 (some .int)) ∈ wsL_law := inr_22 _ (List.mem_of_getElem? (i := 16) rfl)
theorem wd_22_17 : (Cond.fieldLink RX11 210 "SmallRooms$Hands" "ill" "I") ∈ wsL_law := inr_22 _ (List.mem_of_getElem? (i := 17) rfl)
theorem wd_22_18 : (Cond.fieldLink RX11 213 "SmallRooms$Hands" "room" "[I") ∈ wsL_law := inr_22 _ (List.mem_of_getElem? (i := 18) rfl)
theorem wd_22_19 : (Cond.methodLink RL 73 yX12_place) ∈ wsL_law := inr_22 _ (List.mem_of_getElem? (i := 19) rfl)
theorem wd_22_20 : (Cond.instanceMethod yX12_place) ∈ wsL_law := inr_22 _ (List.mem_of_getElem? (i := 20) rfl)
theorem wd_22_21 : (Cond.selects RX12 yX12_place yX12_place) ∈ wsL_law := inr_22 _ (List.mem_of_getElem? (i := 21) rfl)
theorem wd_22_22 : (Cond.code yX12_place cX12_place 4 (some .int)) ∈ wsL_law := inr_22 _ (List.mem_of_getElem? (i := 22) rfl)
theorem wd_22_23 : (Cond.methodLink RL 74 yX11_ill) ∈ wsL_law := inr_22 _ (List.mem_of_getElem? (i := 23) rfl)
theorem wd_23_0 : (Cond.instanceMethod yX11_ill) ∈ wsL_law := inr_23 _ (List.mem_of_getElem? (i := 0) rfl)
theorem wd_23_1 : (Cond.selects RX11 yX11_ill yX11_ill) ∈ wsL_law := inr_23 _ (List.mem_of_getElem? (i := 1) rfl)
theorem wd_23_2 : (Cond.code yX11_ill cX11_ill 3 (some .int)) ∈ wsL_law := inr_23 _ (List.mem_of_getElem? (i := 2) rfl)
theorem wd_23_3 : (Cond.methodLink RL 77 yX12_ill) ∈ wsL_law := inr_23 _ (List.mem_of_getElem? (i := 3) rfl)
theorem wd_23_4 : (Cond.instanceMethod yX12_ill) ∈ wsL_law := inr_23 _ (List.mem_of_getElem? (i := 4) rfl)
theorem wd_23_5 : (Cond.selects RX12 yX12_ill yX12_ill) ∈ wsL_law := inr_23 _ (List.mem_of_getElem? (i := 5) rfl)
theorem wd_23_6 : (Cond.code yX12_ill cX12_ill 3 (some .int)) ∈ wsL_law := inr_23 _ (List.mem_of_getElem? (i := 6) rfl)
theorem wd_23_7 : (Cond.methodLink RL 78 yX11_now) ∈ wsL_law := inr_23 _ (List.mem_of_getElem? (i := 7) rfl)
theorem wd_23_8 : (Cond.instanceMethod yX11_now) ∈ wsL_law := inr_23 _ (List.mem_of_getElem? (i := 8) rfl)
theorem wd_23_9 : (Cond.selects RX11 yX11_now yX11_now) ∈ wsL_law := inr_23 _ (List.mem_of_getElem? (i := 9) rfl)
theorem wd_23_10 : (Cond.code yX11_now cX11_now 3 (some .int)) ∈ wsL_law := inr_23 _ (List.mem_of_getElem? (i := 10) rfl)
theorem wd_23_11 : (Cond.methodLink RX11 214 yX1_inRoom) ∈ wsL_law := inr_23 _ (List.mem_of_getElem? (i := 11) rfl)
theorem wd_23_12 : (Cond.instanceMethod yX1_inRoom) ∈ wsL_law := inr_23 _ (List.mem_of_getElem? (i := 12) rfl)
theorem wd_23_13 : (Cond.selects RX1 yX1_inRoom yX1_inRoom) ∈ wsL_law := inr_23 _ (List.mem_of_getElem? (i := 13) rfl)
theorem wd_23_14 : (Cond.code yX1_inRoom cX1_inRoom 4 (some .int)) ∈ wsL_law := inr_23 _ (List.mem_of_getElem? (i := 14) rfl)
theorem wd_23_15 : (Cond.methodLink RX11 215 yX7_needOf) ∈ wsL_law := inr_23 _ (List.mem_of_getElem? (i := 15) rfl)
theorem wd_23_16 : (Cond.instanceMethod yX7_needOf) ∈ wsL_law := inr_23 _ (List.mem_of_getElem? (i := 16) rfl)
theorem wd_23_17 : (Cond.selects RX7 yX7_needOf yX7_needOf) ∈ wsL_law := inr_23 _ (List.mem_of_getElem? (i := 17) rfl)
theorem wd_23_18 : (Cond.code yX7_needOf cX7_needOf 5 (some .int)) ∈ wsL_law := inr_23 _ (List.mem_of_getElem? (i := 18) rfl)
theorem wd_23_19 : (Cond.fieldLink RX7 23 "SmallRooms$Nursery" "ratio" "LSmallRooms$Ratio;") ∈ wsL_law := inr_23 _ (List.mem_of_getElem? (i := 19) rfl)
theorem wd_23_20 : (Cond.fieldLink RX7 29 "SmallRooms$Ratio" "wrongAt" "I") ∈ wsL_law := inr_23 _ (List.mem_of_getElem? (i := 20) rfl)
theorem wd_23_21 : (Cond.constantLong RX7 43 (2147483647)) ∈ wsL_law := inr_23 _ (List.mem_of_getElem? (i := 21) rfl)
theorem wd_23_22 : (Cond.methodLink RX7 45 Lib.MathLoose.min_long.x) ∈ wsL_law := inr_23 _ (List.mem_of_getElem? (i := 22) rfl)
theorem wd_23_23 : (Cond.static Lib.MathLoose.min_long.x) ∈ wsL_law := inr_23 _ (List.mem_of_getElem? (i := 23) rfl)
theorem wd_24_0 : (Cond.code Lib.MathLoose.min_long.x Lib.MathLoose.min_long.code 4 (some .long)) ∈ wsL_law := inr_24 _ (List.mem_of_getElem? (i := 0) rfl)
theorem wd_24_1 : (Cond.methodLink RX7 51 Lib.MathLoose.max_long.x) ∈ wsL_law := inr_24 _ (List.mem_of_getElem? (i := 1) rfl)
theorem wd_24_2 : (Cond.static Lib.MathLoose.max_long.x) ∈ wsL_law := inr_24 _ (List.mem_of_getElem? (i := 2) rfl)
theorem wd_24_3 : (Cond.code Lib.MathLoose.max_long.x Lib.MathLoose.max_long.code 4 (some .long)) ∈ wsL_law := inr_24 _ (List.mem_of_getElem? (i := 3) rfl)
theorem wd_24_4 : (Cond.methodLink RX7 19 yX7_countChildren) ∈ wsL_law := inr_24 _ (List.mem_of_getElem? (i := 4) rfl)
theorem wd_24_5 : (Cond.instanceMethod yX7_countChildren) ∈ wsL_law := inr_24 _ (List.mem_of_getElem? (i := 5) rfl)
theorem wd_24_6 : (Cond.selects RX7 yX7_countChildren yX7_countChildren) ∈ wsL_law := inr_24 _ (List.mem_of_getElem? (i := 6) rfl)
theorem wd_24_7 : (Cond.code yX7_countChildren cX7_countChildren 4 none) ∈ wsL_law := inr_24 _ (List.mem_of_getElem? (i := 7) rfl)
theorem wd_24_8 : (Cond.fieldLink RX7 60 "SmallRooms$Nursery" "children" "LSmallRooms$Children;") ∈ wsL_law := inr_24 _ (List.mem_of_getElem? (i := 8) rfl)
theorem wd_24_9 : (Cond.fieldLink RX7 64 "SmallRooms$Children" "count" "I") ∈ wsL_law := inr_24 _ (List.mem_of_getElem? (i := 9) rfl)
theorem wd_24_10 : (Cond.fieldLink RX7 69 "SmallRooms$Children" "room" "[I") ∈ wsL_law := inr_24 _ (List.mem_of_getElem? (i := 10) rfl)
theorem wd_24_11 : (Cond.fieldLink RX7 79 "SmallRooms$Children" "asleep" "I") ∈ wsL_law := inr_24 _ (List.mem_of_getElem? (i := 11) rfl)
theorem wd_24_12 : (Cond.methodLink RX7 54 yJ7_fill_53178) ∈ wsL_law := inr_24 _ (List.mem_of_getElem? (i := 12) rfl)
theorem wd_24_13 : (Cond.static yJ7_fill_53178) ∈ wsL_law := inr_24 _ (List.mem_of_getElem? (i := 13) rfl)
theorem wd_24_14 : (Cond.initialized RJ7) ∈ wsL_law := inr_24 _ (List.mem_of_getElem? (i := 14) rfl)
theorem wd_24_15 : (Cond.code yJ7_fill_53178 cJ7_fill_53178 4 none) ∈ wsL_law := inr_24 _ (List.mem_of_getElem? (i := 15) rfl)
theorem wd_24_16 : (Cond.methodLink RX7 72 yX4_ageNow) ∈ wsL_law := inr_24 _ (List.mem_of_getElem? (i := 16) rfl)
theorem wd_24_17 : (Cond.methodLink RX7 76 yX7_ageGroup) ∈ wsL_law := inr_24 _ (List.mem_of_getElem? (i := 17) rfl)
theorem wd_24_18 : (Cond.static yX7_ageGroup) ∈ wsL_law := inr_24 _ (List.mem_of_getElem? (i := 18) rfl)
theorem wd_24_19 : (Cond.code yX7_ageGroup cX7_ageGroup 1 (some .int)) ∈ wsL_law := inr_24 _ (List.mem_of_getElem? (i := 19) rfl)
theorem wd_24_20 : (Cond.methodLink RX7 35 yX7_workOut) ∈ wsL_law := inr_24 _ (List.mem_of_getElem? (i := 20) rfl)
theorem wd_24_21 : (Cond.instanceMethod yX7_workOut) ∈ wsL_law := inr_24 _ (List.mem_of_getElem? (i := 21) rfl)
theorem wd_24_22 : (Cond.selects RX7 yX7_workOut yX7_workOut) ∈ wsL_law := inr_24 _ (List.mem_of_getElem? (i := 22) rfl)
theorem wd_24_23 : (Cond.code yX7_workOut cX7_workOut 5 (some .long)) ∈ wsL_law := inr_24 _ (List.mem_of_getElem? (i := 23) rfl)
theorem wd_25_0 : (Cond.fieldLink RX7 101 "SmallRooms$Ratio" "count" "I") ∈ wsL_law := inr_25 _ (List.mem_of_getElem? (i := 0) rfl)
theorem wd_25_1 : (Cond.fieldLink RX7 102 "SmallRooms$Ratio" "signs" "[I") ∈ wsL_law := inr_25 _ (List.mem_of_getElem? (i := 1) rfl)
theorem wd_25_2 : (Cond.methodLink RX7 105 yX7_joined) ∈ wsL_law := inr_25 _ (List.mem_of_getElem? (i := 2) rfl)
theorem wd_25_3 : (Cond.static yX7_joined) ∈ wsL_law := inr_25 _ (List.mem_of_getElem? (i := 3) rfl)
theorem wd_25_4 : (Cond.code yX7_joined cX7_joined 5 (some .long)) ∈ wsL_law := inr_25 _ (List.mem_of_getElem? (i := 4) rfl)
theorem wd_25_5 : (Cond.static yX11_quotientUpwards) ∈ wsL_law := inr_25 _ (List.mem_of_getElem? (i := 5) rfl)
theorem wd_25_6 : (Cond.code yX11_quotientUpwards cX11_quotientUpwards 4 (some .long)) ∈ wsL_law := inr_25 _ (List.mem_of_getElem? (i := 6) rfl)
theorem wd_25_7 : (Cond.methodLink RX11 385 yJ9_floorDiv_f86c9) ∈ wsL_law := inr_25 _ (List.mem_of_getElem? (i := 7) rfl)
theorem wd_25_8 : (Cond.static yJ9_floorDiv_f86c9) ∈ wsL_law := inr_25 _ (List.mem_of_getElem? (i := 8) rfl)
theorem wd_25_9 : (Cond.initialized RJ9) ∈ wsL_law := inr_25 _ (List.mem_of_getElem? (i := 9) rfl)
theorem wd_25_10 : (Cond.code yJ9_floorDiv_f86c9 cJ9_floorDiv_f86c9 6 (some .long)) ∈ wsL_law := inr_25 _ (List.mem_of_getElem? (i := 10) rfl)
theorem wd_25_11 : (Cond.methodLink RX7 109 yX7_numberOf) ∈ wsL_law := inr_25 _ (List.mem_of_getElem? (i := 11) rfl)
theorem wd_25_12 : (Cond.instanceMethod yX7_numberOf) ∈ wsL_law := inr_25 _ (List.mem_of_getElem? (i := 12) rfl)
theorem wd_25_13 : (Cond.selects RX7 yX7_numberOf yX7_numberOf) ∈ wsL_law := inr_25 _ (List.mem_of_getElem? (i := 13) rfl)
theorem wd_25_14 : (Cond.code yX7_numberOf cX7_numberOf 2 (some .int)) ∈ wsL_law := inr_25 _ (List.mem_of_getElem? (i := 14) rfl)
theorem wd_25_15 : (Cond.methodLink RX7 39 yX7_usualNeed) ∈ wsL_law := inr_25 _ (List.mem_of_getElem? (i := 15) rfl)
theorem wd_25_16 : (Cond.instanceMethod yX7_usualNeed) ∈ wsL_law := inr_25 _ (List.mem_of_getElem? (i := 16) rfl)
theorem wd_25_17 : (Cond.selects RX7 yX7_usualNeed yX7_usualNeed) ∈ wsL_law := inr_25 _ (List.mem_of_getElem? (i := 17) rfl)
theorem wd_25_18 : (Cond.code yX7_usualNeed cX7_usualNeed 1 (some .long)) ∈ wsL_law := inr_25 _ (List.mem_of_getElem? (i := 18) rfl)
theorem wd_25_19 : (Cond.constantLong RX7 90 (2)) ∈ wsL_law := inr_25 _ (List.mem_of_getElem? (i := 19) rfl)
theorem wd_25_20 : (Cond.constantLong RX7 92 (3)) ∈ wsL_law := inr_25 _ (List.mem_of_getElem? (i := 20) rfl)
theorem wd_25_21 : (Cond.constantLong RX7 97 (4)) ∈ wsL_law := inr_25 _ (List.mem_of_getElem? (i := 21) rfl)
theorem wd_25_22 : (Cond.constantLong RX7 99 (8)) ∈ wsL_law := inr_25 _ (List.mem_of_getElem? (i := 22) rfl)
theorem wd_25_23 : (Cond.methodLink RX11 219 yX1_worthIn) ∈ wsL_law := inr_25 _ (List.mem_of_getElem? (i := 23) rfl)
theorem wd_26_0 : (Cond.instanceMethod yX1_worthIn) ∈ wsL_law := inr_26 _ (List.mem_of_getElem? (i := 0) rfl)
theorem wd_26_1 : (Cond.selects RX1 yX1_worthIn yX1_worthIn) ∈ wsL_law := inr_26 _ (List.mem_of_getElem? (i := 1) rfl)
theorem wd_26_2 : (Cond.code yX1_worthIn cX1_worthIn 4 (some .int)) ∈ wsL_law := inr_26 _ (List.mem_of_getElem? (i := 2) rfl)
theorem wd_26_3 : (Cond.methodLink RX1 35 yX1_worth) ∈ wsL_law := inr_26 _ (List.mem_of_getElem? (i := 3) rfl)
theorem wd_26_4 : (Cond.instanceMethod yX1_worth) ∈ wsL_law := inr_26 _ (List.mem_of_getElem? (i := 4) rfl)
theorem wd_26_5 : (Cond.selects RX1 yX1_worth yX1_worth) ∈ wsL_law := inr_26 _ (List.mem_of_getElem? (i := 5) rfl)
theorem wd_26_6 : (Cond.code yX1_worth cX1_worth 2 (some .int)) ∈ wsL_law := inr_26 _ (List.mem_of_getElem? (i := 6) rfl)
theorem wd_26_7 : (Cond.methodLink RX11 222 yX11_hasEnough) ∈ wsL_law := inr_26 _ (List.mem_of_getElem? (i := 7) rfl)
theorem wd_26_8 : (Cond.instanceMethod yX11_hasEnough) ∈ wsL_law := inr_26 _ (List.mem_of_getElem? (i := 8) rfl)
theorem wd_26_9 : (Cond.selects RX11 yX11_hasEnough yX11_hasEnough) ∈ wsL_law := inr_26 _ (List.mem_of_getElem? (i := 9) rfl)
theorem wd_26_10 : (Cond.code yX11_hasEnough cX11_hasEnough 4 (some .boolean)) ∈ wsL_law := inr_26 _ (List.mem_of_getElem? (i := 10) rfl)
theorem wd_26_11 : (Cond.methodLink RX11 369 yX1_trained) ∈ wsL_law := inr_26 _ (List.mem_of_getElem? (i := 11) rfl)
theorem wd_26_12 : (Cond.instanceMethod yX1_trained) ∈ wsL_law := inr_26 _ (List.mem_of_getElem? (i := 12) rfl)
theorem wd_26_13 : (Cond.selects RX1 yX1_trained yX1_trained) ∈ wsL_law := inr_26 _ (List.mem_of_getElem? (i := 13) rfl)
theorem wd_26_14 : (Cond.code yX1_trained cX1_trained 3 (some .int)) ∈ wsL_law := inr_26 _ (List.mem_of_getElem? (i := 14) rfl)
theorem wd_26_15 : (Cond.methodLink RL 81 yX12_now) ∈ wsL_law := inr_26 _ (List.mem_of_getElem? (i := 15) rfl)
theorem wd_26_16 : (Cond.instanceMethod yX12_now) ∈ wsL_law := inr_26 _ (List.mem_of_getElem? (i := 16) rfl)
theorem wd_26_17 : (Cond.selects RX12 yX12_now yX12_now) ∈ wsL_law := inr_26 _ (List.mem_of_getElem? (i := 17) rfl)
theorem wd_26_18 : (Cond.code yX12_now cX12_now 5 (some .int)) ∈ wsL_law := inr_26 _ (List.mem_of_getElem? (i := 18) rfl)
theorem wd_26_19 : (Cond.methodLink RX12 129 yX12_worthOf) ∈ wsL_law := inr_26 _ (List.mem_of_getElem? (i := 19) rfl)
theorem wd_26_20 : (Cond.instanceMethod yX12_worthOf) ∈ wsL_law := inr_26 _ (List.mem_of_getElem? (i := 20) rfl)
theorem wd_26_21 : (Cond.selects RX12 yX12_worthOf yX12_worthOf) ∈ wsL_law := inr_26 _ (List.mem_of_getElem? (i := 21) rfl)
theorem wd_26_22 : (Cond.code yX12_worthOf cX12_worthOf 2 (some .int)) ∈ wsL_law := inr_26 _ (List.mem_of_getElem? (i := 22) rfl)
theorem wd_26_23 : (Cond.methodLink RX12 132 yX12_handsIn) ∈ wsL_law := inr_26 _ (List.mem_of_getElem? (i := 23) rfl)
theorem wd_27_0 : (Cond.instanceMethod yX12_handsIn) ∈ wsL_law := inr_27 _ (List.mem_of_getElem? (i := 0) rfl)
theorem wd_27_1 : (Cond.selects RX12 yX12_handsIn yX12_handsIn) ∈ wsL_law := inr_27 _ (List.mem_of_getElem? (i := 1) rfl)
theorem wd_27_2 : (Cond.code yX12_handsIn cX12_handsIn 4 (some .int)) ∈ wsL_law := inr_27 _ (List.mem_of_getElem? (i := 2) rfl)
theorem wd_27_3 : (Cond.methodLink RX12 135 yX12_needOf) ∈ wsL_law := inr_27 _ (List.mem_of_getElem? (i := 3) rfl)
theorem wd_27_4 : (Cond.instanceMethod yX12_needOf) ∈ wsL_law := inr_27 _ (List.mem_of_getElem? (i := 4) rfl)
theorem wd_27_5 : (Cond.selects RX12 yX12_needOf yX12_needOf) ∈ wsL_law := inr_27 _ (List.mem_of_getElem? (i := 5) rfl)
theorem wd_27_6 : (Cond.code yX12_needOf cX12_needOf 4 (some .int)) ∈ wsL_law := inr_27 _ (List.mem_of_getElem? (i := 6) rfl)
theorem wd_27_7 : (Cond.methodLink RX12 122 yX12_read) ∈ wsL_law := inr_27 _ (List.mem_of_getElem? (i := 7) rfl)
theorem wd_27_8 : (Cond.instanceMethod yX12_read) ∈ wsL_law := inr_27 _ (List.mem_of_getElem? (i := 8) rfl)
theorem wd_27_9 : (Cond.selects RX12 yX12_read yX12_read) ∈ wsL_law := inr_27 _ (List.mem_of_getElem? (i := 9) rfl)
theorem wd_27_10 : (Cond.code yX12_read cX12_read 2 (some .int)) ∈ wsL_law := inr_27 _ (List.mem_of_getElem? (i := 10) rfl)
theorem wd_27_11 : (Cond.fieldLink RX12 116 "SmallRoomsModel" "piled" "I") ∈ wsL_law := inr_27 _ (List.mem_of_getElem? (i := 11) rfl)
theorem wd_27_12 : (Cond.methodLink RX12 119 yX12_goes) ∈ wsL_law := inr_27 _ (List.mem_of_getElem? (i := 12) rfl)
theorem wd_27_13 : (Cond.instanceMethod yX12_goes) ∈ wsL_law := inr_27 _ (List.mem_of_getElem? (i := 13) rfl)
theorem wd_27_14 : (Cond.selects RX12 yX12_goes yX12_goes) ∈ wsL_law := inr_27 _ (List.mem_of_getElem? (i := 14) rfl)
theorem wd_27_15 : (Cond.code yX12_goes cX12_goes 5 (some .boolean)) ∈ wsL_law := inr_27 _ (List.mem_of_getElem? (i := 15) rfl)
theorem wd_27_16 : (Cond.methodLink RX12 126 yX12_upwards) ∈ wsL_law := inr_27 _ (List.mem_of_getElem? (i := 16) rfl)
theorem wd_27_17 : (Cond.static yX12_upwards) ∈ wsL_law := inr_27 _ (List.mem_of_getElem? (i := 17) rfl)
theorem wd_27_18 : (Cond.code yX12_upwards cX12_upwards 2 (some .int)) ∈ wsL_law := inr_27 _ (List.mem_of_getElem? (i := 18) rfl)
theorem wd_27_19 : (Cond.methodLink RX12 142 yX12_hasEnough) ∈ wsL_law := inr_27 _ (List.mem_of_getElem? (i := 19) rfl)
theorem wd_27_20 : (Cond.instanceMethod yX12_hasEnough) ∈ wsL_law := inr_27 _ (List.mem_of_getElem? (i := 20) rfl)
theorem wd_27_21 : (Cond.selects RX12 yX12_hasEnough yX12_hasEnough) ∈ wsL_law := inr_27 _ (List.mem_of_getElem? (i := 21) rfl)
theorem wd_27_22 : (Cond.code yX12_hasEnough cX12_hasEnough 2 (some .boolean)) ∈ wsL_law := inr_27 _ (List.mem_of_getElem? (i := 22) rfl)
theorem wd_27_23 : (Cond.methodLink RX12 138 yX12_areEnough) ∈ wsL_law := inr_27 _ (List.mem_of_getElem? (i := 23) rfl)
theorem wd_28_0 : (Cond.instanceMethod yX12_areEnough) ∈ wsL_law := inr_28 _ (List.mem_of_getElem? (i := 0) rfl)
theorem wd_28_1 : (Cond.selects RX12 yX12_areEnough yX12_areEnough) ∈ wsL_law := inr_28 _ (List.mem_of_getElem? (i := 1) rfl)
theorem wd_28_2 : (Cond.code yX12_areEnough cX12_areEnough 7 (some .boolean)) ∈ wsL_law := inr_28 _ (List.mem_of_getElem? (i := 2) rfl)
theorem wd_28_3 : (Cond.methodLink RL 82 yX11_lacking) ∈ wsL_law := inr_28 _ (List.mem_of_getElem? (i := 3) rfl)
theorem wd_28_4 : (Cond.instanceMethod yX11_lacking) ∈ wsL_law := inr_28 _ (List.mem_of_getElem? (i := 4) rfl)
theorem wd_28_5 : (Cond.selects RX11 yX11_lacking yX11_lacking) ∈ wsL_law := inr_28 _ (List.mem_of_getElem? (i := 5) rfl)
theorem wd_28_6 : (Cond.code yX11_lacking cX11_lacking 3 (some .int)) ∈ wsL_law := inr_28 _ (List.mem_of_getElem? (i := 6) rfl)
theorem wd_28_7 : (Cond.methodLink RL 85 yX12_lacking) ∈ wsL_law := inr_28 _ (List.mem_of_getElem? (i := 7) rfl)
theorem wd_28_8 : (Cond.instanceMethod yX12_lacking) ∈ wsL_law := inr_28 _ (List.mem_of_getElem? (i := 8) rfl)
theorem wd_28_9 : (Cond.selects RX12 yX12_lacking yX12_lacking) ∈ wsL_law := inr_28 _ (List.mem_of_getElem? (i := 9) rfl)
theorem wd_28_10 : (Cond.code yX12_lacking cX12_lacking 3 (some .int)) ∈ wsL_law := inr_28 _ (List.mem_of_getElem? (i := 10) rfl)
theorem wd_28_11 : (Cond.methodLink RL 86 yX11_moves) ∈ wsL_law := inr_28 _ (List.mem_of_getElem? (i := 11) rfl)
theorem wd_28_12 : (Cond.instanceMethod yX11_moves) ∈ wsL_law := inr_28 _ (List.mem_of_getElem? (i := 12) rfl)
theorem wd_28_13 : (Cond.selects RX11 yX11_moves yX11_moves) ∈ wsL_law := inr_28 _ (List.mem_of_getElem? (i := 13) rfl)
theorem wd_28_14 : (Cond.code yX11_moves cX11_moves 1 (some .int)) ∈ wsL_law := inr_28 _ (List.mem_of_getElem? (i := 14) rfl)
theorem wd_28_15 : (Cond.methodLink RX11 225 yX11_planMoves) ∈ wsL_law := inr_28 _ (List.mem_of_getElem? (i := 15) rfl)
theorem wd_28_16 : (Cond.instanceMethod yX11_planMoves) ∈ wsL_law := inr_28 _ (List.mem_of_getElem? (i := 16) rfl)
theorem wd_28_17 : (Cond.selects RX11 yX11_planMoves yX11_planMoves) ∈ wsL_law := inr_28 _ (List.mem_of_getElem? (i := 17) rfl)
theorem wd_28_18 : (Cond.code yX11_planMoves cX11_planMoves 3 (some .boolean)) ∈ wsL_law := inr_28 _ (List.mem_of_getElem? (i := 18) rfl)
theorem wd_28_19 : (Cond.methodLink RX11 372 yX5_begin) ∈ wsL_law := inr_28 _ (List.mem_of_getElem? (i := 19) rfl)
theorem wd_28_20 : (Cond.instanceMethod yX5_begin) ∈ wsL_law := inr_28 _ (List.mem_of_getElem? (i := 20) rfl)
theorem wd_28_21 : (Cond.selects RX5 yX5_begin yX5_begin) ∈ wsL_law := inr_28 _ (List.mem_of_getElem? (i := 21) rfl)
theorem wd_28_22 : (Cond.code yX5_begin cX5_begin 4 none) ∈ wsL_law := inr_28 _ (List.mem_of_getElem? (i := 22) rfl)
theorem wd_28_23 : (Cond.fieldLink RX5 27 "SmallRooms$Planner" "able" "I") ∈ wsL_law := inr_28 _ (List.mem_of_getElem? (i := 23) rfl)
theorem wd_29_0 : (Cond.fieldLink RX5 33 "SmallRooms$Planner" "trained" "I") ∈ wsL_law := inr_29 _ (List.mem_of_getElem? (i := 0) rfl)
theorem wd_29_1 : (Cond.constant RX5 43 (2147483647)) ∈ wsL_law := inr_29 _ (List.mem_of_getElem? (i := 1) rfl)
theorem wd_29_2 : (Cond.methodLink RX5 21 yX1_able) ∈ wsL_law := inr_29 _ (List.mem_of_getElem? (i := 2) rfl)
theorem wd_29_3 : (Cond.instanceMethod yX1_able) ∈ wsL_law := inr_29 _ (List.mem_of_getElem? (i := 3) rfl)
theorem wd_29_4 : (Cond.selects RX1 yX1_able yX1_able) ∈ wsL_law := inr_29 _ (List.mem_of_getElem? (i := 4) rfl)
theorem wd_29_5 : (Cond.code yX1_able cX1_able 1 (some .int)) ∈ wsL_law := inr_29 _ (List.mem_of_getElem? (i := 5) rfl)
theorem wd_29_6 : (Cond.methodLink RX5 30 yX1_trained) ∈ wsL_law := inr_29 _ (List.mem_of_getElem? (i := 6) rfl)
theorem wd_29_7 : (Cond.methodLink RX5 35 yX5_sumWorths) ∈ wsL_law := inr_29 _ (List.mem_of_getElem? (i := 7) rfl)
theorem wd_29_8 : (Cond.instanceMethod yX5_sumWorths) ∈ wsL_law := inr_29 _ (List.mem_of_getElem? (i := 8) rfl)
theorem wd_29_9 : (Cond.selects RX5 yX5_sumWorths yX5_sumWorths) ∈ wsL_law := inr_29 _ (List.mem_of_getElem? (i := 9) rfl)
theorem wd_29_10 : (Cond.code yX5_sumWorths cX5_sumWorths 3 none) ∈ wsL_law := inr_29 _ (List.mem_of_getElem? (i := 10) rfl)
theorem wd_29_11 : (Cond.fieldLink RX5 44 "SmallRooms$Hands" "count" "I") ∈ wsL_law := inr_29 _ (List.mem_of_getElem? (i := 11) rfl)
theorem wd_29_12 : (Cond.methodLink RX5 47 yX1_worth) ∈ wsL_law := inr_29 _ (List.mem_of_getElem? (i := 12) rfl)
theorem wd_29_13 : (Cond.methodLink RX5 49 yX5_addForHand) ∈ wsL_law := inr_29 _ (List.mem_of_getElem? (i := 13) rfl)
theorem wd_29_14 : (Cond.static yX5_addForHand) ∈ wsL_law := inr_29 _ (List.mem_of_getElem? (i := 14) rfl)
theorem wd_29_15 : (Cond.code yX5_addForHand cX5_addForHand 5 none) ∈ wsL_law := inr_29 _ (List.mem_of_getElem? (i := 15) rfl)
theorem wd_29_16 : (Cond.methodLink RX5 39 yX1_inRoom) ∈ wsL_law := inr_29 _ (List.mem_of_getElem? (i := 16) rfl)
theorem wd_29_17 : (Cond.methodLink RX11 375 yX5_fill) ∈ wsL_law := inr_29 _ (List.mem_of_getElem? (i := 17) rfl)
theorem wd_29_18 : (Cond.instanceMethod yX5_fill) ∈ wsL_law := inr_29 _ (List.mem_of_getElem? (i := 18) rfl)
theorem wd_29_19 : (Cond.selects RX5 yX5_fill yX5_fill) ∈ wsL_law := inr_29 _ (List.mem_of_getElem? (i := 19) rfl)
theorem wd_29_20 : (Cond.code yX5_fill cX5_fill 7 none) ∈ wsL_law := inr_29 _ (List.mem_of_getElem? (i := 20) rfl)
theorem wd_29_21 : (Cond.methodLink RX5 60 yX5_sumCosts) ∈ wsL_law := inr_29 _ (List.mem_of_getElem? (i := 21) rfl)
theorem wd_29_22 : (Cond.instanceMethod yX5_sumCosts) ∈ wsL_law := inr_29 _ (List.mem_of_getElem? (i := 22) rfl)
theorem wd_29_23 : (Cond.selects RX5 yX5_sumCosts yX5_sumCosts) ∈ wsL_law := inr_29 _ (List.mem_of_getElem? (i := 23) rfl)
theorem wd_30_0 : (Cond.code yX5_sumCosts cX5_sumCosts 5 none) ∈ wsL_law := inr_30 _ (List.mem_of_getElem? (i := 0) rfl)
theorem wd_30_1 : (Cond.fieldLink RX5 53 "SmallRooms$Hands" "room" "[I") ∈ wsL_law := inr_30 _ (List.mem_of_getElem? (i := 1) rfl)
theorem wd_30_2 : (Cond.constant RX5 56 (279936)) ∈ wsL_law := inr_30 _ (List.mem_of_getElem? (i := 2) rfl)
theorem wd_30_3 : (Cond.fieldLink RX5 57 "SmallRooms$Planner" "DIGIT_OF_HAND" "[I") ∈ wsL_law := inr_30 _ (List.mem_of_getElem? (i := 3) rfl)
theorem wd_30_4 : (Cond.methodLink RX5 64 yX5_partsOf) ∈ wsL_law := inr_30 _ (List.mem_of_getElem? (i := 4) rfl)
theorem wd_30_5 : (Cond.static yX5_partsOf) ∈ wsL_law := inr_30 _ (List.mem_of_getElem? (i := 5) rfl)
theorem wd_30_6 : (Cond.code yX5_partsOf cX5_partsOf 1 (some .int)) ∈ wsL_law := inr_30 _ (List.mem_of_getElem? (i := 6) rfl)
theorem wd_30_7 : (Cond.methodLink RX5 77 yJ6_bitCount_0f7a4) ∈ wsL_law := inr_30 _ (List.mem_of_getElem? (i := 7) rfl)
theorem wd_30_8 : (Cond.methodLink RX5 67 yX5_leastWith) ∈ wsL_law := inr_30 _ (List.mem_of_getElem? (i := 8) rfl)
theorem wd_30_9 : (Cond.instanceMethod yX5_leastWith) ∈ wsL_law := inr_30 _ (List.mem_of_getElem? (i := 9) rfl)
theorem wd_30_10 : (Cond.selects RX5 yX5_leastWith yX5_leastWith) ∈ wsL_law := inr_30 _ (List.mem_of_getElem? (i := 10) rfl)
theorem wd_30_11 : (Cond.code yX5_leastWith cX5_leastWith 9 (some .int)) ∈ wsL_law := inr_30 _ (List.mem_of_getElem? (i := 11) rfl)
theorem wd_30_12 : (Cond.methodLink RX5 71 Lib.Math.min.name) ∈ wsL_law := inr_30 _ (List.mem_of_getElem? (i := 12) rfl)
theorem wd_30_13 : (Cond.methodLink RX11 379 yX5_isPossible) ∈ wsL_law := inr_30 _ (List.mem_of_getElem? (i := 13) rfl)
theorem wd_30_14 : (Cond.instanceMethod yX5_isPossible) ∈ wsL_law := inr_30 _ (List.mem_of_getElem? (i := 14) rfl)
theorem wd_30_15 : (Cond.selects RX5 yX5_isPossible yX5_isPossible) ∈ wsL_law := inr_30 _ (List.mem_of_getElem? (i := 15) rfl)
theorem wd_30_16 : (Cond.code yX5_isPossible cX5_isPossible 1 (some .boolean)) ∈ wsL_law := inr_30 _ (List.mem_of_getElem? (i := 16) rfl)
theorem wd_30_17 : (Cond.methodLink RX11 229 yX5_movedHands) ∈ wsL_law := inr_30 _ (List.mem_of_getElem? (i := 17) rfl)
theorem wd_30_18 : (Cond.instanceMethod yX5_movedHands) ∈ wsL_law := inr_30 _ (List.mem_of_getElem? (i := 18) rfl)
theorem wd_30_19 : (Cond.selects RX5 yX5_movedHands yX5_movedHands) ∈ wsL_law := inr_30 _ (List.mem_of_getElem? (i := 19) rfl)
theorem wd_30_20 : (Cond.code yX5_movedHands cX5_movedHands 1 (some .int)) ∈ wsL_law := inr_30 _ (List.mem_of_getElem? (i := 20) rfl)
theorem wd_30_21 : (Cond.methodLink RL 89 yX12_moves) ∈ wsL_law := inr_30 _ (List.mem_of_getElem? (i := 21) rfl)
theorem wd_30_22 : (Cond.instanceMethod yX12_moves) ∈ wsL_law := inr_30 _ (List.mem_of_getElem? (i := 22) rfl)
theorem wd_30_23 : (Cond.selects RX12 yX12_moves yX12_moves) ∈ wsL_law := inr_30 _ (List.mem_of_getElem? (i := 23) rfl)
theorem wd_31_0 : (Cond.code yX12_moves cX12_moves 1 (some .int)) ∈ wsL_law := inr_31 _ (List.mem_of_getElem? (i := 0) rfl)
theorem wd_31_1 : (Cond.fieldLink RX12 145 "SmallRoomsModel" "fewest" "I") ∈ wsL_law := inr_31 _ (List.mem_of_getElem? (i := 1) rfl)
theorem wd_31_2 : (Cond.methodLink RX12 151 yX12_findMoves) ∈ wsL_law := inr_31 _ (List.mem_of_getElem? (i := 2) rfl)
theorem wd_31_3 : (Cond.instanceMethod yX12_findMoves) ∈ wsL_law := inr_31 _ (List.mem_of_getElem? (i := 3) rfl)
theorem wd_31_4 : (Cond.selects RX12 yX12_findMoves yX12_findMoves) ∈ wsL_law := inr_31 _ (List.mem_of_getElem? (i := 4) rfl)
theorem wd_31_5 : (Cond.code yX12_findMoves cX12_findMoves 2 (some .boolean)) ∈ wsL_law := inr_31 _ (List.mem_of_getElem? (i := 5) rfl)
theorem wd_31_6 : (Cond.methodLink RX12 148 yX12_tries) ∈ wsL_law := inr_31 _ (List.mem_of_getElem? (i := 6) rfl)
theorem wd_31_7 : (Cond.instanceMethod yX12_tries) ∈ wsL_law := inr_31 _ (List.mem_of_getElem? (i := 7) rfl)
theorem wd_31_8 : (Cond.selects RX12 yX12_tries yX12_tries) ∈ wsL_law := inr_31 _ (List.mem_of_getElem? (i := 8) rfl)
theorem wd_31_9 : (Cond.code yX12_tries cX12_tries 5 none) ∈ wsL_law := inr_31 _ (List.mem_of_getElem? (i := 9) rfl)
theorem wd_31_10 : (Cond.methodLink RL 90 yX11_moved) ∈ wsL_law := inr_31 _ (List.mem_of_getElem? (i := 10) rfl)
theorem wd_31_11 : (Cond.instanceMethod yX11_moved) ∈ wsL_law := inr_31 _ (List.mem_of_getElem? (i := 11) rfl)
theorem wd_31_12 : (Cond.selects RX11 yX11_moved yX11_moved) ∈ wsL_law := inr_31 _ (List.mem_of_getElem? (i := 12) rfl)
theorem wd_31_13 : (Cond.code yX11_moved cX11_moved 2 (some .int)) ∈ wsL_law := inr_31 _ (List.mem_of_getElem? (i := 13) rfl)
theorem wd_31_14 : (Cond.methodLink RX11 232 yX5_roomFor) ∈ wsL_law := inr_31 _ (List.mem_of_getElem? (i := 14) rfl)
theorem wd_31_15 : (Cond.instanceMethod yX5_roomFor) ∈ wsL_law := inr_31 _ (List.mem_of_getElem? (i := 15) rfl)
theorem wd_31_16 : (Cond.selects RX5 yX5_roomFor yX5_roomFor) ∈ wsL_law := inr_31 _ (List.mem_of_getElem? (i := 16) rfl)
theorem wd_31_17 : (Cond.code yX5_roomFor cX5_roomFor 2 (some .int)) ∈ wsL_law := inr_31 _ (List.mem_of_getElem? (i := 17) rfl)
theorem wd_31_18 : (Cond.methodLink RL 93 yX12_moved) ∈ wsL_law := inr_31 _ (List.mem_of_getElem? (i := 18) rfl)
theorem wd_31_19 : (Cond.instanceMethod yX12_moved) ∈ wsL_law := inr_31 _ (List.mem_of_getElem? (i := 19) rfl)
theorem wd_31_20 : (Cond.selects RX12 yX12_moved yX12_moved) ∈ wsL_law := inr_31 _ (List.mem_of_getElem? (i := 20) rfl)
theorem wd_31_21 : (Cond.code yX12_moved cX12_moved 2 (some .int)) ∈ wsL_law := inr_31 _ (List.mem_of_getElem? (i := 21) rfl)
theorem wd_31_22 : (Cond.methodLink RL 94 yX11_move) ∈ wsL_law := inr_31 _ (List.mem_of_getElem? (i := 22) rfl)
theorem wd_31_23 : (Cond.instanceMethod yX11_move) ∈ wsL_law := inr_31 _ (List.mem_of_getElem? (i := 23) rfl)
theorem wd_32_0 : (Cond.selects RX11 yX11_move yX11_move) ∈ wsL_law := inr_32 _ (List.mem_of_getElem? (i := 0) rfl)
theorem wd_32_1 : (Cond.code yX11_move cX11_move 2 (some .int)) ∈ wsL_law := inr_32 _ (List.mem_of_getElem? (i := 1) rfl)
theorem wd_32_2 : (Cond.methodLink RL 97 yX12_move) ∈ wsL_law := inr_32 _ (List.mem_of_getElem? (i := 2) rfl)
theorem wd_32_3 : (Cond.instanceMethod yX12_move) ∈ wsL_law := inr_32 _ (List.mem_of_getElem? (i := 3) rfl)
theorem wd_32_4 : (Cond.selects RX12 yX12_move yX12_move) ∈ wsL_law := inr_32 _ (List.mem_of_getElem? (i := 4) rfl)
theorem wd_32_5 : (Cond.code yX12_move cX12_move 2 (some .int)) ∈ wsL_law := inr_32 _ (List.mem_of_getElem? (i := 5) rfl)
theorem wd_32_6 : (Cond.methodLink RL 98 yX11_roll) ∈ wsL_law := inr_32 _ (List.mem_of_getElem? (i := 6) rfl)
theorem wd_32_7 : (Cond.instanceMethod yX11_roll) ∈ wsL_law := inr_32 _ (List.mem_of_getElem? (i := 7) rfl)
theorem wd_32_8 : (Cond.selects RX11 yX11_roll yX11_roll) ∈ wsL_law := inr_32 _ (List.mem_of_getElem? (i := 8) rfl)
theorem wd_32_9 : (Cond.code yX11_roll cX11_roll 5 (some .int)) ∈ wsL_law := inr_32 _ (List.mem_of_getElem? (i := 9) rfl)
theorem wd_32_10 : (Cond.methodLink RX11 235 yX3_wasIn) ∈ wsL_law := inr_32 _ (List.mem_of_getElem? (i := 10) rfl)
theorem wd_32_11 : (Cond.instanceMethod yX3_wasIn) ∈ wsL_law := inr_32 _ (List.mem_of_getElem? (i := 11) rfl)
theorem wd_32_12 : (Cond.selects RX3 yX3_wasIn yX3_wasIn) ∈ wsL_law := inr_32 _ (List.mem_of_getElem? (i := 12) rfl)
theorem wd_32_13 : (Cond.code yX3_wasIn cX3_wasIn 5 (some .boolean)) ∈ wsL_law := inr_32 _ (List.mem_of_getElem? (i := 13) rfl)
theorem wd_32_14 : (Cond.methodLink RL 101 yX12_roll) ∈ wsL_law := inr_32 _ (List.mem_of_getElem? (i := 14) rfl)
theorem wd_32_15 : (Cond.instanceMethod yX12_roll) ∈ wsL_law := inr_32 _ (List.mem_of_getElem? (i := 15) rfl)
theorem wd_32_16 : (Cond.selects RX12 yX12_roll yX12_roll) ∈ wsL_law := inr_32 _ (List.mem_of_getElem? (i := 16) rfl)
theorem wd_32_17 : (Cond.code yX12_roll cX12_roll 5 (some .int)) ∈ wsL_law := inr_32 _ (List.mem_of_getElem? (i := 17) rfl)
theorem wd_32_18 : (Cond.methodLink RX12 155 yX12_wasIn) ∈ wsL_law := inr_32 _ (List.mem_of_getElem? (i := 18) rfl)
theorem wd_32_19 : (Cond.instanceMethod yX12_wasIn) ∈ wsL_law := inr_32 _ (List.mem_of_getElem? (i := 19) rfl)
theorem wd_32_20 : (Cond.selects RX12 yX12_wasIn yX12_wasIn) ∈ wsL_law := inr_32 _ (List.mem_of_getElem? (i := 20) rfl)
theorem wd_32_21 : (Cond.code yX12_wasIn cX12_wasIn 5 (some .boolean)) ∈ wsL_law := inr_32 _ (List.mem_of_getElem? (i := 21) rfl)
theorem wd_32_22 : (Cond.methodLink RL 102 yX11_sleeps) ∈ wsL_law := inr_32 _ (List.mem_of_getElem? (i := 22) rfl)
theorem wd_32_23 : (Cond.instanceMethod yX11_sleeps) ∈ wsL_law := inr_32 _ (List.mem_of_getElem? (i := 23) rfl)
theorem wd_33_0 : (Cond.selects RX11 yX11_sleeps yX11_sleeps) ∈ wsL_law := inr_33 _ (List.mem_of_getElem? (i := 0) rfl)
theorem wd_33_1 : (Cond.code yX11_sleeps cX11_sleeps 4 (some .int)) ∈ wsL_law := inr_33 _ (List.mem_of_getElem? (i := 1) rfl)
theorem wd_33_2 : (Cond.fieldLink RX11 238 "SmallRooms$Nursery" "sleep" "LSmallRooms$Log;") ∈ wsL_law := inr_33 _ (List.mem_of_getElem? (i := 2) rfl)
theorem wd_33_3 : (Cond.methodLink RL 106 yX12_sleeps) ∈ wsL_law := inr_33 _ (List.mem_of_getElem? (i := 3) rfl)
theorem wd_33_4 : (Cond.instanceMethod yX12_sleeps) ∈ wsL_law := inr_33 _ (List.mem_of_getElem? (i := 4) rfl)
theorem wd_33_5 : (Cond.selects RX12 yX12_sleeps yX12_sleeps) ∈ wsL_law := inr_33 _ (List.mem_of_getElem? (i := 5) rfl)
theorem wd_33_6 : (Cond.code yX12_sleeps cX12_sleeps 4 (some .int)) ∈ wsL_law := inr_33 _ (List.mem_of_getElem? (i := 6) rfl)
theorem wd_33_7 : (Cond.methodLink RL 107 yX11_look) ∈ wsL_law := inr_33 _ (List.mem_of_getElem? (i := 7) rfl)
theorem wd_33_8 : (Cond.instanceMethod yX11_look) ∈ wsL_law := inr_33 _ (List.mem_of_getElem? (i := 8) rfl)
theorem wd_33_9 : (Cond.selects RX11 yX11_look yX11_look) ∈ wsL_law := inr_33 _ (List.mem_of_getElem? (i := 9) rfl)
theorem wd_33_10 : (Cond.code yX11_look cX11_look 2 (some .int)) ∈ wsL_law := inr_33 _ (List.mem_of_getElem? (i := 10) rfl)
theorem wd_33_11 : (Cond.methodLink RX11 241 yX3_countOf) ∈ wsL_law := inr_33 _ (List.mem_of_getElem? (i := 11) rfl)
theorem wd_33_12 : (Cond.instanceMethod yX3_countOf) ∈ wsL_law := inr_33 _ (List.mem_of_getElem? (i := 12) rfl)
theorem wd_33_13 : (Cond.selects RX3 yX3_countOf yX3_countOf) ∈ wsL_law := inr_33 _ (List.mem_of_getElem? (i := 13) rfl)
theorem wd_33_14 : (Cond.code yX3_countOf cX3_countOf 4 (some .int)) ∈ wsL_law := inr_33 _ (List.mem_of_getElem? (i := 14) rfl)
theorem wd_33_15 : (Cond.methodLink RL 110 yX12_look) ∈ wsL_law := inr_33 _ (List.mem_of_getElem? (i := 15) rfl)
theorem wd_33_16 : (Cond.instanceMethod yX12_look) ∈ wsL_law := inr_33 _ (List.mem_of_getElem? (i := 16) rfl)
theorem wd_33_17 : (Cond.selects RX12 yX12_look yX12_look) ∈ wsL_law := inr_33 _ (List.mem_of_getElem? (i := 17) rfl)
theorem wd_33_18 : (Cond.code yX12_look cX12_look 4 (some .int)) ∈ wsL_law := inr_33 _ (List.mem_of_getElem? (i := 18) rfl)
theorem wd_33_19 : (Cond.methodLink RL 111 yX11_missed) ∈ wsL_law := inr_33 _ (List.mem_of_getElem? (i := 19) rfl)
theorem wd_33_20 : (Cond.instanceMethod yX11_missed) ∈ wsL_law := inr_33 _ (List.mem_of_getElem? (i := 20) rfl)
theorem wd_33_21 : (Cond.selects RX11 yX11_missed yX11_missed) ∈ wsL_law := inr_33 _ (List.mem_of_getElem? (i := 21) rfl)
theorem wd_33_22 : (Cond.code yX11_missed cX11_missed 4 (some .int)) ∈ wsL_law := inr_33 _ (List.mem_of_getElem? (i := 22) rfl)
theorem wd_33_23 : (Cond.methodLink RX11 244 yX3_missedOf) ∈ wsL_law := inr_33 _ (List.mem_of_getElem? (i := 23) rfl)
theorem wd_34_0 : (Cond.instanceMethod yX3_missedOf) ∈ wsL_law := inr_34 _ (List.mem_of_getElem? (i := 0) rfl)
theorem wd_34_1 : (Cond.selects RX3 yX3_missedOf yX3_missedOf) ∈ wsL_law := inr_34 _ (List.mem_of_getElem? (i := 1) rfl)
theorem wd_34_2 : (Cond.code yX3_missedOf cX3_missedOf 5 (some .int)) ∈ wsL_law := inr_34 _ (List.mem_of_getElem? (i := 2) rfl)
theorem wd_34_3 : (Cond.methodLink RX3 38 yX3_isMissedFrom) ∈ wsL_law := inr_34 _ (List.mem_of_getElem? (i := 3) rfl)
theorem wd_34_4 : (Cond.instanceMethod yX3_isMissedFrom) ∈ wsL_law := inr_34 _ (List.mem_of_getElem? (i := 4) rfl)
theorem wd_34_5 : (Cond.selects RX3 yX3_isMissedFrom yX3_isMissedFrom) ∈ wsL_law := inr_34 _ (List.mem_of_getElem? (i := 5) rfl)
theorem wd_34_6 : (Cond.code yX3_isMissedFrom cX3_isMissedFrom 5 (some .boolean)) ∈ wsL_law := inr_34 _ (List.mem_of_getElem? (i := 6) rfl)
theorem wd_34_7 : (Cond.methodLink RX11 247 yX3_firstMissedOf) ∈ wsL_law := inr_34 _ (List.mem_of_getElem? (i := 7) rfl)
theorem wd_34_8 : (Cond.instanceMethod yX3_firstMissedOf) ∈ wsL_law := inr_34 _ (List.mem_of_getElem? (i := 8) rfl)
theorem wd_34_9 : (Cond.selects RX3 yX3_firstMissedOf yX3_firstMissedOf) ∈ wsL_law := inr_34 _ (List.mem_of_getElem? (i := 9) rfl)
theorem wd_34_10 : (Cond.code yX3_firstMissedOf cX3_firstMissedOf 4 (some .int)) ∈ wsL_law := inr_34 _ (List.mem_of_getElem? (i := 10) rfl)
theorem wd_34_11 : (Cond.methodLink RL 114 yX12_missed) ∈ wsL_law := inr_34 _ (List.mem_of_getElem? (i := 11) rfl)
theorem wd_34_12 : (Cond.instanceMethod yX12_missed) ∈ wsL_law := inr_34 _ (List.mem_of_getElem? (i := 12) rfl)
theorem wd_34_13 : (Cond.selects RX12 yX12_missed yX12_missed) ∈ wsL_law := inr_34 _ (List.mem_of_getElem? (i := 13) rfl)
theorem wd_34_14 : (Cond.code yX12_missed cX12_missed 9 (some .int)) ∈ wsL_law := inr_34 _ (List.mem_of_getElem? (i := 14) rfl)
theorem wd_34_15 : (Cond.methodLink RL 115 yX11_needed) ∈ wsL_law := inr_34 _ (List.mem_of_getElem? (i := 15) rfl)
theorem wd_34_16 : (Cond.instanceMethod yX11_needed) ∈ wsL_law := inr_34 _ (List.mem_of_getElem? (i := 16) rfl)
theorem wd_34_17 : (Cond.selects RX11 yX11_needed yX11_needed) ∈ wsL_law := inr_34 _ (List.mem_of_getElem? (i := 17) rfl)
theorem wd_34_18 : (Cond.code yX11_needed cX11_needed 5 (some .int)) ∈ wsL_law := inr_34 _ (List.mem_of_getElem? (i := 18) rfl)
theorem wd_34_19 : (Cond.fieldLink RX11 250 "SmallRooms$Nursery" "needed" "[I") ∈ wsL_law := inr_34 _ (List.mem_of_getElem? (i := 19) rfl)
theorem wd_34_20 : (Cond.methodLink RL 119 yX12_needed) ∈ wsL_law := inr_34 _ (List.mem_of_getElem? (i := 20) rfl)
theorem wd_34_21 : (Cond.instanceMethod yX12_needed) ∈ wsL_law := inr_34 _ (List.mem_of_getElem? (i := 21) rfl)
theorem wd_34_22 : (Cond.selects RX12 yX12_needed yX12_needed) ∈ wsL_law := inr_34 _ (List.mem_of_getElem? (i := 22) rfl)
theorem wd_34_23 : (Cond.code yX12_needed cX12_needed 5 (some .int)) ∈ wsL_law := inr_34 _ (List.mem_of_getElem? (i := 23) rfl)
theorem wd_35_0 : (Cond.methodLink RL 120 yX11_longer) ∈ wsL_law := inr_35 _ (List.mem_of_getElem? (i := 0) rfl)
theorem wd_35_1 : (Cond.instanceMethod yX11_longer) ∈ wsL_law := inr_35 _ (List.mem_of_getElem? (i := 1) rfl)
theorem wd_35_2 : (Cond.selects RX11 yX11_longer yX11_longer) ∈ wsL_law := inr_35 _ (List.mem_of_getElem? (i := 2) rfl)
theorem wd_35_3 : (Cond.code yX11_longer cX11_longer 3 (some .int)) ∈ wsL_law := inr_35 _ (List.mem_of_getElem? (i := 3) rfl)
theorem wd_35_4 : (Cond.fieldLink RX11 253 "SmallRooms$Nursery" "longSlots" "I") ∈ wsL_law := inr_35 _ (List.mem_of_getElem? (i := 4) rfl)
theorem wd_35_5 : (Cond.methodLink RL 123 yX12_longer) ∈ wsL_law := inr_35 _ (List.mem_of_getElem? (i := 5) rfl)
theorem wd_35_6 : (Cond.instanceMethod yX12_longer) ∈ wsL_law := inr_35 _ (List.mem_of_getElem? (i := 6) rfl)
theorem wd_35_7 : (Cond.selects RX12 yX12_longer yX12_longer) ∈ wsL_law := inr_35 _ (List.mem_of_getElem? (i := 7) rfl)
theorem wd_35_8 : (Cond.code yX12_longer cX12_longer 3 (some .int)) ∈ wsL_law := inr_35 _ (List.mem_of_getElem? (i := 8) rfl)
theorem wd_35_9 : (Cond.methodLink RL 124 yX11_shifts) ∈ wsL_law := inr_35 _ (List.mem_of_getElem? (i := 9) rfl)
theorem wd_35_10 : (Cond.instanceMethod yX11_shifts) ∈ wsL_law := inr_35 _ (List.mem_of_getElem? (i := 10) rfl)
theorem wd_35_11 : (Cond.selects RX11 yX11_shifts yX11_shifts) ∈ wsL_law := inr_35 _ (List.mem_of_getElem? (i := 11) rfl)
theorem wd_35_12 : (Cond.code yX11_shifts cX11_shifts 3 (some .int)) ∈ wsL_law := inr_35 _ (List.mem_of_getElem? (i := 12) rfl)
theorem wd_35_13 : (Cond.methodLink RX11 256 yX10_plan) ∈ wsL_law := inr_35 _ (List.mem_of_getElem? (i := 13) rfl)
theorem wd_35_14 : (Cond.instanceMethod yX10_plan) ∈ wsL_law := inr_35 _ (List.mem_of_getElem? (i := 14) rfl)
theorem wd_35_15 : (Cond.selects RX10 yX10_plan yX10_plan) ∈ wsL_law := inr_35 _ (List.mem_of_getElem? (i := 15) rfl)
theorem wd_35_16 : (Cond.code yX10_plan cX10_plan 7 (some .int)) ∈ wsL_law := inr_35 _ (List.mem_of_getElem? (i := 16) rfl)
theorem wd_35_17 : (Cond.methodLink RX10 25 Lib.Math.max.name) ∈ wsL_law := inr_35 _ (List.mem_of_getElem? (i := 17) rfl)
theorem wd_35_18 : (Cond.static Lib.Math.max.name) ∈ wsL_law := inr_35 _ (List.mem_of_getElem? (i := 18) rfl)
theorem wd_35_19 : (Cond.code Lib.Math.max.name Lib.Math.max.code 2 (some .int)) ∈ wsL_law := inr_35 _ (List.mem_of_getElem? (i := 19) rfl)
theorem wd_35_20 : (Cond.methodLink RX10 30 Lib.Math.min.name) ∈ wsL_law := inr_35 _ (List.mem_of_getElem? (i := 20) rfl)
theorem wd_35_21 : (Cond.methodLink RX10 15 yJ7_fill_53178) ∈ wsL_law := inr_35 _ (List.mem_of_getElem? (i := 21) rfl)
theorem wd_35_22 : (Cond.methodLink RX10 21 yX10_endedAt) ∈ wsL_law := inr_35 _ (List.mem_of_getElem? (i := 22) rfl)
theorem wd_35_23 : (Cond.instanceMethod yX10_endedAt) ∈ wsL_law := inr_35 _ (List.mem_of_getElem? (i := 23) rfl)
theorem wd_36_0 : (Cond.selects RX10 yX10_endedAt yX10_endedAt) ∈ wsL_law := inr_36 _ (List.mem_of_getElem? (i := 0) rfl)
theorem wd_36_1 : (Cond.code yX10_endedAt cX10_endedAt 3 (some .int)) ∈ wsL_law := inr_36 _ (List.mem_of_getElem? (i := 1) rfl)
theorem wd_36_2 : (Cond.methodLink RX11 260 yX10_beginOf) ∈ wsL_law := inr_36 _ (List.mem_of_getElem? (i := 2) rfl)
theorem wd_36_3 : (Cond.instanceMethod yX10_beginOf) ∈ wsL_law := inr_36 _ (List.mem_of_getElem? (i := 3) rfl)
theorem wd_36_4 : (Cond.selects RX10 yX10_beginOf yX10_beginOf) ∈ wsL_law := inr_36 _ (List.mem_of_getElem? (i := 4) rfl)
theorem wd_36_5 : (Cond.code yX10_beginOf cX10_beginOf 4 (some .int)) ∈ wsL_law := inr_36 _ (List.mem_of_getElem? (i := 5) rfl)
theorem wd_36_6 : (Cond.methodLink RL 127 yX12_shifts) ∈ wsL_law := inr_36 _ (List.mem_of_getElem? (i := 6) rfl)
theorem wd_36_7 : (Cond.instanceMethod yX12_shifts) ∈ wsL_law := inr_36 _ (List.mem_of_getElem? (i := 7) rfl)
theorem wd_36_8 : (Cond.selects RX12 yX12_shifts yX12_shifts) ∈ wsL_law := inr_36 _ (List.mem_of_getElem? (i := 8) rfl)
theorem wd_36_9 : (Cond.code yX12_shifts cX12_shifts 2 (some .int)) ∈ wsL_law := inr_36 _ (List.mem_of_getElem? (i := 9) rfl)
theorem wd_36_10 : (Cond.fieldLink RX12 158 "SmallRoomsModel" "shiftMany" "I") ∈ wsL_law := inr_36 _ (List.mem_of_getElem? (i := 10) rfl)
theorem wd_36_11 : (Cond.methodLink RX12 165 yX12_findShifts) ∈ wsL_law := inr_36 _ (List.mem_of_getElem? (i := 11) rfl)
theorem wd_36_12 : (Cond.instanceMethod yX12_findShifts) ∈ wsL_law := inr_36 _ (List.mem_of_getElem? (i := 12) rfl)
theorem wd_36_13 : (Cond.selects RX12 yX12_findShifts yX12_findShifts) ∈ wsL_law := inr_36 _ (List.mem_of_getElem? (i := 13) rfl)
theorem wd_36_14 : (Cond.code yX12_findShifts cX12_findShifts 3 none) ∈ wsL_law := inr_36 _ (List.mem_of_getElem? (i := 14) rfl)
theorem wd_36_15 : (Cond.methodLink RX12 161 yX12_putShift) ∈ wsL_law := inr_36 _ (List.mem_of_getElem? (i := 15) rfl)
theorem wd_36_16 : (Cond.instanceMethod yX12_putShift) ∈ wsL_law := inr_36 _ (List.mem_of_getElem? (i := 16) rfl)
theorem wd_36_17 : (Cond.selects RX12 yX12_putShift yX12_putShift) ∈ wsL_law := inr_36 _ (List.mem_of_getElem? (i := 17) rfl)
theorem wd_36_18 : (Cond.code yX12_putShift cX12_putShift 3 none) ∈ wsL_law := inr_36 _ (List.mem_of_getElem? (i := 18) rfl)
theorem wd_36_19 : (Cond.methodLink RL 128 yX11_proves) ∈ wsL_law := inr_36 _ (List.mem_of_getElem? (i := 19) rfl)
theorem wd_36_20 : (Cond.instanceMethod yX11_proves) ∈ wsL_law := inr_36 _ (List.mem_of_getElem? (i := 20) rfl)
theorem wd_36_21 : (Cond.selects RX11 yX11_proves yX11_proves) ∈ wsL_law := inr_36 _ (List.mem_of_getElem? (i := 21) rfl)
theorem wd_36_22 : (Cond.code yX11_proves cX11_proves 6 (some .int)) ∈ wsL_law := inr_36 _ (List.mem_of_getElem? (i := 22) rfl)
theorem wd_36_23 : (Cond.fieldLink RX11 279 "SmallRooms$Sheet" "size" "I") ∈ wsL_law := inr_36 _ (List.mem_of_getElem? (i := 23) rfl)
theorem wd_37_0 : (Cond.methodLink RX11 263 yX11_sheetFinding) ∈ wsL_law := inr_37 _ (List.mem_of_getElem? (i := 0) rfl)
theorem wd_37_1 : (Cond.instanceMethod yX11_sheetFinding) ∈ wsL_law := inr_37 _ (List.mem_of_getElem? (i := 1) rfl)
theorem wd_37_2 : (Cond.selects RX11 yX11_sheetFinding yX11_sheetFinding) ∈ wsL_law := inr_37 _ (List.mem_of_getElem? (i := 2) rfl)
theorem wd_37_3 : (Cond.code yX11_sheetFinding cX11_sheetFinding 2 (some .int)) ∈ wsL_law := inr_37 _ (List.mem_of_getElem? (i := 3) rfl)
theorem wd_37_4 : (Cond.constant RX11 342 (-100002)) ∈ wsL_law := inr_37 _ (List.mem_of_getElem? (i := 4) rfl)
theorem wd_37_5 : (Cond.methodLink RX11 329 yX11_isSheet) ∈ wsL_law := inr_37 _ (List.mem_of_getElem? (i := 5) rfl)
theorem wd_37_6 : (Cond.static yX11_isSheet) ∈ wsL_law := inr_37 _ (List.mem_of_getElem? (i := 6) rfl)
theorem wd_37_7 : (Cond.code yX11_isSheet cX11_isSheet 1 (some .boolean)) ∈ wsL_law := inr_37 _ (List.mem_of_getElem? (i := 7) rfl)
theorem wd_37_8 : (Cond.methodLink RX11 339 yX9_isMissing) ∈ wsL_law := inr_37 _ (List.mem_of_getElem? (i := 8) rfl)
theorem wd_37_9 : (Cond.instanceMethod yX9_isMissing) ∈ wsL_law := inr_37 _ (List.mem_of_getElem? (i := 9) rfl)
theorem wd_37_10 : (Cond.selects RX9 yX9_isMissing yX9_isMissing) ∈ wsL_law := inr_37 _ (List.mem_of_getElem? (i := 10) rfl)
theorem wd_37_11 : (Cond.code yX9_isMissing cX9_isMissing 1 (some .boolean)) ∈ wsL_law := inr_37 _ (List.mem_of_getElem? (i := 11) rfl)
theorem wd_37_12 : (Cond.fieldLink RX9 15 "SmallRooms$Sheet" "bits" "I") ∈ wsL_law := inr_37 _ (List.mem_of_getElem? (i := 12) rfl)
theorem wd_37_13 : (Cond.methodLink RX11 266 yX9_rises) ∈ wsL_law := inr_37 _ (List.mem_of_getElem? (i := 13) rfl)
theorem wd_37_14 : (Cond.instanceMethod yX9_rises) ∈ wsL_law := inr_37 _ (List.mem_of_getElem? (i := 14) rfl)
theorem wd_37_15 : (Cond.selects RX9 yX9_rises yX9_rises) ∈ wsL_law := inr_37 _ (List.mem_of_getElem? (i := 15) rfl)
theorem wd_37_16 : (Cond.code yX9_rises cX9_rises 2 (some .boolean)) ∈ wsL_law := inr_37 _ (List.mem_of_getElem? (i := 16) rfl)
theorem wd_37_17 : (Cond.fieldLink RX9 19 "SmallRooms$Sheet" "size" "I") ∈ wsL_law := inr_37 _ (List.mem_of_getElem? (i := 17) rfl)
theorem wd_37_18 : (Cond.methodLink RX11 269 yX9_isAllWithin) ∈ wsL_law := inr_37 _ (List.mem_of_getElem? (i := 18) rfl)
theorem wd_37_19 : (Cond.instanceMethod yX9_isAllWithin) ∈ wsL_law := inr_37 _ (List.mem_of_getElem? (i := 19) rfl)
theorem wd_37_20 : (Cond.selects RX9 yX9_isAllWithin yX9_isAllWithin) ∈ wsL_law := inr_37 _ (List.mem_of_getElem? (i := 20) rfl)
theorem wd_37_21 : (Cond.code yX9_isAllWithin cX9_isAllWithin 4 (some .boolean)) ∈ wsL_law := inr_37 _ (List.mem_of_getElem? (i := 21) rfl)
theorem wd_37_22 : (Cond.methodLink RX11 272 yX10_take) ∈ wsL_law := inr_37 _ (List.mem_of_getElem? (i := 22) rfl)
theorem wd_37_23 : (Cond.instanceMethod yX10_take) ∈ wsL_law := inr_37 _ (List.mem_of_getElem? (i := 23) rfl)
theorem wd_38_0 : (Cond.selects RX10 yX10_take yX10_take) ∈ wsL_law := inr_38 _ (List.mem_of_getElem? (i := 0) rfl)
theorem wd_38_1 : (Cond.code yX10_take cX10_take 3 none) ∈ wsL_law := inr_38 _ (List.mem_of_getElem? (i := 1) rfl)
theorem wd_38_2 : (Cond.fieldLink RX10 33 "SmallRooms$Sheet" "size" "I") ∈ wsL_law := inr_38 _ (List.mem_of_getElem? (i := 2) rfl)
theorem wd_38_3 : (Cond.fieldLink RX10 39 "SmallRooms$Sheet" "numbers" "[I") ∈ wsL_law := inr_38 _ (List.mem_of_getElem? (i := 3) rfl)
theorem wd_38_4 : (Cond.methodLink RX11 276 yX10_firstLacking) ∈ wsL_law := inr_38 _ (List.mem_of_getElem? (i := 4) rfl)
theorem wd_38_5 : (Cond.instanceMethod yX10_firstLacking) ∈ wsL_law := inr_38 _ (List.mem_of_getElem? (i := 5) rfl)
theorem wd_38_6 : (Cond.selects RX10 yX10_firstLacking yX10_firstLacking) ∈ wsL_law := inr_38 _ (List.mem_of_getElem? (i := 6) rfl)
theorem wd_38_7 : (Cond.code yX10_firstLacking cX10_firstLacking 5 (some .int)) ∈ wsL_law := inr_38 _ (List.mem_of_getElem? (i := 7) rfl)
theorem wd_38_8 : (Cond.methodLink RL 131 yX12_proves) ∈ wsL_law := inr_38 _ (List.mem_of_getElem? (i := 8) rfl)
theorem wd_38_9 : (Cond.instanceMethod yX12_proves) ∈ wsL_law := inr_38 _ (List.mem_of_getElem? (i := 9) rfl)
theorem wd_38_10 : (Cond.selects RX12 yX12_proves yX12_proves) ∈ wsL_law := inr_38 _ (List.mem_of_getElem? (i := 10) rfl)
theorem wd_38_11 : (Cond.code yX12_proves cX12_proves 4 (some .int)) ∈ wsL_law := inr_38 _ (List.mem_of_getElem? (i := 11) rfl)
theorem wd_38_12 : (Cond.methodLink RX12 168 yX12_isSheet) ∈ wsL_law := inr_38 _ (List.mem_of_getElem? (i := 12) rfl)
theorem wd_38_13 : (Cond.static yX12_isSheet) ∈ wsL_law := inr_38 _ (List.mem_of_getElem? (i := 13) rfl)
theorem wd_38_14 : (Cond.code yX12_isSheet cX12_isSheet 1 (some .boolean)) ∈ wsL_law := inr_38 _ (List.mem_of_getElem? (i := 14) rfl)
theorem wd_38_15 : (Cond.methodLink RL 132 yX11_waits) ∈ wsL_law := inr_38 _ (List.mem_of_getElem? (i := 15) rfl)
theorem wd_38_16 : (Cond.instanceMethod yX11_waits) ∈ wsL_law := inr_38 _ (List.mem_of_getElem? (i := 16) rfl)
theorem wd_38_17 : (Cond.selects RX11 yX11_waits yX11_waits) ∈ wsL_law := inr_38 _ (List.mem_of_getElem? (i := 17) rfl)
theorem wd_38_18 : (Cond.code yX11_waits cX11_waits 2 (some .int)) ∈ wsL_law := inr_38 _ (List.mem_of_getElem? (i := 18) rfl)
theorem wd_38_19 : (Cond.fieldLink RX11 288 "SmallRooms$Children" "waiters" "I") ∈ wsL_law := inr_38 _ (List.mem_of_getElem? (i := 19) rfl)
theorem wd_38_20 : (Cond.methodLink RX11 282 yX0_isWaiting) ∈ wsL_law := inr_38 _ (List.mem_of_getElem? (i := 20) rfl)
theorem wd_38_21 : (Cond.instanceMethod yX0_isWaiting) ∈ wsL_law := inr_38 _ (List.mem_of_getElem? (i := 21) rfl)
theorem wd_38_22 : (Cond.selects RX0 yX0_isWaiting yX0_isWaiting) ∈ wsL_law := inr_38 _ (List.mem_of_getElem? (i := 22) rfl)
theorem wd_38_23 : (Cond.code yX0_isWaiting cX0_isWaiting 3 (some .boolean)) ∈ wsL_law := inr_38 _ (List.mem_of_getElem? (i := 23) rfl)
theorem wd_39_0 : (Cond.methodLink RX11 285 yX0_addWaiter) ∈ wsL_law := inr_39 _ (List.mem_of_getElem? (i := 0) rfl)
theorem wd_39_1 : (Cond.instanceMethod yX0_addWaiter) ∈ wsL_law := inr_39 _ (List.mem_of_getElem? (i := 1) rfl)
theorem wd_39_2 : (Cond.selects RX0 yX0_addWaiter yX0_addWaiter) ∈ wsL_law := inr_39 _ (List.mem_of_getElem? (i := 2) rfl)
theorem wd_39_3 : (Cond.code yX0_addWaiter cX0_addWaiter 2 none) ∈ wsL_law := inr_39 _ (List.mem_of_getElem? (i := 3) rfl)
theorem wd_39_4 : (Cond.methodLink RL 135 yX12_waits) ∈ wsL_law := inr_39 _ (List.mem_of_getElem? (i := 4) rfl)
theorem wd_39_5 : (Cond.instanceMethod yX12_waits) ∈ wsL_law := inr_39 _ (List.mem_of_getElem? (i := 5) rfl)
theorem wd_39_6 : (Cond.selects RX12 yX12_waits yX12_waits) ∈ wsL_law := inr_39 _ (List.mem_of_getElem? (i := 6) rfl)
theorem wd_39_7 : (Cond.code yX12_waits cX12_waits 2 (some .int)) ∈ wsL_law := inr_39 _ (List.mem_of_getElem? (i := 7) rfl)
theorem wd_39_8 : (Cond.methodLink RX12 171 yX12_listed) ∈ wsL_law := inr_39 _ (List.mem_of_getElem? (i := 8) rfl)
theorem wd_39_9 : (Cond.instanceMethod yX12_listed) ∈ wsL_law := inr_39 _ (List.mem_of_getElem? (i := 9) rfl)
theorem wd_39_10 : (Cond.selects RX12 yX12_listed yX12_listed) ∈ wsL_law := inr_39 _ (List.mem_of_getElem? (i := 10) rfl)
theorem wd_39_11 : (Cond.code yX12_listed cX12_listed 3 (some .int)) ∈ wsL_law := inr_39 _ (List.mem_of_getElem? (i := 11) rfl)
theorem wd_39_12 : (Cond.methodLink RL 136 yX11_list) ∈ wsL_law := inr_39 _ (List.mem_of_getElem? (i := 12) rfl)
theorem wd_39_13 : (Cond.instanceMethod yX11_list) ∈ wsL_law := inr_39 _ (List.mem_of_getElem? (i := 13) rfl)
theorem wd_39_14 : (Cond.selects RX11 yX11_list yX11_list) ∈ wsL_law := inr_39 _ (List.mem_of_getElem? (i := 14) rfl)
theorem wd_39_15 : (Cond.code yX11_list cX11_list 3 (some .int)) ∈ wsL_law := inr_39 _ (List.mem_of_getElem? (i := 15) rfl)
theorem wd_39_16 : (Cond.methodLink RX11 291 yX0_waiterAt) ∈ wsL_law := inr_39 _ (List.mem_of_getElem? (i := 16) rfl)
theorem wd_39_17 : (Cond.instanceMethod yX0_waiterAt) ∈ wsL_law := inr_39 _ (List.mem_of_getElem? (i := 17) rfl)
theorem wd_39_18 : (Cond.selects RX0 yX0_waiterAt yX0_waiterAt) ∈ wsL_law := inr_39 _ (List.mem_of_getElem? (i := 18) rfl)
theorem wd_39_19 : (Cond.code yX0_waiterAt cX0_waiterAt 4 (some .int)) ∈ wsL_law := inr_39 _ (List.mem_of_getElem? (i := 19) rfl)
theorem wd_39_20 : (Cond.methodLink RX0 72 yX0_hasAdmittedSibling) ∈ wsL_law := inr_39 _ (List.mem_of_getElem? (i := 20) rfl)
theorem wd_39_21 : (Cond.instanceMethod yX0_hasAdmittedSibling) ∈ wsL_law := inr_39 _ (List.mem_of_getElem? (i := 21) rfl)
theorem wd_39_22 : (Cond.selects RX0 yX0_hasAdmittedSibling yX0_hasAdmittedSibling) ∈ wsL_law := inr_39 _ (List.mem_of_getElem? (i := 22) rfl)
theorem wd_39_23 : (Cond.code yX0_hasAdmittedSibling cX0_hasAdmittedSibling 3 (some .boolean)) ∈ wsL_law := inr_39 _ (List.mem_of_getElem? (i := 23) rfl)
theorem wd_40_0 : (Cond.methodLink RX0 66 yX0_areSiblings) ∈ wsL_law := inr_40 _ (List.mem_of_getElem? (i := 0) rfl)
theorem wd_40_1 : (Cond.instanceMethod yX0_areSiblings) ∈ wsL_law := inr_40 _ (List.mem_of_getElem? (i := 1) rfl)
theorem wd_40_2 : (Cond.selects RX0 yX0_areSiblings yX0_areSiblings) ∈ wsL_law := inr_40 _ (List.mem_of_getElem? (i := 2) rfl)
theorem wd_40_3 : (Cond.code yX0_areSiblings cX0_areSiblings 4 (some .boolean)) ∈ wsL_law := inr_40 _ (List.mem_of_getElem? (i := 3) rfl)
theorem wd_40_4 : (Cond.methodLink RX0 80 yX0_waiterOf) ∈ wsL_law := inr_40 _ (List.mem_of_getElem? (i := 4) rfl)
theorem wd_40_5 : (Cond.instanceMethod yX0_waiterOf) ∈ wsL_law := inr_40 _ (List.mem_of_getElem? (i := 5) rfl)
theorem wd_40_6 : (Cond.selects RX0 yX0_waiterOf yX0_waiterOf) ∈ wsL_law := inr_40 _ (List.mem_of_getElem? (i := 6) rfl)
theorem wd_40_7 : (Cond.code yX0_waiterOf cX0_waiterOf 5 (some .int)) ∈ wsL_law := inr_40 _ (List.mem_of_getElem? (i := 7) rfl)
theorem wd_40_8 : (Cond.methodLink RL 139 yX12_list) ∈ wsL_law := inr_40 _ (List.mem_of_getElem? (i := 8) rfl)
theorem wd_40_9 : (Cond.instanceMethod yX12_list) ∈ wsL_law := inr_40 _ (List.mem_of_getElem? (i := 9) rfl)
theorem wd_40_10 : (Cond.selects RX12 yX12_list yX12_list) ∈ wsL_law := inr_40 _ (List.mem_of_getElem? (i := 10) rfl)
theorem wd_40_11 : (Cond.code yX12_list cX12_list 5 (some .int)) ∈ wsL_law := inr_40 _ (List.mem_of_getElem? (i := 11) rfl)
theorem wd_40_12 : (Cond.methodLink RX12 177 yX12_hasSibling) ∈ wsL_law := inr_40 _ (List.mem_of_getElem? (i := 12) rfl)
theorem wd_40_13 : (Cond.instanceMethod yX12_hasSibling) ∈ wsL_law := inr_40 _ (List.mem_of_getElem? (i := 13) rfl)
theorem wd_40_14 : (Cond.selects RX12 yX12_hasSibling yX12_hasSibling) ∈ wsL_law := inr_40 _ (List.mem_of_getElem? (i := 14) rfl)
theorem wd_40_15 : (Cond.code yX12_hasSibling cX12_hasSibling 4 (some .boolean)) ∈ wsL_law := inr_40 _ (List.mem_of_getElem? (i := 15) rfl)
theorem wd_40_16 : (Cond.methodLink RX12 174 yX12_areSiblings) ∈ wsL_law := inr_40 _ (List.mem_of_getElem? (i := 16) rfl)
theorem wd_40_17 : (Cond.instanceMethod yX12_areSiblings) ∈ wsL_law := inr_40 _ (List.mem_of_getElem? (i := 17) rfl)
theorem wd_40_18 : (Cond.selects RX12 yX12_areSiblings yX12_areSiblings) ∈ wsL_law := inr_40 _ (List.mem_of_getElem? (i := 18) rfl)
theorem wd_40_19 : (Cond.code yX12_areSiblings cX12_areSiblings 3 (some .boolean)) ∈ wsL_law := inr_40 _ (List.mem_of_getElem? (i := 19) rfl)
theorem wd_40_20 : (Cond.methodLink RL 140 yX11_earliest) ∈ wsL_law := inr_40 _ (List.mem_of_getElem? (i := 20) rfl)
theorem wd_40_21 : (Cond.instanceMethod yX11_earliest) ∈ wsL_law := inr_40 _ (List.mem_of_getElem? (i := 21) rfl)
theorem wd_40_22 : (Cond.selects RX11 yX11_earliest yX11_earliest) ∈ wsL_law := inr_40 _ (List.mem_of_getElem? (i := 22) rfl)
theorem wd_40_23 : (Cond.code yX11_earliest cX11_earliest 3 (some .int)) ∈ wsL_law := inr_40 _ (List.mem_of_getElem? (i := 23) rfl)
theorem wd_41_0 : (Cond.methodLink RX11 294 yX11_leastMonth) ∈ wsL_law := inr_41 _ (List.mem_of_getElem? (i := 0) rfl)
theorem wd_41_1 : (Cond.instanceMethod yX11_leastMonth) ∈ wsL_law := inr_41 _ (List.mem_of_getElem? (i := 1) rfl)
theorem wd_41_2 : (Cond.selects RX11 yX11_leastMonth yX11_leastMonth) ∈ wsL_law := inr_41 _ (List.mem_of_getElem? (i := 2) rfl)
theorem wd_41_3 : (Cond.code yX11_leastMonth cX11_leastMonth 3 (some .int)) ∈ wsL_law := inr_41 _ (List.mem_of_getElem? (i := 3) rfl)
theorem wd_41_4 : (Cond.methodLink RX11 382 yX4_earliestMonth) ∈ wsL_law := inr_41 _ (List.mem_of_getElem? (i := 4) rfl)
theorem wd_41_5 : (Cond.instanceMethod yX4_earliestMonth) ∈ wsL_law := inr_41 _ (List.mem_of_getElem? (i := 5) rfl)
theorem wd_41_6 : (Cond.selects RX4 yX4_earliestMonth yX4_earliestMonth) ∈ wsL_law := inr_41 _ (List.mem_of_getElem? (i := 6) rfl)
theorem wd_41_7 : (Cond.code yX4_earliestMonth cX4_earliestMonth 4 (some .int)) ∈ wsL_law := inr_41 _ (List.mem_of_getElem? (i := 7) rfl)
theorem wd_41_8 : (Cond.fieldLink RX4 134 "SmallRooms$Children" "last" "[I") ∈ wsL_law := inr_41 _ (List.mem_of_getElem? (i := 8) rfl)
theorem wd_41_9 : (Cond.fieldLink RX4 137 "SmallRooms$Children" "first" "[I") ∈ wsL_law := inr_41 _ (List.mem_of_getElem? (i := 9) rfl)
theorem wd_41_10 : (Cond.methodLink RX4 140 yX4_fits) ∈ wsL_law := inr_41 _ (List.mem_of_getElem? (i := 10) rfl)
theorem wd_41_11 : (Cond.instanceMethod yX4_fits) ∈ wsL_law := inr_41 _ (List.mem_of_getElem? (i := 11) rfl)
theorem wd_41_12 : (Cond.selects RX4 yX4_fits yX4_fits) ∈ wsL_law := inr_41 _ (List.mem_of_getElem? (i := 12) rfl)
theorem wd_41_13 : (Cond.code yX4_fits cX4_fits 6 (some .boolean)) ∈ wsL_law := inr_41 _ (List.mem_of_getElem? (i := 13) rfl)
theorem wd_41_14 : (Cond.fieldLink RX4 127 "SmallRooms$Children" "sessions" "[I") ∈ wsL_law := inr_41 _ (List.mem_of_getElem? (i := 14) rfl)
theorem wd_41_15 : (Cond.methodLink RX4 124 yX4_roomInMonth) ∈ wsL_law := inr_41 _ (List.mem_of_getElem? (i := 15) rfl)
theorem wd_41_16 : (Cond.methodLink RX4 130 yX4_placesTaken) ∈ wsL_law := inr_41 _ (List.mem_of_getElem? (i := 16) rfl)
theorem wd_41_17 : (Cond.instanceMethod yX4_placesTaken) ∈ wsL_law := inr_41 _ (List.mem_of_getElem? (i := 17) rfl)
theorem wd_41_18 : (Cond.selects RX4 yX4_placesTaken yX4_placesTaken) ∈ wsL_law := inr_41 _ (List.mem_of_getElem? (i := 18) rfl)
theorem wd_41_19 : (Cond.code yX4_placesTaken cX4_placesTaken 6 (some .int)) ∈ wsL_law := inr_41 _ (List.mem_of_getElem? (i := 19) rfl)
theorem wd_41_20 : (Cond.fieldLink RX4 119 "SmallRooms$Children" "count" "I") ∈ wsL_law := inr_41 _ (List.mem_of_getElem? (i := 20) rfl)
theorem wd_41_21 : (Cond.methodLink RX4 120 yX0_isAwaited) ∈ wsL_law := inr_41 _ (List.mem_of_getElem? (i := 21) rfl)
theorem wd_41_22 : (Cond.instanceMethod yX0_isAwaited) ∈ wsL_law := inr_41 _ (List.mem_of_getElem? (i := 22) rfl)
theorem wd_41_23 : (Cond.selects RX0 yX0_isAwaited yX0_isAwaited) ∈ wsL_law := inr_41 _ (List.mem_of_getElem? (i := 23) rfl)
theorem wd_42_0 : (Cond.code yX0_isAwaited cX0_isAwaited 5 (some .boolean)) ∈ wsL_law := inr_42 _ (List.mem_of_getElem? (i := 0) rfl)
theorem wd_42_1 : (Cond.methodLink RL 143 yX12_earliest) ∈ wsL_law := inr_42 _ (List.mem_of_getElem? (i := 1) rfl)
theorem wd_42_2 : (Cond.instanceMethod yX12_earliest) ∈ wsL_law := inr_42 _ (List.mem_of_getElem? (i := 2) rfl)
theorem wd_42_3 : (Cond.selects RX12 yX12_earliest yX12_earliest) ∈ wsL_law := inr_42 _ (List.mem_of_getElem? (i := 3) rfl)
theorem wd_42_4 : (Cond.code yX12_earliest cX12_earliest 3 (some .int)) ∈ wsL_law := inr_42 _ (List.mem_of_getElem? (i := 4) rfl)
theorem wd_42_5 : (Cond.methodLink RX12 187 yX12_leastMonth) ∈ wsL_law := inr_42 _ (List.mem_of_getElem? (i := 5) rfl)
theorem wd_42_6 : (Cond.instanceMethod yX12_leastMonth) ∈ wsL_law := inr_42 _ (List.mem_of_getElem? (i := 6) rfl)
theorem wd_42_7 : (Cond.selects RX12 yX12_leastMonth yX12_leastMonth) ∈ wsL_law := inr_42 _ (List.mem_of_getElem? (i := 7) rfl)
theorem wd_42_8 : (Cond.code yX12_leastMonth cX12_leastMonth 3 (some .int)) ∈ wsL_law := inr_42 _ (List.mem_of_getElem? (i := 8) rfl)
theorem wd_42_9 : (Cond.methodLink RX12 184 yX12_can) ∈ wsL_law := inr_42 _ (List.mem_of_getElem? (i := 9) rfl)
theorem wd_42_10 : (Cond.instanceMethod yX12_can) ∈ wsL_law := inr_42 _ (List.mem_of_getElem? (i := 10) rfl)
theorem wd_42_11 : (Cond.selects RX12 yX12_can yX12_can) ∈ wsL_law := inr_42 _ (List.mem_of_getElem? (i := 11) rfl)
theorem wd_42_12 : (Cond.code yX12_can cX12_can 6 (some .boolean)) ∈ wsL_law := inr_42 _ (List.mem_of_getElem? (i := 12) rfl)
theorem wd_42_13 : (Cond.methodLink RX12 180 yX12_haveIn) ∈ wsL_law := inr_42 _ (List.mem_of_getElem? (i := 13) rfl)
theorem wd_42_14 : (Cond.instanceMethod yX12_haveIn) ∈ wsL_law := inr_42 _ (List.mem_of_getElem? (i := 14) rfl)
theorem wd_42_15 : (Cond.selects RX12 yX12_haveIn yX12_haveIn) ∈ wsL_law := inr_42 _ (List.mem_of_getElem? (i := 15) rfl)
theorem wd_42_16 : (Cond.code yX12_haveIn cX12_haveIn 7 (some .int)) ∈ wsL_law := inr_42 _ (List.mem_of_getElem? (i := 16) rfl)
theorem wd_42_17 : (Cond.methodLink RL 144 yX11_admit) ∈ wsL_law := inr_42 _ (List.mem_of_getElem? (i := 17) rfl)
theorem wd_42_18 : (Cond.instanceMethod yX11_admit) ∈ wsL_law := inr_42 _ (List.mem_of_getElem? (i := 18) rfl)
theorem wd_42_19 : (Cond.selects RX11 yX11_admit yX11_admit) ∈ wsL_law := inr_42 _ (List.mem_of_getElem? (i := 19) rfl)
theorem wd_42_20 : (Cond.code yX11_admit cX11_admit 3 (some .int)) ∈ wsL_law := inr_42 _ (List.mem_of_getElem? (i := 20) rfl)
theorem wd_42_21 : (Cond.methodLink RX11 297 yX0_removeWaiter) ∈ wsL_law := inr_42 _ (List.mem_of_getElem? (i := 21) rfl)
theorem wd_42_22 : (Cond.instanceMethod yX0_removeWaiter) ∈ wsL_law := inr_42 _ (List.mem_of_getElem? (i := 22) rfl)
theorem wd_42_23 : (Cond.selects RX0 yX0_removeWaiter yX0_removeWaiter) ∈ wsL_law := inr_42 _ (List.mem_of_getElem? (i := 23) rfl)
theorem wd_43_0 : (Cond.code yX0_removeWaiter cX0_removeWaiter 4 none) ∈ wsL_law := inr_43 _ (List.mem_of_getElem? (i := 0) rfl)
theorem wd_43_1 : (Cond.methodLink RL 147 yX12_admit) ∈ wsL_law := inr_43 _ (List.mem_of_getElem? (i := 1) rfl)
theorem wd_43_2 : (Cond.instanceMethod yX12_admit) ∈ wsL_law := inr_43 _ (List.mem_of_getElem? (i := 2) rfl)
theorem wd_43_3 : (Cond.selects RX12 yX12_admit yX12_admit) ∈ wsL_law := inr_43 _ (List.mem_of_getElem? (i := 3) rfl)
theorem wd_43_4 : (Cond.code yX12_admit cX12_admit 5 (some .int)) ∈ wsL_law := inr_43 _ (List.mem_of_getElem? (i := 4) rfl)
theorem wd_43_5 : (Cond.methodLink RL 148 yX11_places) ∈ wsL_law := inr_43 _ (List.mem_of_getElem? (i := 5) rfl)
theorem wd_43_6 : (Cond.instanceMethod yX11_places) ∈ wsL_law := inr_43 _ (List.mem_of_getElem? (i := 6) rfl)
theorem wd_43_7 : (Cond.selects RX11 yX11_places yX11_places) ∈ wsL_law := inr_43 _ (List.mem_of_getElem? (i := 7) rfl)
theorem wd_43_8 : (Cond.code yX11_places cX11_places 4 (some .int)) ∈ wsL_law := inr_43 _ (List.mem_of_getElem? (i := 8) rfl)
theorem wd_43_9 : (Cond.methodLink RX11 300 yX4_placesTaken) ∈ wsL_law := inr_43 _ (List.mem_of_getElem? (i := 9) rfl)
theorem wd_43_10 : (Cond.methodLink RL 151 yX12_places) ∈ wsL_law := inr_43 _ (List.mem_of_getElem? (i := 10) rfl)
theorem wd_43_11 : (Cond.instanceMethod yX12_places) ∈ wsL_law := inr_43 _ (List.mem_of_getElem? (i := 11) rfl)
theorem wd_43_12 : (Cond.selects RX12 yX12_places yX12_places) ∈ wsL_law := inr_43 _ (List.mem_of_getElem? (i := 12) rfl)
theorem wd_43_13 : (Cond.code yX12_places cX12_places 4 (some .int)) ∈ wsL_law := inr_43 _ (List.mem_of_getElem? (i := 13) rfl)
theorem wd_43_14 : (Cond.methodLink RL 152 yX11_rate) ∈ wsL_law := inr_43 _ (List.mem_of_getElem? (i := 14) rfl)
theorem wd_43_15 : (Cond.instanceMethod yX11_rate) ∈ wsL_law := inr_43 _ (List.mem_of_getElem? (i := 15) rfl)
theorem wd_43_16 : (Cond.selects RX11 yX11_rate yX11_rate) ∈ wsL_law := inr_43 _ (List.mem_of_getElem? (i := 16) rfl)
theorem wd_43_17 : (Cond.code yX11_rate cX11_rate 3 (some .int)) ∈ wsL_law := inr_43 _ (List.mem_of_getElem? (i := 17) rfl)
theorem wd_43_18 : (Cond.fieldLink RX11 303 "SmallRooms$Nursery" "rate" "I") ∈ wsL_law := inr_43 _ (List.mem_of_getElem? (i := 18) rfl)
theorem wd_43_19 : (Cond.methodLink RL 155 yX12_rate) ∈ wsL_law := inr_43 _ (List.mem_of_getElem? (i := 19) rfl)
theorem wd_43_20 : (Cond.instanceMethod yX12_rate) ∈ wsL_law := inr_43 _ (List.mem_of_getElem? (i := 20) rfl)
theorem wd_43_21 : (Cond.selects RX12 yX12_rate yX12_rate) ∈ wsL_law := inr_43 _ (List.mem_of_getElem? (i := 21) rfl)
theorem wd_43_22 : (Cond.code yX12_rate cX12_rate 3 (some .int)) ∈ wsL_law := inr_43 _ (List.mem_of_getElem? (i := 22) rfl)
theorem wd_43_23 : (Cond.methodLink RL 156 yX11_bill) ∈ wsL_law := inr_43 _ (List.mem_of_getElem? (i := 23) rfl)
theorem wd_44_0 : (Cond.instanceMethod yX11_bill) ∈ wsL_law := inr_44 _ (List.mem_of_getElem? (i := 0) rfl)
theorem wd_44_1 : (Cond.selects RX11 yX11_bill yX11_bill) ∈ wsL_law := inr_44 _ (List.mem_of_getElem? (i := 1) rfl)
theorem wd_44_2 : (Cond.code yX11_bill cX11_bill 9 (some .int)) ∈ wsL_law := inr_44 _ (List.mem_of_getElem? (i := 2) rfl)
theorem wd_44_3 : (Cond.methodLink RX11 306 Lib.Math.max.name) ∈ wsL_law := inr_44 _ (List.mem_of_getElem? (i := 3) rfl)
theorem wd_44_4 : (Cond.methodLink RX11 311 yX3_latestGoingOut) ∈ wsL_law := inr_44 _ (List.mem_of_getElem? (i := 4) rfl)
theorem wd_44_5 : (Cond.instanceMethod yX3_latestGoingOut) ∈ wsL_law := inr_44 _ (List.mem_of_getElem? (i := 5) rfl)
theorem wd_44_6 : (Cond.selects RX3 yX3_latestGoingOut yX3_latestGoingOut) ∈ wsL_law := inr_44 _ (List.mem_of_getElem? (i := 6) rfl)
theorem wd_44_7 : (Cond.code yX3_latestGoingOut cX3_latestGoingOut 4 (some .int)) ∈ wsL_law := inr_44 _ (List.mem_of_getElem? (i := 7) rfl)
theorem wd_44_8 : (Cond.methodLink RL 160 yX12_bill) ∈ wsL_law := inr_44 _ (List.mem_of_getElem? (i := 8) rfl)
theorem wd_44_9 : (Cond.instanceMethod yX12_bill) ∈ wsL_law := inr_44 _ (List.mem_of_getElem? (i := 9) rfl)
theorem wd_44_10 : (Cond.selects RX12 yX12_bill yX12_bill) ∈ wsL_law := inr_44 _ (List.mem_of_getElem? (i := 10) rfl)
theorem wd_44_11 : (Cond.code yX12_bill cX12_bill 8 (some .int)) ∈ wsL_law := inr_44 _ (List.mem_of_getElem? (i := 11) rfl)
theorem wd_44_12 : (Cond.methodLink RL 161 yX11_text) ∈ wsL_law := inr_44 _ (List.mem_of_getElem? (i := 12) rfl)
theorem wd_44_13 : (Cond.instanceMethod yX11_text) ∈ wsL_law := inr_44 _ (List.mem_of_getElem? (i := 13) rfl)
theorem wd_44_14 : (Cond.selects RX11 yX11_text yX11_text) ∈ wsL_law := inr_44 _ (List.mem_of_getElem? (i := 14) rfl)
theorem wd_44_15 : (Cond.code yX11_text cX11_text 4 (some .int)) ∈ wsL_law := inr_44 _ (List.mem_of_getElem? (i := 15) rfl)
theorem wd_44_16 : (Cond.fieldLink RX11 317 "SmallRooms$Nursery" "ratio" "LSmallRooms$Ratio;") ∈ wsL_law := inr_44 _ (List.mem_of_getElem? (i := 16) rfl)
theorem wd_44_17 : (Cond.methodLink RX11 314 yX9_isAllSigns) ∈ wsL_law := inr_44 _ (List.mem_of_getElem? (i := 17) rfl)
theorem wd_44_18 : (Cond.instanceMethod yX9_isAllSigns) ∈ wsL_law := inr_44 _ (List.mem_of_getElem? (i := 18) rfl)
theorem wd_44_19 : (Cond.selects RX9 yX9_isAllSigns yX9_isAllSigns) ∈ wsL_law := inr_44 _ (List.mem_of_getElem? (i := 19) rfl)
theorem wd_44_20 : (Cond.code yX9_isAllSigns cX9_isAllSigns 2 (some .boolean)) ∈ wsL_law := inr_44 _ (List.mem_of_getElem? (i := 20) rfl)
theorem wd_44_21 : (Cond.methodLink RX9 32 yX6_isSign) ∈ wsL_law := inr_44 _ (List.mem_of_getElem? (i := 21) rfl)
theorem wd_44_22 : (Cond.static yX6_isSign) ∈ wsL_law := inr_44 _ (List.mem_of_getElem? (i := 22) rfl)
theorem wd_44_23 : (Cond.code yX6_isSign cX6_isSign 1 (some .boolean)) ∈ wsL_law := inr_44 _ (List.mem_of_getElem? (i := 23) rfl)
theorem wd_45_0 : (Cond.methodLink RX11 321 yX6_read) ∈ wsL_law := inr_45 _ (List.mem_of_getElem? (i := 0) rfl)
theorem wd_45_1 : (Cond.instanceMethod yX6_read) ∈ wsL_law := inr_45 _ (List.mem_of_getElem? (i := 1) rfl)
theorem wd_45_2 : (Cond.selects RX6 yX6_read yX6_read) ∈ wsL_law := inr_45 _ (List.mem_of_getElem? (i := 2) rfl)
theorem wd_45_3 : (Cond.code yX6_read cX6_read 2 none) ∈ wsL_law := inr_45 _ (List.mem_of_getElem? (i := 3) rfl)
theorem wd_45_4 : (Cond.fieldLink RX6 15 "SmallRooms$Sheet" "size" "I") ∈ wsL_law := inr_45 _ (List.mem_of_getElem? (i := 4) rfl)
theorem wd_45_5 : (Cond.methodLink RX6 21 Lib.Math.min.name) ∈ wsL_law := inr_45 _ (List.mem_of_getElem? (i := 5) rfl)
theorem wd_45_6 : (Cond.fieldLink RX6 30 "SmallRooms$Sheet" "numbers" "[I") ∈ wsL_law := inr_45 _ (List.mem_of_getElem? (i := 6) rfl)
theorem wd_45_7 : (Cond.methodLink RX6 39 yX6_firstWrong) ∈ wsL_law := inr_45 _ (List.mem_of_getElem? (i := 7) rfl)
theorem wd_45_8 : (Cond.instanceMethod yX6_firstWrong) ∈ wsL_law := inr_45 _ (List.mem_of_getElem? (i := 8) rfl)
theorem wd_45_9 : (Cond.selects RX6 yX6_firstWrong yX6_firstWrong) ∈ wsL_law := inr_45 _ (List.mem_of_getElem? (i := 9) rfl)
theorem wd_45_10 : (Cond.code yX6_firstWrong cX6_firstWrong 4 (some .int)) ∈ wsL_law := inr_45 _ (List.mem_of_getElem? (i := 10) rfl)
theorem wd_45_11 : (Cond.methodLink RL 164 yX12_text) ∈ wsL_law := inr_45 _ (List.mem_of_getElem? (i := 11) rfl)
theorem wd_45_12 : (Cond.instanceMethod yX12_text) ∈ wsL_law := inr_45 _ (List.mem_of_getElem? (i := 12) rfl)
theorem wd_45_13 : (Cond.selects RX12 yX12_text yX12_text) ∈ wsL_law := inr_45 _ (List.mem_of_getElem? (i := 13) rfl)
theorem wd_45_14 : (Cond.code yX12_text cX12_text 4 (some .int)) ∈ wsL_law := inr_45 _ (List.mem_of_getElem? (i := 14) rfl)
theorem wd_45_15 : (Cond.methodLink RL 165 yX11_wrong) ∈ wsL_law := inr_45 _ (List.mem_of_getElem? (i := 15) rfl)
theorem wd_45_16 : (Cond.instanceMethod yX11_wrong) ∈ wsL_law := inr_45 _ (List.mem_of_getElem? (i := 16) rfl)
theorem wd_45_17 : (Cond.selects RX11 yX11_wrong yX11_wrong) ∈ wsL_law := inr_45 _ (List.mem_of_getElem? (i := 17) rfl)
theorem wd_45_18 : (Cond.code yX11_wrong cX11_wrong 1 (some .int)) ∈ wsL_law := inr_45 _ (List.mem_of_getElem? (i := 18) rfl)
theorem wd_45_19 : (Cond.fieldLink RX11 326 "SmallRooms$Ratio" "wrongAt" "I") ∈ wsL_law := inr_45 _ (List.mem_of_getElem? (i := 19) rfl)
theorem wd_45_20 : (Cond.methodLink RL 168 yX12_wrong) ∈ wsL_law := inr_45 _ (List.mem_of_getElem? (i := 20) rfl)
theorem wd_45_21 : (Cond.instanceMethod yX12_wrong) ∈ wsL_law := inr_45 _ (List.mem_of_getElem? (i := 21) rfl)
theorem wd_45_22 : (Cond.selects RX12 yX12_wrong yX12_wrong) ∈ wsL_law := inr_45 _ (List.mem_of_getElem? (i := 22) rfl)
theorem wd_45_23 : (Cond.code yX12_wrong cX12_wrong 1 (some .int)) ∈ wsL_law := inr_45 _ (List.mem_of_getElem? (i := 23) rfl)
theorem wd_46_0 : (Cond.methodLink RL 169 yX11_sheet) ∈ wsL_law := inr_46 _ (List.mem_of_getElem? (i := 0) rfl)
theorem wd_46_1 : (Cond.instanceMethod yX11_sheet) ∈ wsL_law := inr_46 _ (List.mem_of_getElem? (i := 1) rfl)
theorem wd_46_2 : (Cond.selects RX11 yX11_sheet yX11_sheet) ∈ wsL_law := inr_46 _ (List.mem_of_getElem? (i := 2) rfl)
theorem wd_46_3 : (Cond.code yX11_sheet cX11_sheet 4 (some .int)) ∈ wsL_law := inr_46 _ (List.mem_of_getElem? (i := 3) rfl)
theorem wd_46_4 : (Cond.methodLink RX11 332 yX9_begin) ∈ wsL_law := inr_46 _ (List.mem_of_getElem? (i := 4) rfl)
theorem wd_46_5 : (Cond.instanceMethod yX9_begin) ∈ wsL_law := inr_46 _ (List.mem_of_getElem? (i := 5) rfl)
theorem wd_46_6 : (Cond.selects RX9 yX9_begin yX9_begin) ∈ wsL_law := inr_46 _ (List.mem_of_getElem? (i := 6) rfl)
theorem wd_46_7 : (Cond.code yX9_begin cX9_begin 3 none) ∈ wsL_law := inr_46 _ (List.mem_of_getElem? (i := 7) rfl)
theorem wd_46_8 : (Cond.methodLink RX9 22 yJ7_fill_53178) ∈ wsL_law := inr_46 _ (List.mem_of_getElem? (i := 8) rfl)
theorem wd_46_9 : (Cond.methodLink RL 172 yX12_sheet) ∈ wsL_law := inr_46 _ (List.mem_of_getElem? (i := 9) rfl)
theorem wd_46_10 : (Cond.instanceMethod yX12_sheet) ∈ wsL_law := inr_46 _ (List.mem_of_getElem? (i := 10) rfl)
theorem wd_46_11 : (Cond.selects RX12 yX12_sheet yX12_sheet) ∈ wsL_law := inr_46 _ (List.mem_of_getElem? (i := 11) rfl)
theorem wd_46_12 : (Cond.code yX12_sheet cX12_sheet 5 (some .int)) ∈ wsL_law := inr_46 _ (List.mem_of_getElem? (i := 12) rfl)
theorem wd_46_13 : (Cond.methodLink RL 173 yX11_put) ∈ wsL_law := inr_46 _ (List.mem_of_getElem? (i := 13) rfl)
theorem wd_46_14 : (Cond.instanceMethod yX11_put) ∈ wsL_law := inr_46 _ (List.mem_of_getElem? (i := 14) rfl)
theorem wd_46_15 : (Cond.selects RX11 yX11_put yX11_put) ∈ wsL_law := inr_46 _ (List.mem_of_getElem? (i := 15) rfl)
theorem wd_46_16 : (Cond.code yX11_put cX11_put 5 (some .int)) ∈ wsL_law := inr_46 _ (List.mem_of_getElem? (i := 16) rfl)
theorem wd_46_17 : (Cond.methodLink RX11 336 yX9_write) ∈ wsL_law := inr_46 _ (List.mem_of_getElem? (i := 17) rfl)
theorem wd_46_18 : (Cond.instanceMethod yX9_write) ∈ wsL_law := inr_46 _ (List.mem_of_getElem? (i := 18) rfl)
theorem wd_46_19 : (Cond.selects RX9 yX9_write yX9_write) ∈ wsL_law := inr_46 _ (List.mem_of_getElem? (i := 19) rfl)
theorem wd_46_20 : (Cond.code yX9_write cX9_write 3 none) ∈ wsL_law := inr_46 _ (List.mem_of_getElem? (i := 20) rfl)
theorem wd_46_21 : (Cond.methodLink RL 176 yX12_put) ∈ wsL_law := inr_46 _ (List.mem_of_getElem? (i := 21) rfl)
theorem wd_46_22 : (Cond.instanceMethod yX12_put) ∈ wsL_law := inr_46 _ (List.mem_of_getElem? (i := 22) rfl)
theorem wd_46_23 : (Cond.selects RX12 yX12_put yX12_put) ∈ wsL_law := inr_46 _ (List.mem_of_getElem? (i := 23) rfl)
theorem wd_47_0 : (Cond.code yX12_put cX12_put 4 (some .int)) ∈ wsL_law := inr_47 _ (List.mem_of_getElem? (i := 0) rfl)
theorem wd_47_1 : (Cond.methodLink RX12 190 yX12_lowest) ∈ wsL_law := inr_47 _ (List.mem_of_getElem? (i := 1) rfl)
theorem wd_47_2 : (Cond.static yX12_lowest) ∈ wsL_law := inr_47 _ (List.mem_of_getElem? (i := 2) rfl)
theorem wd_47_3 : (Cond.code yX12_lowest cX12_lowest 2 (some .int)) ∈ wsL_law := inr_47 _ (List.mem_of_getElem? (i := 3) rfl)
theorem wd_47_4 : (Cond.methodLink RL 177 yX11_copy) ∈ wsL_law := inr_47 _ (List.mem_of_getElem? (i := 4) rfl)
theorem wd_47_5 : (Cond.instanceMethod yX11_copy) ∈ wsL_law := inr_47 _ (List.mem_of_getElem? (i := 5) rfl)
theorem wd_47_6 : (Cond.selects RX11 yX11_copy yX11_copy) ∈ wsL_law := inr_47 _ (List.mem_of_getElem? (i := 6) rfl)
theorem wd_47_7 : (Cond.code yX11_copy cX11_copy 8 (some .int)) ∈ wsL_law := inr_47 _ (List.mem_of_getElem? (i := 7) rfl)
theorem wd_47_8 : (Cond.fieldLink RX11 343 "SmallRooms$Sheet" "bits" "I") ∈ wsL_law := inr_47 _ (List.mem_of_getElem? (i := 8) rfl)
theorem wd_47_9 : (Cond.fieldLink RX11 349 "SmallRooms$Sheet" "numbers" "[I") ∈ wsL_law := inr_47 _ (List.mem_of_getElem? (i := 9) rfl)
theorem wd_47_10 : (Cond.methodLink RX11 352 arraycopyName) ∈ wsL_law := inr_47 _ (List.mem_of_getElem? (i := 10) rfl)
theorem wd_47_11 : (Cond.methodLink RX11 346 yX9_hasStretch) ∈ wsL_law := inr_47 _ (List.mem_of_getElem? (i := 11) rfl)
theorem wd_47_12 : (Cond.instanceMethod yX9_hasStretch) ∈ wsL_law := inr_47 _ (List.mem_of_getElem? (i := 12) rfl)
theorem wd_47_13 : (Cond.selects RX9 yX9_hasStretch yX9_hasStretch) ∈ wsL_law := inr_47 _ (List.mem_of_getElem? (i := 13) rfl)
theorem wd_47_14 : (Cond.code yX9_hasStretch cX9_hasStretch 3 (some .boolean)) ∈ wsL_law := inr_47 _ (List.mem_of_getElem? (i := 14) rfl)
theorem wd_47_15 : (Cond.methodLink RL 181 yX12_copy) ∈ wsL_law := inr_47 _ (List.mem_of_getElem? (i := 15) rfl)
theorem wd_47_16 : (Cond.instanceMethod yX12_copy) ∈ wsL_law := inr_47 _ (List.mem_of_getElem? (i := 16) rfl)
theorem wd_47_17 : (Cond.selects RX12 yX12_copy yX12_copy) ∈ wsL_law := inr_47 _ (List.mem_of_getElem? (i := 17) rfl)
theorem wd_47_18 : (Cond.code yX12_copy cX12_copy 7 (some .int)) ∈ wsL_law := inr_47 _ (List.mem_of_getElem? (i := 18) rfl)
theorem wd_47_19 : (Cond.methodLink RL 182 yX11_undo) ∈ wsL_law := inr_47 _ (List.mem_of_getElem? (i := 19) rfl)
theorem wd_47_20 : (Cond.instanceMethod yX11_undo) ∈ wsL_law := inr_47 _ (List.mem_of_getElem? (i := 20) rfl)
theorem wd_47_21 : (Cond.selects RX11 yX11_undo yX11_undo) ∈ wsL_law := inr_47 _ (List.mem_of_getElem? (i := 21) rfl)
theorem wd_47_22 : (Cond.code yX11_undo cX11_undo 1 (some .int)) ∈ wsL_law := inr_47 _ (List.mem_of_getElem? (i := 22) rfl)
theorem wd_47_23 : (Cond.fieldLink RX11 358 "SmallRooms$History" "count" "I") ∈ wsL_law := inr_47 _ (List.mem_of_getElem? (i := 23) rfl)
theorem wd_48_0 : (Cond.methodLink RX11 359 yX2_bringBack) ∈ wsL_law := inr_48 _ (List.mem_of_getElem? (i := 0) rfl)
theorem wd_48_1 : (Cond.instanceMethod yX2_bringBack) ∈ wsL_law := inr_48 _ (List.mem_of_getElem? (i := 1) rfl)
theorem wd_48_2 : (Cond.selects RX2 yX2_bringBack yX2_bringBack) ∈ wsL_law := inr_48 _ (List.mem_of_getElem? (i := 2) rfl)
theorem wd_48_3 : (Cond.code yX2_bringBack cX2_bringBack 3 none) ∈ wsL_law := inr_48 _ (List.mem_of_getElem? (i := 3) rfl)
theorem wd_48_4 : (Cond.methodLink RL 185 yX12_undo) ∈ wsL_law := inr_48 _ (List.mem_of_getElem? (i := 4) rfl)
theorem wd_48_5 : (Cond.instanceMethod yX12_undo) ∈ wsL_law := inr_48 _ (List.mem_of_getElem? (i := 5) rfl)
theorem wd_48_6 : (Cond.selects RX12 yX12_undo yX12_undo) ∈ wsL_law := inr_48 _ (List.mem_of_getElem? (i := 6) rfl)
theorem wd_48_7 : (Cond.code yX12_undo cX12_undo 2 (some .int)) ∈ wsL_law := inr_48 _ (List.mem_of_getElem? (i := 7) rfl)
theorem wd_48_8 : (Cond.methodLink RL 186 yX11_all) ∈ wsL_law := inr_48 _ (List.mem_of_getElem? (i := 8) rfl)
theorem wd_48_9 : (Cond.instanceMethod yX11_all) ∈ wsL_law := inr_48 _ (List.mem_of_getElem? (i := 9) rfl)
theorem wd_48_10 : (Cond.selects RX11 yX11_all yX11_all) ∈ wsL_law := inr_48 _ (List.mem_of_getElem? (i := 10) rfl)
theorem wd_48_11 : (Cond.code yX11_all cX11_all 2 (some .int)) ∈ wsL_law := inr_48 _ (List.mem_of_getElem? (i := 11) rfl)
theorem wd_48_12 : (Cond.fieldLink RX11 363 "SmallRooms$Log" "count" "I") ∈ wsL_law := inr_48 _ (List.mem_of_getElem? (i := 12) rfl)
theorem wd_48_13 : (Cond.methodLink RL 189 yX12_all) ∈ wsL_law := inr_48 _ (List.mem_of_getElem? (i := 13) rfl)
theorem wd_48_14 : (Cond.instanceMethod yX12_all) ∈ wsL_law := inr_48 _ (List.mem_of_getElem? (i := 14) rfl)
theorem wd_48_15 : (Cond.selects RX12 yX12_all yX12_all) ∈ wsL_law := inr_48 _ (List.mem_of_getElem? (i := 15) rfl)
theorem wd_48_16 : (Cond.code yX12_all cX12_all 4 (some .int)) ∈ wsL_law := inr_48 _ (List.mem_of_getElem? (i := 16) rfl)
def nestW : List Cond := [Cond.methodLinkNest RX11 9 yX4_init RX11, Cond.methodLinkNest RX4 11 yX8_init RX11, Cond.methodLinkNest RX4 20 yX1_init RX11, Cond.methodLinkNest RX4 27 yX0_init RX11, Cond.methodLinkNest RX4 34 yX3_init RX11, Cond.methodLinkNest RX4 44 yX6_init RX11, Cond.methodLinkNest RX11 18 yX2_init RX11, Cond.methodLinkNest RX11 25 yX7_init RX11, Cond.methodLinkNest RX11 32 yX5_init RX11, Cond.methodLinkNest RX11 39 yX10_init RX11, Cond.methodLinkNest RX11 50 yX9_init RX11, Cond.methodLinkNest RX2 21 yX4_init RX11, Cond.methodLinkNest RX1 25 yX11_without RX11, Cond.methodLinkNest RX0 43 yX11_without RX11, Cond.methodLinkNest RX0 50 yX11_with RX11, Cond.methodLinkNest RX4 103 yX11_hasBit RX11, Cond.methodLinkNest RX4 106 yX11_without RX11, Cond.methodLinkNest RX1 32 yX11_with RX11, Cond.methodLinkNest RX7 82 yX11_hasBit RX11, Cond.methodLinkNest RX7 86 yX11_oneIf RX11, Cond.methodLinkNest RX7 94 yX11_quotientUpwards RX11, Cond.methodLinkNest RX7 112 yX11_isWithin RX11, Cond.methodLinkNest RX1 39 yX11_isUnder RX11, Cond.methodLinkNest RX3 34 yX11_oneIf RX11, Cond.methodLinkNest RX9 28 yX11_isWithin RX11, Cond.methodLinkNest RX10 42 yX11_isSlot RX11, Cond.methodLinkNest RX0 62 yX11_hasBit RX11, Cond.methodLinkNest RX0 76 yX11_oneIf RX11, Cond.methodLinkNest RX6 46 yX11_isWithin RX11, Cond.fieldLinkNest RX1 29 "SmallRooms" "WORTH_OF_KIND" "[I" RX11]
theorem nw_0 : (Cond.methodLinkNest RX11 9 yX4_init RX11) ∈ nestW := List.mem_of_getElem? (i := 0) rfl
theorem nw_1 : (Cond.methodLinkNest RX4 11 yX8_init RX11) ∈ nestW := List.mem_of_getElem? (i := 1) rfl
theorem nw_2 : (Cond.methodLinkNest RX4 20 yX1_init RX11) ∈ nestW := List.mem_of_getElem? (i := 2) rfl
theorem nw_3 : (Cond.methodLinkNest RX4 27 yX0_init RX11) ∈ nestW := List.mem_of_getElem? (i := 3) rfl
theorem nw_4 : (Cond.methodLinkNest RX4 34 yX3_init RX11) ∈ nestW := List.mem_of_getElem? (i := 4) rfl
theorem nw_5 : (Cond.methodLinkNest RX4 44 yX6_init RX11) ∈ nestW := List.mem_of_getElem? (i := 5) rfl
theorem nw_6 : (Cond.methodLinkNest RX11 18 yX2_init RX11) ∈ nestW := List.mem_of_getElem? (i := 6) rfl
theorem nw_7 : (Cond.methodLinkNest RX11 25 yX7_init RX11) ∈ nestW := List.mem_of_getElem? (i := 7) rfl
theorem nw_8 : (Cond.methodLinkNest RX11 32 yX5_init RX11) ∈ nestW := List.mem_of_getElem? (i := 8) rfl
theorem nw_9 : (Cond.methodLinkNest RX11 39 yX10_init RX11) ∈ nestW := List.mem_of_getElem? (i := 9) rfl
theorem nw_10 : (Cond.methodLinkNest RX11 50 yX9_init RX11) ∈ nestW := List.mem_of_getElem? (i := 10) rfl
theorem nw_11 : (Cond.methodLinkNest RX2 21 yX4_init RX11) ∈ nestW := List.mem_of_getElem? (i := 11) rfl
theorem nw_12 : (Cond.methodLinkNest RX1 25 yX11_without RX11) ∈ nestW := List.mem_of_getElem? (i := 12) rfl
theorem nw_13 : (Cond.methodLinkNest RX0 43 yX11_without RX11) ∈ nestW := List.mem_of_getElem? (i := 13) rfl
theorem nw_14 : (Cond.methodLinkNest RX0 50 yX11_with RX11) ∈ nestW := List.mem_of_getElem? (i := 14) rfl
theorem nw_15 : (Cond.methodLinkNest RX4 103 yX11_hasBit RX11) ∈ nestW := List.mem_of_getElem? (i := 15) rfl
theorem nw_16 : (Cond.methodLinkNest RX4 106 yX11_without RX11) ∈ nestW := List.mem_of_getElem? (i := 16) rfl
theorem nw_17 : (Cond.methodLinkNest RX1 32 yX11_with RX11) ∈ nestW := List.mem_of_getElem? (i := 17) rfl
theorem nw_18 : (Cond.methodLinkNest RX7 82 yX11_hasBit RX11) ∈ nestW := List.mem_of_getElem? (i := 18) rfl
theorem nw_19 : (Cond.methodLinkNest RX7 86 yX11_oneIf RX11) ∈ nestW := List.mem_of_getElem? (i := 19) rfl
theorem nw_20 : (Cond.methodLinkNest RX7 94 yX11_quotientUpwards RX11) ∈ nestW := List.mem_of_getElem? (i := 20) rfl
theorem nw_21 : (Cond.methodLinkNest RX7 112 yX11_isWithin RX11) ∈ nestW := List.mem_of_getElem? (i := 21) rfl
theorem nw_22 : (Cond.methodLinkNest RX1 39 yX11_isUnder RX11) ∈ nestW := List.mem_of_getElem? (i := 22) rfl
theorem nw_23 : (Cond.methodLinkNest RX3 34 yX11_oneIf RX11) ∈ nestW := List.mem_of_getElem? (i := 23) rfl
theorem nw_24 : (Cond.methodLinkNest RX9 28 yX11_isWithin RX11) ∈ nestW := List.mem_of_getElem? (i := 24) rfl
theorem nw_25 : (Cond.methodLinkNest RX10 42 yX11_isSlot RX11) ∈ nestW := List.mem_of_getElem? (i := 25) rfl
theorem nw_26 : (Cond.methodLinkNest RX0 62 yX11_hasBit RX11) ∈ nestW := List.mem_of_getElem? (i := 26) rfl
theorem nw_27 : (Cond.methodLinkNest RX0 76 yX11_oneIf RX11) ∈ nestW := List.mem_of_getElem? (i := 27) rfl
theorem nw_28 : (Cond.methodLinkNest RX6 46 yX11_isWithin RX11) ∈ nestW := List.mem_of_getElem? (i := 28) rfl
theorem nw_29 : (Cond.fieldLinkNest RX1 29 "SmallRooms" "WORTH_OF_KIND" "[I" RX11) ∈ nestW := List.mem_of_getElem? (i := 29) rfl
theorem yd_X0_init : (yX0_init.cls ≠ "java/lang/invoke/MethodHandle" ∧ yX0_init.cls ≠ "java/lang/invoke/VarHandle" ∧ (parseMethodDescriptor yX0_init.desc).map (fun d => d.parameters.length) = some 0) := by decide +kernel
theorem yd_X0_has : (yX0_has.cls ≠ "java/lang/invoke/MethodHandle" ∧ yX0_has.cls ≠ "java/lang/invoke/VarHandle" ∧ (parseMethodDescriptor yX0_has.desc).map (fun d => d.parameters.length) = some 1) := by decide +kernel
theorem yd_X0_add : (yX0_add.cls ≠ "java/lang/invoke/MethodHandle" ∧ yX0_add.cls ≠ "java/lang/invoke/VarHandle" ∧ (parseMethodDescriptor yX0_add.desc).map (fun d => d.parameters.length) = some 5) := by decide +kernel
theorem yd_X0_inRoom : (yX0_inRoom.cls ≠ "java/lang/invoke/MethodHandle" ∧ yX0_inRoom.cls ≠ "java/lang/invoke/VarHandle" ∧ (parseMethodDescriptor yX0_inRoom.desc).map (fun d => d.parameters.length) = some 1) := by decide +kernel
theorem yd_X0_countIn : (yX0_countIn.cls ≠ "java/lang/invoke/MethodHandle" ∧ yX0_countIn.cls ≠ "java/lang/invoke/VarHandle" ∧ (parseMethodDescriptor yX0_countIn.desc).map (fun d => d.parameters.length) = some 0) := by decide +kernel
theorem yd_X0_allOut : (yX0_allOut.cls ≠ "java/lang/invoke/MethodHandle" ∧ yX0_allOut.cls ≠ "java/lang/invoke/VarHandle" ∧ (parseMethodDescriptor yX0_allOut.desc).map (fun d => d.parameters.length) = some 0) := by decide +kernel
theorem yd_X0_areSiblings : (yX0_areSiblings.cls ≠ "java/lang/invoke/MethodHandle" ∧ yX0_areSiblings.cls ≠ "java/lang/invoke/VarHandle" ∧ (parseMethodDescriptor yX0_areSiblings.desc).map (fun d => d.parameters.length) = some 2) := by decide +kernel
theorem yd_X0_hasAdmittedSibling : (yX0_hasAdmittedSibling.cls ≠ "java/lang/invoke/MethodHandle" ∧ yX0_hasAdmittedSibling.cls ≠ "java/lang/invoke/VarHandle" ∧ (parseMethodDescriptor yX0_hasAdmittedSibling.desc).map (fun d => d.parameters.length) = some 1) := by decide +kernel
theorem yd_X0_isAwaited : (yX0_isAwaited.cls ≠ "java/lang/invoke/MethodHandle" ∧ yX0_isAwaited.cls ≠ "java/lang/invoke/VarHandle" ∧ (parseMethodDescriptor yX0_isAwaited.desc).map (fun d => d.parameters.length) = some 3) := by decide +kernel
theorem yd_X0_isWaiting : (yX0_isWaiting.cls ≠ "java/lang/invoke/MethodHandle" ∧ yX0_isWaiting.cls ≠ "java/lang/invoke/VarHandle" ∧ (parseMethodDescriptor yX0_isWaiting.desc).map (fun d => d.parameters.length) = some 1) := by decide +kernel
theorem yd_X0_addWaiter : (yX0_addWaiter.cls ≠ "java/lang/invoke/MethodHandle" ∧ yX0_addWaiter.cls ≠ "java/lang/invoke/VarHandle" ∧ (parseMethodDescriptor yX0_addWaiter.desc).map (fun d => d.parameters.length) = some 1) := by decide +kernel
theorem yd_X0_removeWaiter : (yX0_removeWaiter.cls ≠ "java/lang/invoke/MethodHandle" ∧ yX0_removeWaiter.cls ≠ "java/lang/invoke/VarHandle" ∧ (parseMethodDescriptor yX0_removeWaiter.desc).map (fun d => d.parameters.length) = some 1) := by decide +kernel
theorem yd_X0_waiterAt : (yX0_waiterAt.cls ≠ "java/lang/invoke/MethodHandle" ∧ yX0_waiterAt.cls ≠ "java/lang/invoke/VarHandle" ∧ (parseMethodDescriptor yX0_waiterAt.desc).map (fun d => d.parameters.length) = some 1) := by decide +kernel
theorem yd_X0_waiterOf : (yX0_waiterOf.cls ≠ "java/lang/invoke/MethodHandle" ∧ yX0_waiterOf.cls ≠ "java/lang/invoke/VarHandle" ∧ (parseMethodDescriptor yX0_waiterOf.desc).map (fun d => d.parameters.length) = some 2) := by decide +kernel
theorem yd_X0_become : (yX0_become.cls ≠ "java/lang/invoke/MethodHandle" ∧ yX0_become.cls ≠ "java/lang/invoke/VarHandle" ∧ (parseMethodDescriptor yX0_become.desc).map (fun d => d.parameters.length) = some 1) := by decide +kernel
theorem yd_X1_init : (yX1_init.cls ≠ "java/lang/invoke/MethodHandle" ∧ yX1_init.cls ≠ "java/lang/invoke/VarHandle" ∧ (parseMethodDescriptor yX1_init.desc).map (fun d => d.parameters.length) = some 0) := by decide +kernel
theorem yd_X1_has : (yX1_has.cls ≠ "java/lang/invoke/MethodHandle" ∧ yX1_has.cls ≠ "java/lang/invoke/VarHandle" ∧ (parseMethodDescriptor yX1_has.desc).map (fun d => d.parameters.length) = some 1) := by decide +kernel
theorem yd_X1_add : (yX1_add.cls ≠ "java/lang/invoke/MethodHandle" ∧ yX1_add.cls ≠ "java/lang/invoke/VarHandle" ∧ (parseMethodDescriptor yX1_add.desc).map (fun d => d.parameters.length) = some 1) := by decide +kernel
theorem yd_X1_worth : (yX1_worth.cls ≠ "java/lang/invoke/MethodHandle" ∧ yX1_worth.cls ≠ "java/lang/invoke/VarHandle" ∧ (parseMethodDescriptor yX1_worth.desc).map (fun d => d.parameters.length) = some 1) := by decide +kernel
theorem yd_X1_inRoom : (yX1_inRoom.cls ≠ "java/lang/invoke/MethodHandle" ∧ yX1_inRoom.cls ≠ "java/lang/invoke/VarHandle" ∧ (parseMethodDescriptor yX1_inRoom.desc).map (fun d => d.parameters.length) = some 1) := by decide +kernel
theorem yd_X1_worthIn : (yX1_worthIn.cls ≠ "java/lang/invoke/MethodHandle" ∧ yX1_worthIn.cls ≠ "java/lang/invoke/VarHandle" ∧ (parseMethodDescriptor yX1_worthIn.desc).map (fun d => d.parameters.length) = some 1) := by decide +kernel
theorem yd_X1_trained : (yX1_trained.cls ≠ "java/lang/invoke/MethodHandle" ∧ yX1_trained.cls ≠ "java/lang/invoke/VarHandle" ∧ (parseMethodDescriptor yX1_trained.desc).map (fun d => d.parameters.length) = some 0) := by decide +kernel
theorem yd_X1_able : (yX1_able.cls ≠ "java/lang/invoke/MethodHandle" ∧ yX1_able.cls ≠ "java/lang/invoke/VarHandle" ∧ (parseMethodDescriptor yX1_able.desc).map (fun d => d.parameters.length) = some 0) := by decide +kernel
theorem yd_X1_become : (yX1_become.cls ≠ "java/lang/invoke/MethodHandle" ∧ yX1_become.cls ≠ "java/lang/invoke/VarHandle" ∧ (parseMethodDescriptor yX1_become.desc).map (fun d => d.parameters.length) = some 1) := by decide +kernel
theorem yd_X2_init : (yX2_init.cls ≠ "java/lang/invoke/MethodHandle" ∧ yX2_init.cls ≠ "java/lang/invoke/VarHandle" ∧ (parseMethodDescriptor yX2_init.desc).map (fun d => d.parameters.length) = some 0) := by decide +kernel
theorem yd_X2_add : (yX2_add.cls ≠ "java/lang/invoke/MethodHandle" ∧ yX2_add.cls ≠ "java/lang/invoke/VarHandle" ∧ (parseMethodDescriptor yX2_add.desc).map (fun d => d.parameters.length) = some 1) := by decide +kernel
theorem yd_X2_bringBack : (yX2_bringBack.cls ≠ "java/lang/invoke/MethodHandle" ∧ yX2_bringBack.cls ≠ "java/lang/invoke/VarHandle" ∧ (parseMethodDescriptor yX2_bringBack.desc).map (fun d => d.parameters.length) = some 1) := by decide +kernel
theorem yd_X3_init : (yX3_init.cls ≠ "java/lang/invoke/MethodHandle" ∧ yX3_init.cls ≠ "java/lang/invoke/VarHandle" ∧ (parseMethodDescriptor yX3_init.desc).map (fun d => d.parameters.length) = some 0) := by decide +kernel
theorem yd_X3_lead : (yX3_lead.cls ≠ "java/lang/invoke/MethodHandle" ∧ yX3_lead.cls ≠ "java/lang/invoke/VarHandle" ∧ (parseMethodDescriptor yX3_lead.desc).map (fun d => d.parameters.length) = some 3) := by decide +kernel
theorem yd_X3_dropOldest : (yX3_dropOldest.cls ≠ "java/lang/invoke/MethodHandle" ∧ yX3_dropOldest.cls ≠ "java/lang/invoke/VarHandle" ∧ (parseMethodDescriptor yX3_dropOldest.desc).map (fun d => d.parameters.length) = some 0) := by decide +kernel
theorem yd_X3_countOf : (yX3_countOf.cls ≠ "java/lang/invoke/MethodHandle" ∧ yX3_countOf.cls ≠ "java/lang/invoke/VarHandle" ∧ (parseMethodDescriptor yX3_countOf.desc).map (fun d => d.parameters.length) = some 1) := by decide +kernel
theorem yd_X3_wasIn : (yX3_wasIn.cls ≠ "java/lang/invoke/MethodHandle" ∧ yX3_wasIn.cls ≠ "java/lang/invoke/VarHandle" ∧ (parseMethodDescriptor yX3_wasIn.desc).map (fun d => d.parameters.length) = some 2) := by decide +kernel
theorem yd_X3_latestGoingOut : (yX3_latestGoingOut.cls ≠ "java/lang/invoke/MethodHandle" ∧ yX3_latestGoingOut.cls ≠ "java/lang/invoke/VarHandle" ∧ (parseMethodDescriptor yX3_latestGoingOut.desc).map (fun d => d.parameters.length) = some 1) := by decide +kernel
theorem yd_X3_missedOf : (yX3_missedOf.cls ≠ "java/lang/invoke/MethodHandle" ∧ yX3_missedOf.cls ≠ "java/lang/invoke/VarHandle" ∧ (parseMethodDescriptor yX3_missedOf.desc).map (fun d => d.parameters.length) = some 2) := by decide +kernel
theorem yd_X3_firstMissedOf : (yX3_firstMissedOf.cls ≠ "java/lang/invoke/MethodHandle" ∧ yX3_firstMissedOf.cls ≠ "java/lang/invoke/VarHandle" ∧ (parseMethodDescriptor yX3_firstMissedOf.desc).map (fun d => d.parameters.length) = some 2) := by decide +kernel
theorem yd_X3_isMissedFrom : (yX3_isMissedFrom.cls ≠ "java/lang/invoke/MethodHandle" ∧ yX3_isMissedFrom.cls ≠ "java/lang/invoke/VarHandle" ∧ (parseMethodDescriptor yX3_isMissedFrom.desc).map (fun d => d.parameters.length) = some 2) := by decide +kernel
theorem yd_X3_become : (yX3_become.cls ≠ "java/lang/invoke/MethodHandle" ∧ yX3_become.cls ≠ "java/lang/invoke/VarHandle" ∧ (parseMethodDescriptor yX3_become.desc).map (fun d => d.parameters.length) = some 1) := by decide +kernel
theorem yd_X4_init : (yX4_init.cls ≠ "java/lang/invoke/MethodHandle" ∧ yX4_init.cls ≠ "java/lang/invoke/VarHandle" ∧ (parseMethodDescriptor yX4_init.desc).map (fun d => d.parameters.length) = some 0) := by decide +kernel
theorem yd_X4_ageNow : (yX4_ageNow.cls ≠ "java/lang/invoke/MethodHandle" ∧ yX4_ageNow.cls ≠ "java/lang/invoke/VarHandle" ∧ (parseMethodDescriptor yX4_ageNow.desc).map (fun d => d.parameters.length) = some 1) := by decide +kernel
theorem yd_X4_roomInMonth : (yX4_roomInMonth.cls ≠ "java/lang/invoke/MethodHandle" ∧ yX4_roomInMonth.cls ≠ "java/lang/invoke/VarHandle" ∧ (parseMethodDescriptor yX4_roomInMonth.desc).map (fun d => d.parameters.length) = some 2) := by decide +kernel
theorem yd_X4_refusal : (yX4_refusal.cls ≠ "java/lang/invoke/MethodHandle" ∧ yX4_refusal.cls ≠ "java/lang/invoke/VarHandle" ∧ (parseMethodDescriptor yX4_refusal.desc).map (fun d => d.parameters.length) = some 2) := by decide +kernel
theorem yd_X4_goOut : (yX4_goOut.cls ≠ "java/lang/invoke/MethodHandle" ∧ yX4_goOut.cls ≠ "java/lang/invoke/VarHandle" ∧ (parseMethodDescriptor yX4_goOut.desc).map (fun d => d.parameters.length) = some 1) := by decide +kernel
theorem yd_X4_beginDay : (yX4_beginDay.cls ≠ "java/lang/invoke/MethodHandle" ∧ yX4_beginDay.cls ≠ "java/lang/invoke/VarHandle" ∧ (parseMethodDescriptor yX4_beginDay.desc).map (fun d => d.parameters.length) = some 0) := by decide +kernel
theorem yd_X4_placesTaken : (yX4_placesTaken.cls ≠ "java/lang/invoke/MethodHandle" ∧ yX4_placesTaken.cls ≠ "java/lang/invoke/VarHandle" ∧ (parseMethodDescriptor yX4_placesTaken.desc).map (fun d => d.parameters.length) = some 3) := by decide +kernel
theorem yd_X4_fits : (yX4_fits.cls ≠ "java/lang/invoke/MethodHandle" ∧ yX4_fits.cls ≠ "java/lang/invoke/VarHandle" ∧ (parseMethodDescriptor yX4_fits.desc).map (fun d => d.parameters.length) = some 2) := by decide +kernel
theorem yd_X4_earliestMonth : (yX4_earliestMonth.cls ≠ "java/lang/invoke/MethodHandle" ∧ yX4_earliestMonth.cls ≠ "java/lang/invoke/VarHandle" ∧ (parseMethodDescriptor yX4_earliestMonth.desc).map (fun d => d.parameters.length) = some 1) := by decide +kernel
theorem yd_X4_become : (yX4_become.cls ≠ "java/lang/invoke/MethodHandle" ∧ yX4_become.cls ≠ "java/lang/invoke/VarHandle" ∧ (parseMethodDescriptor yX4_become.desc).map (fun d => d.parameters.length) = some 1) := by decide +kernel
theorem yd_X5_init : (yX5_init.cls ≠ "java/lang/invoke/MethodHandle" ∧ yX5_init.cls ≠ "java/lang/invoke/VarHandle" ∧ (parseMethodDescriptor yX5_init.desc).map (fun d => d.parameters.length) = some 0) := by decide +kernel
theorem yd_X5_begin : (yX5_begin.cls ≠ "java/lang/invoke/MethodHandle" ∧ yX5_begin.cls ≠ "java/lang/invoke/VarHandle" ∧ (parseMethodDescriptor yX5_begin.desc).map (fun d => d.parameters.length) = some 1) := by decide +kernel
theorem yd_X5_sumWorths : (yX5_sumWorths.cls ≠ "java/lang/invoke/MethodHandle" ∧ yX5_sumWorths.cls ≠ "java/lang/invoke/VarHandle" ∧ (parseMethodDescriptor yX5_sumWorths.desc).map (fun d => d.parameters.length) = some 1) := by decide +kernel
theorem yd_X5_sumCosts : (yX5_sumCosts.cls ≠ "java/lang/invoke/MethodHandle" ∧ yX5_sumCosts.cls ≠ "java/lang/invoke/VarHandle" ∧ (parseMethodDescriptor yX5_sumCosts.desc).map (fun d => d.parameters.length) = some 2) := by decide +kernel
theorem yd_X5_addForHand : (yX5_addForHand.cls ≠ "java/lang/invoke/MethodHandle" ∧ yX5_addForHand.cls ≠ "java/lang/invoke/VarHandle" ∧ (parseMethodDescriptor yX5_addForHand.desc).map (fun d => d.parameters.length) = some 3) := by decide +kernel
theorem yd_X5_fill : (yX5_fill.cls ≠ "java/lang/invoke/MethodHandle" ∧ yX5_fill.cls ≠ "java/lang/invoke/VarHandle" ∧ (parseMethodDescriptor yX5_fill.desc).map (fun d => d.parameters.length) = some 4) := by decide +kernel
theorem yd_X5_leastWith : (yX5_leastWith.cls ≠ "java/lang/invoke/MethodHandle" ∧ yX5_leastWith.cls ≠ "java/lang/invoke/VarHandle" ∧ (parseMethodDescriptor yX5_leastWith.desc).map (fun d => d.parameters.length) = some 3) := by decide +kernel
theorem yd_X5_partsOf : (yX5_partsOf.cls ≠ "java/lang/invoke/MethodHandle" ∧ yX5_partsOf.cls ≠ "java/lang/invoke/VarHandle" ∧ (parseMethodDescriptor yX5_partsOf.desc).map (fun d => d.parameters.length) = some 1) := by decide +kernel
theorem yd_X5_isPossible : (yX5_isPossible.cls ≠ "java/lang/invoke/MethodHandle" ∧ yX5_isPossible.cls ≠ "java/lang/invoke/VarHandle" ∧ (parseMethodDescriptor yX5_isPossible.desc).map (fun d => d.parameters.length) = some 0) := by decide +kernel
theorem yd_X5_movedHands : (yX5_movedHands.cls ≠ "java/lang/invoke/MethodHandle" ∧ yX5_movedHands.cls ≠ "java/lang/invoke/VarHandle" ∧ (parseMethodDescriptor yX5_movedHands.desc).map (fun d => d.parameters.length) = some 0) := by decide +kernel
theorem yd_X5_roomFor : (yX5_roomFor.cls ≠ "java/lang/invoke/MethodHandle" ∧ yX5_roomFor.cls ≠ "java/lang/invoke/VarHandle" ∧ (parseMethodDescriptor yX5_roomFor.desc).map (fun d => d.parameters.length) = some 1) := by decide +kernel
theorem yd_X6_init : (yX6_init.cls ≠ "java/lang/invoke/MethodHandle" ∧ yX6_init.cls ≠ "java/lang/invoke/VarHandle" ∧ (parseMethodDescriptor yX6_init.desc).map (fun d => d.parameters.length) = some 0) := by decide +kernel
theorem yd_X6_read : (yX6_read.cls ≠ "java/lang/invoke/MethodHandle" ∧ yX6_read.cls ≠ "java/lang/invoke/VarHandle" ∧ (parseMethodDescriptor yX6_read.desc).map (fun d => d.parameters.length) = some 1) := by decide +kernel
theorem yd_X6_isSign : (yX6_isSign.cls ≠ "java/lang/invoke/MethodHandle" ∧ yX6_isSign.cls ≠ "java/lang/invoke/VarHandle" ∧ (parseMethodDescriptor yX6_isSign.desc).map (fun d => d.parameters.length) = some 1) := by decide +kernel
theorem yd_X6_firstWrong : (yX6_firstWrong.cls ≠ "java/lang/invoke/MethodHandle" ∧ yX6_firstWrong.cls ≠ "java/lang/invoke/VarHandle" ∧ (parseMethodDescriptor yX6_firstWrong.desc).map (fun d => d.parameters.length) = some 0) := by decide +kernel
theorem yd_X6_become : (yX6_become.cls ≠ "java/lang/invoke/MethodHandle" ∧ yX6_become.cls ≠ "java/lang/invoke/VarHandle" ∧ (parseMethodDescriptor yX6_become.desc).map (fun d => d.parameters.length) = some 1) := by decide +kernel
theorem yd_X7_init : (yX7_init.cls ≠ "java/lang/invoke/MethodHandle" ∧ yX7_init.cls ≠ "java/lang/invoke/VarHandle" ∧ (parseMethodDescriptor yX7_init.desc).map (fun d => d.parameters.length) = some 0) := by decide +kernel
theorem yd_X7_needOf : (yX7_needOf.cls ≠ "java/lang/invoke/MethodHandle" ∧ yX7_needOf.cls ≠ "java/lang/invoke/VarHandle" ∧ (parseMethodDescriptor yX7_needOf.desc).map (fun d => d.parameters.length) = some 2) := by decide +kernel
theorem yd_X7_countChildren : (yX7_countChildren.cls ≠ "java/lang/invoke/MethodHandle" ∧ yX7_countChildren.cls ≠ "java/lang/invoke/VarHandle" ∧ (parseMethodDescriptor yX7_countChildren.desc).map (fun d => d.parameters.length) = some 2) := by decide +kernel
theorem yd_X7_ageGroup : (yX7_ageGroup.cls ≠ "java/lang/invoke/MethodHandle" ∧ yX7_ageGroup.cls ≠ "java/lang/invoke/VarHandle" ∧ (parseMethodDescriptor yX7_ageGroup.desc).map (fun d => d.parameters.length) = some 1) := by decide +kernel
theorem yd_X7_usualNeed : (yX7_usualNeed.cls ≠ "java/lang/invoke/MethodHandle" ∧ yX7_usualNeed.cls ≠ "java/lang/invoke/VarHandle" ∧ (parseMethodDescriptor yX7_usualNeed.desc).map (fun d => d.parameters.length) = some 0) := by decide +kernel
theorem yd_X7_workOut : (yX7_workOut.cls ≠ "java/lang/invoke/MethodHandle" ∧ yX7_workOut.cls ≠ "java/lang/invoke/VarHandle" ∧ (parseMethodDescriptor yX7_workOut.desc).map (fun d => d.parameters.length) = some 1) := by decide +kernel
theorem yd_X7_numberOf : (yX7_numberOf.cls ≠ "java/lang/invoke/MethodHandle" ∧ yX7_numberOf.cls ≠ "java/lang/invoke/VarHandle" ∧ (parseMethodDescriptor yX7_numberOf.desc).map (fun d => d.parameters.length) = some 1) := by decide +kernel
theorem yd_X7_joined : (yX7_joined.cls ≠ "java/lang/invoke/MethodHandle" ∧ yX7_joined.cls ≠ "java/lang/invoke/VarHandle" ∧ (parseMethodDescriptor yX7_joined.desc).map (fun d => d.parameters.length) = some 3) := by decide +kernel
theorem yd_X8_init : (yX8_init.cls ≠ "java/lang/invoke/MethodHandle" ∧ yX8_init.cls ≠ "java/lang/invoke/VarHandle" ∧ (parseMethodDescriptor yX8_init.desc).map (fun d => d.parameters.length) = some 0) := by decide +kernel
theorem yd_X8_has : (yX8_has.cls ≠ "java/lang/invoke/MethodHandle" ∧ yX8_has.cls ≠ "java/lang/invoke/VarHandle" ∧ (parseMethodDescriptor yX8_has.desc).map (fun d => d.parameters.length) = some 1) := by decide +kernel
theorem yd_X8_add : (yX8_add.cls ≠ "java/lang/invoke/MethodHandle" ∧ yX8_add.cls ≠ "java/lang/invoke/VarHandle" ∧ (parseMethodDescriptor yX8_add.desc).map (fun d => d.parameters.length) = some 3) := by decide +kernel
theorem yd_X8_takes : (yX8_takes.cls ≠ "java/lang/invoke/MethodHandle" ∧ yX8_takes.cls ≠ "java/lang/invoke/VarHandle" ∧ (parseMethodDescriptor yX8_takes.desc).map (fun d => d.parameters.length) = some 2) := by decide +kernel
theorem yd_X8_forAge : (yX8_forAge.cls ≠ "java/lang/invoke/MethodHandle" ∧ yX8_forAge.cls ≠ "java/lang/invoke/VarHandle" ∧ (parseMethodDescriptor yX8_forAge.desc).map (fun d => d.parameters.length) = some 1) := by decide +kernel
theorem yd_X8_become : (yX8_become.cls ≠ "java/lang/invoke/MethodHandle" ∧ yX8_become.cls ≠ "java/lang/invoke/VarHandle" ∧ (parseMethodDescriptor yX8_become.desc).map (fun d => d.parameters.length) = some 1) := by decide +kernel
theorem yd_X9_init : (yX9_init.cls ≠ "java/lang/invoke/MethodHandle" ∧ yX9_init.cls ≠ "java/lang/invoke/VarHandle" ∧ (parseMethodDescriptor yX9_init.desc).map (fun d => d.parameters.length) = some 0) := by decide +kernel
theorem yd_X9_isMissing : (yX9_isMissing.cls ≠ "java/lang/invoke/MethodHandle" ∧ yX9_isMissing.cls ≠ "java/lang/invoke/VarHandle" ∧ (parseMethodDescriptor yX9_isMissing.desc).map (fun d => d.parameters.length) = some 0) := by decide +kernel
theorem yd_X9_begin : (yX9_begin.cls ≠ "java/lang/invoke/MethodHandle" ∧ yX9_begin.cls ≠ "java/lang/invoke/VarHandle" ∧ (parseMethodDescriptor yX9_begin.desc).map (fun d => d.parameters.length) = some 2) := by decide +kernel
theorem yd_X9_write : (yX9_write.cls ≠ "java/lang/invoke/MethodHandle" ∧ yX9_write.cls ≠ "java/lang/invoke/VarHandle" ∧ (parseMethodDescriptor yX9_write.desc).map (fun d => d.parameters.length) = some 2) := by decide +kernel
theorem yd_X9_hasStretch : (yX9_hasStretch.cls ≠ "java/lang/invoke/MethodHandle" ∧ yX9_hasStretch.cls ≠ "java/lang/invoke/VarHandle" ∧ (parseMethodDescriptor yX9_hasStretch.desc).map (fun d => d.parameters.length) = some 2) := by decide +kernel
theorem yd_X9_rises : (yX9_rises.cls ≠ "java/lang/invoke/MethodHandle" ∧ yX9_rises.cls ≠ "java/lang/invoke/VarHandle" ∧ (parseMethodDescriptor yX9_rises.desc).map (fun d => d.parameters.length) = some 0) := by decide +kernel
theorem yd_X9_isAllWithin : (yX9_isAllWithin.cls ≠ "java/lang/invoke/MethodHandle" ∧ yX9_isAllWithin.cls ≠ "java/lang/invoke/VarHandle" ∧ (parseMethodDescriptor yX9_isAllWithin.desc).map (fun d => d.parameters.length) = some 2) := by decide +kernel
theorem yd_X9_isAllSigns : (yX9_isAllSigns.cls ≠ "java/lang/invoke/MethodHandle" ∧ yX9_isAllSigns.cls ≠ "java/lang/invoke/VarHandle" ∧ (parseMethodDescriptor yX9_isAllSigns.desc).map (fun d => d.parameters.length) = some 0) := by decide +kernel
theorem yd_X10_init : (yX10_init.cls ≠ "java/lang/invoke/MethodHandle" ∧ yX10_init.cls ≠ "java/lang/invoke/VarHandle" ∧ (parseMethodDescriptor yX10_init.desc).map (fun d => d.parameters.length) = some 0) := by decide +kernel
theorem yd_X10_plan : (yX10_plan.cls ≠ "java/lang/invoke/MethodHandle" ∧ yX10_plan.cls ≠ "java/lang/invoke/VarHandle" ∧ (parseMethodDescriptor yX10_plan.desc).map (fun d => d.parameters.length) = some 2) := by decide +kernel
theorem yd_X10_endedAt : (yX10_endedAt.cls ≠ "java/lang/invoke/MethodHandle" ∧ yX10_endedAt.cls ≠ "java/lang/invoke/VarHandle" ∧ (parseMethodDescriptor yX10_endedAt.desc).map (fun d => d.parameters.length) = some 2) := by decide +kernel
theorem yd_X10_beginOf : (yX10_beginOf.cls ≠ "java/lang/invoke/MethodHandle" ∧ yX10_beginOf.cls ≠ "java/lang/invoke/VarHandle" ∧ (parseMethodDescriptor yX10_beginOf.desc).map (fun d => d.parameters.length) = some 1) := by decide +kernel
theorem yd_X10_take : (yX10_take.cls ≠ "java/lang/invoke/MethodHandle" ∧ yX10_take.cls ≠ "java/lang/invoke/VarHandle" ∧ (parseMethodDescriptor yX10_take.desc).map (fun d => d.parameters.length) = some 1) := by decide +kernel
theorem yd_X10_firstLacking : (yX10_firstLacking.cls ≠ "java/lang/invoke/MethodHandle" ∧ yX10_firstLacking.cls ≠ "java/lang/invoke/VarHandle" ∧ (parseMethodDescriptor yX10_firstLacking.desc).map (fun d => d.parameters.length) = some 2) := by decide +kernel
theorem yd_X11_init : (yX11_init.cls ≠ "java/lang/invoke/MethodHandle" ∧ yX11_init.cls ≠ "java/lang/invoke/VarHandle" ∧ (parseMethodDescriptor yX11_init.desc).map (fun d => d.parameters.length) = some 0) := by decide +kernel
theorem yd_X11_room : (yX11_room.cls ≠ "java/lang/invoke/MethodHandle" ∧ yX11_room.cls ≠ "java/lang/invoke/VarHandle" ∧ (parseMethodDescriptor yX11_room.desc).map (fun d => d.parameters.length) = some 2) := by decide +kernel
theorem yd_X11_hand : (yX11_hand.cls ≠ "java/lang/invoke/MethodHandle" ∧ yX11_hand.cls ≠ "java/lang/invoke/VarHandle" ∧ (parseMethodDescriptor yX11_hand.desc).map (fun d => d.parameters.length) = some 1) := by decide +kernel
theorem yd_X11_as : (yX11_as.cls ≠ "java/lang/invoke/MethodHandle" ∧ yX11_as.cls ≠ "java/lang/invoke/VarHandle" ∧ (parseMethodDescriptor yX11_as.desc).map (fun d => d.parameters.length) = some 2) := by decide +kernel
theorem yd_X11_child : (yX11_child.cls ≠ "java/lang/invoke/MethodHandle" ∧ yX11_child.cls ≠ "java/lang/invoke/VarHandle" ∧ (parseMethodDescriptor yX11_child.desc).map (fun d => d.parameters.length) = some 4) := by decide +kernel
theorem yd_X11_childIs : (yX11_childIs.cls ≠ "java/lang/invoke/MethodHandle" ∧ yX11_childIs.cls ≠ "java/lang/invoke/VarHandle" ∧ (parseMethodDescriptor yX11_childIs.desc).map (fun d => d.parameters.length) = some 2) := by decide +kernel
theorem yd_X11_roomOf : (yX11_roomOf.cls ≠ "java/lang/invoke/MethodHandle" ∧ yX11_roomOf.cls ≠ "java/lang/invoke/VarHandle" ∧ (parseMethodDescriptor yX11_roomOf.desc).map (fun d => d.parameters.length) = some 2) := by decide +kernel
theorem yd_X11_month : (yX11_month.cls ≠ "java/lang/invoke/MethodHandle" ∧ yX11_month.cls ≠ "java/lang/invoke/VarHandle" ∧ (parseMethodDescriptor yX11_month.desc).map (fun d => d.parameters.length) = some 1) := by decide +kernel
theorem yd_X11_slot : (yX11_slot.cls ≠ "java/lang/invoke/MethodHandle" ∧ yX11_slot.cls ≠ "java/lang/invoke/VarHandle" ∧ (parseMethodDescriptor yX11_slot.desc).map (fun d => d.parameters.length) = some 1) := by decide +kernel
theorem yd_X11_day : (yX11_day.cls ≠ "java/lang/invoke/MethodHandle" ∧ yX11_day.cls ≠ "java/lang/invoke/VarHandle" ∧ (parseMethodDescriptor yX11_day.desc).map (fun d => d.parameters.length) = some 0) := by decide +kernel
theorem yd_X11_in : (yX11_in.cls ≠ "java/lang/invoke/MethodHandle" ∧ yX11_in.cls ≠ "java/lang/invoke/VarHandle" ∧ (parseMethodDescriptor yX11_in.desc).map (fun d => d.parameters.length) = some 2) := by decide +kernel
theorem yd_X11_to : (yX11_to.cls ≠ "java/lang/invoke/MethodHandle" ∧ yX11_to.cls ≠ "java/lang/invoke/VarHandle" ∧ (parseMethodDescriptor yX11_to.desc).map (fun d => d.parameters.length) = some 2) := by decide +kernel
theorem yd_X11_over : (yX11_over.cls ≠ "java/lang/invoke/MethodHandle" ∧ yX11_over.cls ≠ "java/lang/invoke/VarHandle" ∧ (parseMethodDescriptor yX11_over.desc).map (fun d => d.parameters.length) = some 2) := by decide +kernel
theorem yd_X11_fetches : (yX11_fetches.cls ≠ "java/lang/invoke/MethodHandle" ∧ yX11_fetches.cls ≠ "java/lang/invoke/VarHandle" ∧ (parseMethodDescriptor yX11_fetches.desc).map (fun d => d.parameters.length) = some 3) := by decide +kernel
theorem yd_X11_place : (yX11_place.cls ≠ "java/lang/invoke/MethodHandle" ∧ yX11_place.cls ≠ "java/lang/invoke/VarHandle" ∧ (parseMethodDescriptor yX11_place.desc).map (fun d => d.parameters.length) = some 2) := by decide +kernel
theorem yd_X11_ill : (yX11_ill.cls ≠ "java/lang/invoke/MethodHandle" ∧ yX11_ill.cls ≠ "java/lang/invoke/VarHandle" ∧ (parseMethodDescriptor yX11_ill.desc).map (fun d => d.parameters.length) = some 1) := by decide +kernel
theorem yd_X11_now : (yX11_now.cls ≠ "java/lang/invoke/MethodHandle" ∧ yX11_now.cls ≠ "java/lang/invoke/VarHandle" ∧ (parseMethodDescriptor yX11_now.desc).map (fun d => d.parameters.length) = some 2) := by decide +kernel
theorem yd_X11_lacking : (yX11_lacking.cls ≠ "java/lang/invoke/MethodHandle" ∧ yX11_lacking.cls ≠ "java/lang/invoke/VarHandle" ∧ (parseMethodDescriptor yX11_lacking.desc).map (fun d => d.parameters.length) = some 0) := by decide +kernel
theorem yd_X11_moves : (yX11_moves.cls ≠ "java/lang/invoke/MethodHandle" ∧ yX11_moves.cls ≠ "java/lang/invoke/VarHandle" ∧ (parseMethodDescriptor yX11_moves.desc).map (fun d => d.parameters.length) = some 0) := by decide +kernel
theorem yd_X11_moved : (yX11_moved.cls ≠ "java/lang/invoke/MethodHandle" ∧ yX11_moved.cls ≠ "java/lang/invoke/VarHandle" ∧ (parseMethodDescriptor yX11_moved.desc).map (fun d => d.parameters.length) = some 1) := by decide +kernel
theorem yd_X11_move : (yX11_move.cls ≠ "java/lang/invoke/MethodHandle" ∧ yX11_move.cls ≠ "java/lang/invoke/VarHandle" ∧ (parseMethodDescriptor yX11_move.desc).map (fun d => d.parameters.length) = some 0) := by decide +kernel
theorem yd_X11_roll : (yX11_roll.cls ≠ "java/lang/invoke/MethodHandle" ∧ yX11_roll.cls ≠ "java/lang/invoke/VarHandle" ∧ (parseMethodDescriptor yX11_roll.desc).map (fun d => d.parameters.length) = some 2) := by decide +kernel
theorem yd_X11_sleeps : (yX11_sleeps.cls ≠ "java/lang/invoke/MethodHandle" ∧ yX11_sleeps.cls ≠ "java/lang/invoke/VarHandle" ∧ (parseMethodDescriptor yX11_sleeps.desc).map (fun d => d.parameters.length) = some 2) := by decide +kernel
theorem yd_X11_look : (yX11_look.cls ≠ "java/lang/invoke/MethodHandle" ∧ yX11_look.cls ≠ "java/lang/invoke/VarHandle" ∧ (parseMethodDescriptor yX11_look.desc).map (fun d => d.parameters.length) = some 1) := by decide +kernel
theorem yd_X11_missed : (yX11_missed.cls ≠ "java/lang/invoke/MethodHandle" ∧ yX11_missed.cls ≠ "java/lang/invoke/VarHandle" ∧ (parseMethodDescriptor yX11_missed.desc).map (fun d => d.parameters.length) = some 2) := by decide +kernel
theorem yd_X11_needed : (yX11_needed.cls ≠ "java/lang/invoke/MethodHandle" ∧ yX11_needed.cls ≠ "java/lang/invoke/VarHandle" ∧ (parseMethodDescriptor yX11_needed.desc).map (fun d => d.parameters.length) = some 3) := by decide +kernel
theorem yd_X11_longer : (yX11_longer.cls ≠ "java/lang/invoke/MethodHandle" ∧ yX11_longer.cls ≠ "java/lang/invoke/VarHandle" ∧ (parseMethodDescriptor yX11_longer.desc).map (fun d => d.parameters.length) = some 1) := by decide +kernel
theorem yd_X11_shifts : (yX11_shifts.cls ≠ "java/lang/invoke/MethodHandle" ∧ yX11_shifts.cls ≠ "java/lang/invoke/VarHandle" ∧ (parseMethodDescriptor yX11_shifts.desc).map (fun d => d.parameters.length) = some 1) := by decide +kernel
theorem yd_X11_proves : (yX11_proves.cls ≠ "java/lang/invoke/MethodHandle" ∧ yX11_proves.cls ≠ "java/lang/invoke/VarHandle" ∧ (parseMethodDescriptor yX11_proves.desc).map (fun d => d.parameters.length) = some 1) := by decide +kernel
theorem yd_X11_waits : (yX11_waits.cls ≠ "java/lang/invoke/MethodHandle" ∧ yX11_waits.cls ≠ "java/lang/invoke/VarHandle" ∧ (parseMethodDescriptor yX11_waits.desc).map (fun d => d.parameters.length) = some 1) := by decide +kernel
theorem yd_X11_list : (yX11_list.cls ≠ "java/lang/invoke/MethodHandle" ∧ yX11_list.cls ≠ "java/lang/invoke/VarHandle" ∧ (parseMethodDescriptor yX11_list.desc).map (fun d => d.parameters.length) = some 1) := by decide +kernel
theorem yd_X11_earliest : (yX11_earliest.cls ≠ "java/lang/invoke/MethodHandle" ∧ yX11_earliest.cls ≠ "java/lang/invoke/VarHandle" ∧ (parseMethodDescriptor yX11_earliest.desc).map (fun d => d.parameters.length) = some 1) := by decide +kernel
theorem yd_X11_admit : (yX11_admit.cls ≠ "java/lang/invoke/MethodHandle" ∧ yX11_admit.cls ≠ "java/lang/invoke/VarHandle" ∧ (parseMethodDescriptor yX11_admit.desc).map (fun d => d.parameters.length) = some 1) := by decide +kernel
theorem yd_X11_places : (yX11_places.cls ≠ "java/lang/invoke/MethodHandle" ∧ yX11_places.cls ≠ "java/lang/invoke/VarHandle" ∧ (parseMethodDescriptor yX11_places.desc).map (fun d => d.parameters.length) = some 3) := by decide +kernel
theorem yd_X11_rate : (yX11_rate.cls ≠ "java/lang/invoke/MethodHandle" ∧ yX11_rate.cls ≠ "java/lang/invoke/VarHandle" ∧ (parseMethodDescriptor yX11_rate.desc).map (fun d => d.parameters.length) = some 1) := by decide +kernel
theorem yd_X11_bill : (yX11_bill.cls ≠ "java/lang/invoke/MethodHandle" ∧ yX11_bill.cls ≠ "java/lang/invoke/VarHandle" ∧ (parseMethodDescriptor yX11_bill.desc).map (fun d => d.parameters.length) = some 4) := by decide +kernel
theorem yd_X11_text : (yX11_text.cls ≠ "java/lang/invoke/MethodHandle" ∧ yX11_text.cls ≠ "java/lang/invoke/VarHandle" ∧ (parseMethodDescriptor yX11_text.desc).map (fun d => d.parameters.length) = some 1) := by decide +kernel
theorem yd_X11_wrong : (yX11_wrong.cls ≠ "java/lang/invoke/MethodHandle" ∧ yX11_wrong.cls ≠ "java/lang/invoke/VarHandle" ∧ (parseMethodDescriptor yX11_wrong.desc).map (fun d => d.parameters.length) = some 0) := by decide +kernel
theorem yd_X11_sheet : (yX11_sheet.cls ≠ "java/lang/invoke/MethodHandle" ∧ yX11_sheet.cls ≠ "java/lang/invoke/VarHandle" ∧ (parseMethodDescriptor yX11_sheet.desc).map (fun d => d.parameters.length) = some 3) := by decide +kernel
theorem yd_X11_put : (yX11_put.cls ≠ "java/lang/invoke/MethodHandle" ∧ yX11_put.cls ≠ "java/lang/invoke/VarHandle" ∧ (parseMethodDescriptor yX11_put.desc).map (fun d => d.parameters.length) = some 3) := by decide +kernel
theorem yd_X11_copy : (yX11_copy.cls ≠ "java/lang/invoke/MethodHandle" ∧ yX11_copy.cls ≠ "java/lang/invoke/VarHandle" ∧ (parseMethodDescriptor yX11_copy.desc).map (fun d => d.parameters.length) = some 5) := by decide +kernel
theorem yd_X11_undo : (yX11_undo.cls ≠ "java/lang/invoke/MethodHandle" ∧ yX11_undo.cls ≠ "java/lang/invoke/VarHandle" ∧ (parseMethodDescriptor yX11_undo.desc).map (fun d => d.parameters.length) = some 0) := by decide +kernel
theorem yd_X11_all : (yX11_all.cls ≠ "java/lang/invoke/MethodHandle" ∧ yX11_all.cls ≠ "java/lang/invoke/VarHandle" ∧ (parseMethodDescriptor yX11_all.desc).map (fun d => d.parameters.length) = some 1) := by decide +kernel
theorem yd_X11_finding : (yX11_finding.cls ≠ "java/lang/invoke/MethodHandle" ∧ yX11_finding.cls ≠ "java/lang/invoke/VarHandle" ∧ (parseMethodDescriptor yX11_finding.desc).map (fun d => d.parameters.length) = some 1) := by decide +kernel
theorem yd_X11_keep : (yX11_keep.cls ≠ "java/lang/invoke/MethodHandle" ∧ yX11_keep.cls ≠ "java/lang/invoke/VarHandle" ∧ (parseMethodDescriptor yX11_keep.desc).map (fun d => d.parameters.length) = some 0) := by decide +kernel
theorem yd_X11_sheetFinding : (yX11_sheetFinding.cls ≠ "java/lang/invoke/MethodHandle" ∧ yX11_sheetFinding.cls ≠ "java/lang/invoke/VarHandle" ∧ (parseMethodDescriptor yX11_sheetFinding.desc).map (fun d => d.parameters.length) = some 1) := by decide +kernel
theorem yd_X11_hasEnough : (yX11_hasEnough.cls ≠ "java/lang/invoke/MethodHandle" ∧ yX11_hasEnough.cls ≠ "java/lang/invoke/VarHandle" ∧ (parseMethodDescriptor yX11_hasEnough.desc).map (fun d => d.parameters.length) = some 1) := by decide +kernel
theorem yd_X11_planMoves : (yX11_planMoves.cls ≠ "java/lang/invoke/MethodHandle" ∧ yX11_planMoves.cls ≠ "java/lang/invoke/VarHandle" ∧ (parseMethodDescriptor yX11_planMoves.desc).map (fun d => d.parameters.length) = some 0) := by decide +kernel
theorem yd_X11_leastMonth : (yX11_leastMonth.cls ≠ "java/lang/invoke/MethodHandle" ∧ yX11_leastMonth.cls ≠ "java/lang/invoke/VarHandle" ∧ (parseMethodDescriptor yX11_leastMonth.desc).map (fun d => d.parameters.length) = some 1) := by decide +kernel
theorem yd_X11_isWithin : (yX11_isWithin.cls ≠ "java/lang/invoke/MethodHandle" ∧ yX11_isWithin.cls ≠ "java/lang/invoke/VarHandle" ∧ (parseMethodDescriptor yX11_isWithin.desc).map (fun d => d.parameters.length) = some 3) := by decide +kernel
theorem yd_X11_isKind : (yX11_isKind.cls ≠ "java/lang/invoke/MethodHandle" ∧ yX11_isKind.cls ≠ "java/lang/invoke/VarHandle" ∧ (parseMethodDescriptor yX11_isKind.desc).map (fun d => d.parameters.length) = some 1) := by decide +kernel
theorem yd_X11_isMonth : (yX11_isMonth.cls ≠ "java/lang/invoke/MethodHandle" ∧ yX11_isMonth.cls ≠ "java/lang/invoke/VarHandle" ∧ (parseMethodDescriptor yX11_isMonth.desc).map (fun d => d.parameters.length) = some 1) := by decide +kernel
theorem yd_X11_isSlot : (yX11_isSlot.cls ≠ "java/lang/invoke/MethodHandle" ∧ yX11_isSlot.cls ≠ "java/lang/invoke/VarHandle" ∧ (parseMethodDescriptor yX11_isSlot.desc).map (fun d => d.parameters.length) = some 1) := by decide +kernel
theorem yd_X11_isPerson : (yX11_isPerson.cls ≠ "java/lang/invoke/MethodHandle" ∧ yX11_isPerson.cls ≠ "java/lang/invoke/VarHandle" ∧ (parseMethodDescriptor yX11_isPerson.desc).map (fun d => d.parameters.length) = some 1) := by decide +kernel
theorem yd_X11_isSheet : (yX11_isSheet.cls ≠ "java/lang/invoke/MethodHandle" ∧ yX11_isSheet.cls ≠ "java/lang/invoke/VarHandle" ∧ (parseMethodDescriptor yX11_isSheet.desc).map (fun d => d.parameters.length) = some 1) := by decide +kernel
theorem yd_X11_isUnder : (yX11_isUnder.cls ≠ "java/lang/invoke/MethodHandle" ∧ yX11_isUnder.cls ≠ "java/lang/invoke/VarHandle" ∧ (parseMethodDescriptor yX11_isUnder.desc).map (fun d => d.parameters.length) = some 2) := by decide +kernel
theorem yd_X11_hasBit : (yX11_hasBit.cls ≠ "java/lang/invoke/MethodHandle" ∧ yX11_hasBit.cls ≠ "java/lang/invoke/VarHandle" ∧ (parseMethodDescriptor yX11_hasBit.desc).map (fun d => d.parameters.length) = some 2) := by decide +kernel
theorem yd_X11_with : (yX11_with.cls ≠ "java/lang/invoke/MethodHandle" ∧ yX11_with.cls ≠ "java/lang/invoke/VarHandle" ∧ (parseMethodDescriptor yX11_with.desc).map (fun d => d.parameters.length) = some 2) := by decide +kernel
theorem yd_X11_without : (yX11_without.cls ≠ "java/lang/invoke/MethodHandle" ∧ yX11_without.cls ≠ "java/lang/invoke/VarHandle" ∧ (parseMethodDescriptor yX11_without.desc).map (fun d => d.parameters.length) = some 2) := by decide +kernel
theorem yd_X11_oneIf : (yX11_oneIf.cls ≠ "java/lang/invoke/MethodHandle" ∧ yX11_oneIf.cls ≠ "java/lang/invoke/VarHandle" ∧ (parseMethodDescriptor yX11_oneIf.desc).map (fun d => d.parameters.length) = some 1) := by decide +kernel
theorem yd_X11_quotientUpwards : (yX11_quotientUpwards.cls ≠ "java/lang/invoke/MethodHandle" ∧ yX11_quotientUpwards.cls ≠ "java/lang/invoke/VarHandle" ∧ (parseMethodDescriptor yX11_quotientUpwards.desc).map (fun d => d.parameters.length) = some 2) := by decide +kernel
theorem yd_X12_init : (yX12_init.cls ≠ "java/lang/invoke/MethodHandle" ∧ yX12_init.cls ≠ "java/lang/invoke/VarHandle" ∧ (parseMethodDescriptor yX12_init.desc).map (fun d => d.parameters.length) = some 0) := by decide +kernel
theorem yd_X12_finding : (yX12_finding.cls ≠ "java/lang/invoke/MethodHandle" ∧ yX12_finding.cls ≠ "java/lang/invoke/VarHandle" ∧ (parseMethodDescriptor yX12_finding.desc).map (fun d => d.parameters.length) = some 1) := by decide +kernel
theorem yd_X12_isIn : (yX12_isIn.cls ≠ "java/lang/invoke/MethodHandle" ∧ yX12_isIn.cls ≠ "java/lang/invoke/VarHandle" ∧ (parseMethodDescriptor yX12_isIn.desc).map (fun d => d.parameters.length) = some 3) := by decide +kernel
theorem yd_X12_keep : (yX12_keep.cls ≠ "java/lang/invoke/MethodHandle" ∧ yX12_keep.cls ≠ "java/lang/invoke/VarHandle" ∧ (parseMethodDescriptor yX12_keep.desc).map (fun d => d.parameters.length) = some 0) := by decide +kernel
theorem yd_X12_isRoom : (yX12_isRoom.cls ≠ "java/lang/invoke/MethodHandle" ∧ yX12_isRoom.cls ≠ "java/lang/invoke/VarHandle" ∧ (parseMethodDescriptor yX12_isRoom.desc).map (fun d => d.parameters.length) = some 1) := by decide +kernel
theorem yd_X12_isHand : (yX12_isHand.cls ≠ "java/lang/invoke/MethodHandle" ∧ yX12_isHand.cls ≠ "java/lang/invoke/VarHandle" ∧ (parseMethodDescriptor yX12_isHand.desc).map (fun d => d.parameters.length) = some 1) := by decide +kernel
theorem yd_X12_isChild : (yX12_isChild.cls ≠ "java/lang/invoke/MethodHandle" ∧ yX12_isChild.cls ≠ "java/lang/invoke/VarHandle" ∧ (parseMethodDescriptor yX12_isChild.desc).map (fun d => d.parameters.length) = some 1) := by decide +kernel
theorem yd_X12_ones : (yX12_ones.cls ≠ "java/lang/invoke/MethodHandle" ∧ yX12_ones.cls ≠ "java/lang/invoke/VarHandle" ∧ (parseMethodDescriptor yX12_ones.desc).map (fun d => d.parameters.length) = some 1) := by decide +kernel
theorem yd_X12_room : (yX12_room.cls ≠ "java/lang/invoke/MethodHandle" ∧ yX12_room.cls ≠ "java/lang/invoke/VarHandle" ∧ (parseMethodDescriptor yX12_room.desc).map (fun d => d.parameters.length) = some 2) := by decide +kernel
theorem yd_X12_hand : (yX12_hand.cls ≠ "java/lang/invoke/MethodHandle" ∧ yX12_hand.cls ≠ "java/lang/invoke/VarHandle" ∧ (parseMethodDescriptor yX12_hand.desc).map (fun d => d.parameters.length) = some 1) := by decide +kernel
theorem yd_X12_isTrained : (yX12_isTrained.cls ≠ "java/lang/invoke/MethodHandle" ∧ yX12_isTrained.cls ≠ "java/lang/invoke/VarHandle" ∧ (parseMethodDescriptor yX12_isTrained.desc).map (fun d => d.parameters.length) = some 1) := by decide +kernel
theorem yd_X12_as : (yX12_as.cls ≠ "java/lang/invoke/MethodHandle" ∧ yX12_as.cls ≠ "java/lang/invoke/VarHandle" ∧ (parseMethodDescriptor yX12_as.desc).map (fun d => d.parameters.length) = some 2) := by decide +kernel
theorem yd_X12_child : (yX12_child.cls ≠ "java/lang/invoke/MethodHandle" ∧ yX12_child.cls ≠ "java/lang/invoke/VarHandle" ∧ (parseMethodDescriptor yX12_child.desc).map (fun d => d.parameters.length) = some 4) := by decide +kernel
theorem yd_X12_childIs : (yX12_childIs.cls ≠ "java/lang/invoke/MethodHandle" ∧ yX12_childIs.cls ≠ "java/lang/invoke/VarHandle" ∧ (parseMethodDescriptor yX12_childIs.desc).map (fun d => d.parameters.length) = some 2) := by decide +kernel
theorem yd_X12_takes : (yX12_takes.cls ≠ "java/lang/invoke/MethodHandle" ∧ yX12_takes.cls ≠ "java/lang/invoke/VarHandle" ∧ (parseMethodDescriptor yX12_takes.desc).map (fun d => d.parameters.length) = some 2) := by decide +kernel
theorem yd_X12_roomIn : (yX12_roomIn.cls ≠ "java/lang/invoke/MethodHandle" ∧ yX12_roomIn.cls ≠ "java/lang/invoke/VarHandle" ∧ (parseMethodDescriptor yX12_roomIn.desc).map (fun d => d.parameters.length) = some 2) := by decide +kernel
theorem yd_X12_isMonth : (yX12_isMonth.cls ≠ "java/lang/invoke/MethodHandle" ∧ yX12_isMonth.cls ≠ "java/lang/invoke/VarHandle" ∧ (parseMethodDescriptor yX12_isMonth.desc).map (fun d => d.parameters.length) = some 1) := by decide +kernel
theorem yd_X12_roomOf : (yX12_roomOf.cls ≠ "java/lang/invoke/MethodHandle" ∧ yX12_roomOf.cls ≠ "java/lang/invoke/VarHandle" ∧ (parseMethodDescriptor yX12_roomOf.desc).map (fun d => d.parameters.length) = some 2) := by decide +kernel
theorem yd_X12_month : (yX12_month.cls ≠ "java/lang/invoke/MethodHandle" ∧ yX12_month.cls ≠ "java/lang/invoke/VarHandle" ∧ (parseMethodDescriptor yX12_month.desc).map (fun d => d.parameters.length) = some 1) := by decide +kernel
theorem yd_X12_slot : (yX12_slot.cls ≠ "java/lang/invoke/MethodHandle" ∧ yX12_slot.cls ≠ "java/lang/invoke/VarHandle" ∧ (parseMethodDescriptor yX12_slot.desc).map (fun d => d.parameters.length) = some 1) := by decide +kernel
theorem yd_X12_day : (yX12_day.cls ≠ "java/lang/invoke/MethodHandle" ∧ yX12_day.cls ≠ "java/lang/invoke/VarHandle" ∧ (parseMethodDescriptor yX12_day.desc).map (fun d => d.parameters.length) = some 0) := by decide +kernel
theorem yd_X12_childrenIn : (yX12_childrenIn.cls ≠ "java/lang/invoke/MethodHandle" ∧ yX12_childrenIn.cls ≠ "java/lang/invoke/VarHandle" ∧ (parseMethodDescriptor yX12_childrenIn.desc).map (fun d => d.parameters.length) = some 1) := by decide +kernel
theorem yd_X12_lead : (yX12_lead.cls ≠ "java/lang/invoke/MethodHandle" ∧ yX12_lead.cls ≠ "java/lang/invoke/VarHandle" ∧ (parseMethodDescriptor yX12_lead.desc).map (fun d => d.parameters.length) = some 6) := by decide +kernel
theorem yd_X12_leadRoll : (yX12_leadRoll.cls ≠ "java/lang/invoke/MethodHandle" ∧ yX12_leadRoll.cls ≠ "java/lang/invoke/VarHandle" ∧ (parseMethodDescriptor yX12_leadRoll.desc).map (fun d => d.parameters.length) = some 2) := by decide +kernel
theorem yd_X12_leadSleep : (yX12_leadSleep.cls ≠ "java/lang/invoke/MethodHandle" ∧ yX12_leadSleep.cls ≠ "java/lang/invoke/VarHandle" ∧ (parseMethodDescriptor yX12_leadSleep.desc).map (fun d => d.parameters.length) = some 2) := by decide +kernel
theorem yd_X12_in : (yX12_in.cls ≠ "java/lang/invoke/MethodHandle" ∧ yX12_in.cls ≠ "java/lang/invoke/VarHandle" ∧ (parseMethodDescriptor yX12_in.desc).map (fun d => d.parameters.length) = some 2) := by decide +kernel
theorem yd_X12_to : (yX12_to.cls ≠ "java/lang/invoke/MethodHandle" ∧ yX12_to.cls ≠ "java/lang/invoke/VarHandle" ∧ (parseMethodDescriptor yX12_to.desc).map (fun d => d.parameters.length) = some 2) := by decide +kernel
theorem yd_X12_over : (yX12_over.cls ≠ "java/lang/invoke/MethodHandle" ∧ yX12_over.cls ≠ "java/lang/invoke/VarHandle" ∧ (parseMethodDescriptor yX12_over.desc).map (fun d => d.parameters.length) = some 2) := by decide +kernel
theorem yd_X12_fetches : (yX12_fetches.cls ≠ "java/lang/invoke/MethodHandle" ∧ yX12_fetches.cls ≠ "java/lang/invoke/VarHandle" ∧ (parseMethodDescriptor yX12_fetches.desc).map (fun d => d.parameters.length) = some 3) := by decide +kernel
theorem yd_X12_place : (yX12_place.cls ≠ "java/lang/invoke/MethodHandle" ∧ yX12_place.cls ≠ "java/lang/invoke/VarHandle" ∧ (parseMethodDescriptor yX12_place.desc).map (fun d => d.parameters.length) = some 2) := by decide +kernel
theorem yd_X12_ill : (yX12_ill.cls ≠ "java/lang/invoke/MethodHandle" ∧ yX12_ill.cls ≠ "java/lang/invoke/VarHandle" ∧ (parseMethodDescriptor yX12_ill.desc).map (fun d => d.parameters.length) = some 1) := by decide +kernel
theorem yd_X12_goes : (yX12_goes.cls ≠ "java/lang/invoke/MethodHandle" ∧ yX12_goes.cls ≠ "java/lang/invoke/VarHandle" ∧ (parseMethodDescriptor yX12_goes.desc).map (fun d => d.parameters.length) = some 1) := by decide +kernel
theorem yd_X12_read : (yX12_read.cls ≠ "java/lang/invoke/MethodHandle" ∧ yX12_read.cls ≠ "java/lang/invoke/VarHandle" ∧ (parseMethodDescriptor yX12_read.desc).map (fun d => d.parameters.length) = some 0) := by decide +kernel
theorem yd_X12_upwards : (yX12_upwards.cls ≠ "java/lang/invoke/MethodHandle" ∧ yX12_upwards.cls ≠ "java/lang/invoke/VarHandle" ∧ (parseMethodDescriptor yX12_upwards.desc).map (fun d => d.parameters.length) = some 2) := by decide +kernel
theorem yd_X12_needOf : (yX12_needOf.cls ≠ "java/lang/invoke/MethodHandle" ∧ yX12_needOf.cls ≠ "java/lang/invoke/VarHandle" ∧ (parseMethodDescriptor yX12_needOf.desc).map (fun d => d.parameters.length) = some 1) := by decide +kernel
theorem yd_X12_worthOf : (yX12_worthOf.cls ≠ "java/lang/invoke/MethodHandle" ∧ yX12_worthOf.cls ≠ "java/lang/invoke/VarHandle" ∧ (parseMethodDescriptor yX12_worthOf.desc).map (fun d => d.parameters.length) = some 1) := by decide +kernel
theorem yd_X12_handsIn : (yX12_handsIn.cls ≠ "java/lang/invoke/MethodHandle" ∧ yX12_handsIn.cls ≠ "java/lang/invoke/VarHandle" ∧ (parseMethodDescriptor yX12_handsIn.desc).map (fun d => d.parameters.length) = some 1) := by decide +kernel
theorem yd_X12_areEnough : (yX12_areEnough.cls ≠ "java/lang/invoke/MethodHandle" ∧ yX12_areEnough.cls ≠ "java/lang/invoke/VarHandle" ∧ (parseMethodDescriptor yX12_areEnough.desc).map (fun d => d.parameters.length) = some 3) := by decide +kernel
theorem yd_X12_hasEnough : (yX12_hasEnough.cls ≠ "java/lang/invoke/MethodHandle" ∧ yX12_hasEnough.cls ≠ "java/lang/invoke/VarHandle" ∧ (parseMethodDescriptor yX12_hasEnough.desc).map (fun d => d.parameters.length) = some 1) := by decide +kernel
theorem yd_X12_now : (yX12_now.cls ≠ "java/lang/invoke/MethodHandle" ∧ yX12_now.cls ≠ "java/lang/invoke/VarHandle" ∧ (parseMethodDescriptor yX12_now.desc).map (fun d => d.parameters.length) = some 2) := by decide +kernel
theorem yd_X12_lacking : (yX12_lacking.cls ≠ "java/lang/invoke/MethodHandle" ∧ yX12_lacking.cls ≠ "java/lang/invoke/VarHandle" ∧ (parseMethodDescriptor yX12_lacking.desc).map (fun d => d.parameters.length) = some 0) := by decide +kernel
theorem yd_X12_tries : (yX12_tries.cls ≠ "java/lang/invoke/MethodHandle" ∧ yX12_tries.cls ≠ "java/lang/invoke/VarHandle" ∧ (parseMethodDescriptor yX12_tries.desc).map (fun d => d.parameters.length) = some 2) := by decide +kernel
theorem yd_X12_findMoves : (yX12_findMoves.cls ≠ "java/lang/invoke/MethodHandle" ∧ yX12_findMoves.cls ≠ "java/lang/invoke/VarHandle" ∧ (parseMethodDescriptor yX12_findMoves.desc).map (fun d => d.parameters.length) = some 0) := by decide +kernel
theorem yd_X12_moves : (yX12_moves.cls ≠ "java/lang/invoke/MethodHandle" ∧ yX12_moves.cls ≠ "java/lang/invoke/VarHandle" ∧ (parseMethodDescriptor yX12_moves.desc).map (fun d => d.parameters.length) = some 0) := by decide +kernel
theorem yd_X12_moved : (yX12_moved.cls ≠ "java/lang/invoke/MethodHandle" ∧ yX12_moved.cls ≠ "java/lang/invoke/VarHandle" ∧ (parseMethodDescriptor yX12_moved.desc).map (fun d => d.parameters.length) = some 1) := by decide +kernel
theorem yd_X12_move : (yX12_move.cls ≠ "java/lang/invoke/MethodHandle" ∧ yX12_move.cls ≠ "java/lang/invoke/VarHandle" ∧ (parseMethodDescriptor yX12_move.desc).map (fun d => d.parameters.length) = some 0) := by decide +kernel
theorem yd_X12_wasIn : (yX12_wasIn.cls ≠ "java/lang/invoke/MethodHandle" ∧ yX12_wasIn.cls ≠ "java/lang/invoke/VarHandle" ∧ (parseMethodDescriptor yX12_wasIn.desc).map (fun d => d.parameters.length) = some 2) := by decide +kernel
theorem yd_X12_roll : (yX12_roll.cls ≠ "java/lang/invoke/MethodHandle" ∧ yX12_roll.cls ≠ "java/lang/invoke/VarHandle" ∧ (parseMethodDescriptor yX12_roll.desc).map (fun d => d.parameters.length) = some 2) := by decide +kernel
theorem yd_X12_sleeps : (yX12_sleeps.cls ≠ "java/lang/invoke/MethodHandle" ∧ yX12_sleeps.cls ≠ "java/lang/invoke/VarHandle" ∧ (parseMethodDescriptor yX12_sleeps.desc).map (fun d => d.parameters.length) = some 2) := by decide +kernel
theorem yd_X12_look : (yX12_look.cls ≠ "java/lang/invoke/MethodHandle" ∧ yX12_look.cls ≠ "java/lang/invoke/VarHandle" ∧ (parseMethodDescriptor yX12_look.desc).map (fun d => d.parameters.length) = some 1) := by decide +kernel
theorem yd_X12_missed : (yX12_missed.cls ≠ "java/lang/invoke/MethodHandle" ∧ yX12_missed.cls ≠ "java/lang/invoke/VarHandle" ∧ (parseMethodDescriptor yX12_missed.desc).map (fun d => d.parameters.length) = some 2) := by decide +kernel
theorem yd_X12_needed : (yX12_needed.cls ≠ "java/lang/invoke/MethodHandle" ∧ yX12_needed.cls ≠ "java/lang/invoke/VarHandle" ∧ (parseMethodDescriptor yX12_needed.desc).map (fun d => d.parameters.length) = some 3) := by decide +kernel
theorem yd_X12_longer : (yX12_longer.cls ≠ "java/lang/invoke/MethodHandle" ∧ yX12_longer.cls ≠ "java/lang/invoke/VarHandle" ∧ (parseMethodDescriptor yX12_longer.desc).map (fun d => d.parameters.length) = some 1) := by decide +kernel
theorem yd_X12_putShift : (yX12_putShift.cls ≠ "java/lang/invoke/MethodHandle" ∧ yX12_putShift.cls ≠ "java/lang/invoke/VarHandle" ∧ (parseMethodDescriptor yX12_putShift.desc).map (fun d => d.parameters.length) = some 1) := by decide +kernel
theorem yd_X12_findShifts : (yX12_findShifts.cls ≠ "java/lang/invoke/MethodHandle" ∧ yX12_findShifts.cls ≠ "java/lang/invoke/VarHandle" ∧ (parseMethodDescriptor yX12_findShifts.desc).map (fun d => d.parameters.length) = some 0) := by decide +kernel
theorem yd_X12_shifts : (yX12_shifts.cls ≠ "java/lang/invoke/MethodHandle" ∧ yX12_shifts.cls ≠ "java/lang/invoke/VarHandle" ∧ (parseMethodDescriptor yX12_shifts.desc).map (fun d => d.parameters.length) = some 1) := by decide +kernel
theorem yd_X12_proves : (yX12_proves.cls ≠ "java/lang/invoke/MethodHandle" ∧ yX12_proves.cls ≠ "java/lang/invoke/VarHandle" ∧ (parseMethodDescriptor yX12_proves.desc).map (fun d => d.parameters.length) = some 1) := by decide +kernel
theorem yd_X12_listed : (yX12_listed.cls ≠ "java/lang/invoke/MethodHandle" ∧ yX12_listed.cls ≠ "java/lang/invoke/VarHandle" ∧ (parseMethodDescriptor yX12_listed.desc).map (fun d => d.parameters.length) = some 1) := by decide +kernel
theorem yd_X12_waits : (yX12_waits.cls ≠ "java/lang/invoke/MethodHandle" ∧ yX12_waits.cls ≠ "java/lang/invoke/VarHandle" ∧ (parseMethodDescriptor yX12_waits.desc).map (fun d => d.parameters.length) = some 1) := by decide +kernel
theorem yd_X12_areSiblings : (yX12_areSiblings.cls ≠ "java/lang/invoke/MethodHandle" ∧ yX12_areSiblings.cls ≠ "java/lang/invoke/VarHandle" ∧ (parseMethodDescriptor yX12_areSiblings.desc).map (fun d => d.parameters.length) = some 2) := by decide +kernel
theorem yd_X12_hasSibling : (yX12_hasSibling.cls ≠ "java/lang/invoke/MethodHandle" ∧ yX12_hasSibling.cls ≠ "java/lang/invoke/VarHandle" ∧ (parseMethodDescriptor yX12_hasSibling.desc).map (fun d => d.parameters.length) = some 1) := by decide +kernel
theorem yd_X12_list : (yX12_list.cls ≠ "java/lang/invoke/MethodHandle" ∧ yX12_list.cls ≠ "java/lang/invoke/VarHandle" ∧ (parseMethodDescriptor yX12_list.desc).map (fun d => d.parameters.length) = some 1) := by decide +kernel
theorem yd_X12_haveIn : (yX12_haveIn.cls ≠ "java/lang/invoke/MethodHandle" ∧ yX12_haveIn.cls ≠ "java/lang/invoke/VarHandle" ∧ (parseMethodDescriptor yX12_haveIn.desc).map (fun d => d.parameters.length) = some 3) := by decide +kernel
theorem yd_X12_can : (yX12_can.cls ≠ "java/lang/invoke/MethodHandle" ∧ yX12_can.cls ≠ "java/lang/invoke/VarHandle" ∧ (parseMethodDescriptor yX12_can.desc).map (fun d => d.parameters.length) = some 2) := by decide +kernel
theorem yd_X12_leastMonth : (yX12_leastMonth.cls ≠ "java/lang/invoke/MethodHandle" ∧ yX12_leastMonth.cls ≠ "java/lang/invoke/VarHandle" ∧ (parseMethodDescriptor yX12_leastMonth.desc).map (fun d => d.parameters.length) = some 1) := by decide +kernel
theorem yd_X12_earliest : (yX12_earliest.cls ≠ "java/lang/invoke/MethodHandle" ∧ yX12_earliest.cls ≠ "java/lang/invoke/VarHandle" ∧ (parseMethodDescriptor yX12_earliest.desc).map (fun d => d.parameters.length) = some 1) := by decide +kernel
theorem yd_X12_admit : (yX12_admit.cls ≠ "java/lang/invoke/MethodHandle" ∧ yX12_admit.cls ≠ "java/lang/invoke/VarHandle" ∧ (parseMethodDescriptor yX12_admit.desc).map (fun d => d.parameters.length) = some 1) := by decide +kernel
theorem yd_X12_places : (yX12_places.cls ≠ "java/lang/invoke/MethodHandle" ∧ yX12_places.cls ≠ "java/lang/invoke/VarHandle" ∧ (parseMethodDescriptor yX12_places.desc).map (fun d => d.parameters.length) = some 3) := by decide +kernel
theorem yd_X12_rate : (yX12_rate.cls ≠ "java/lang/invoke/MethodHandle" ∧ yX12_rate.cls ≠ "java/lang/invoke/VarHandle" ∧ (parseMethodDescriptor yX12_rate.desc).map (fun d => d.parameters.length) = some 1) := by decide +kernel
theorem yd_X12_bill : (yX12_bill.cls ≠ "java/lang/invoke/MethodHandle" ∧ yX12_bill.cls ≠ "java/lang/invoke/VarHandle" ∧ (parseMethodDescriptor yX12_bill.desc).map (fun d => d.parameters.length) = some 4) := by decide +kernel
theorem yd_X12_isSheet : (yX12_isSheet.cls ≠ "java/lang/invoke/MethodHandle" ∧ yX12_isSheet.cls ≠ "java/lang/invoke/VarHandle" ∧ (parseMethodDescriptor yX12_isSheet.desc).map (fun d => d.parameters.length) = some 1) := by decide +kernel
theorem yd_X12_text : (yX12_text.cls ≠ "java/lang/invoke/MethodHandle" ∧ yX12_text.cls ≠ "java/lang/invoke/VarHandle" ∧ (parseMethodDescriptor yX12_text.desc).map (fun d => d.parameters.length) = some 1) := by decide +kernel
theorem yd_X12_wrong : (yX12_wrong.cls ≠ "java/lang/invoke/MethodHandle" ∧ yX12_wrong.cls ≠ "java/lang/invoke/VarHandle" ∧ (parseMethodDescriptor yX12_wrong.desc).map (fun d => d.parameters.length) = some 0) := by decide +kernel
theorem yd_X12_lowest : (yX12_lowest.cls ≠ "java/lang/invoke/MethodHandle" ∧ yX12_lowest.cls ≠ "java/lang/invoke/VarHandle" ∧ (parseMethodDescriptor yX12_lowest.desc).map (fun d => d.parameters.length) = some 2) := by decide +kernel
theorem yd_X12_sheet : (yX12_sheet.cls ≠ "java/lang/invoke/MethodHandle" ∧ yX12_sheet.cls ≠ "java/lang/invoke/VarHandle" ∧ (parseMethodDescriptor yX12_sheet.desc).map (fun d => d.parameters.length) = some 3) := by decide +kernel
theorem yd_X12_put : (yX12_put.cls ≠ "java/lang/invoke/MethodHandle" ∧ yX12_put.cls ≠ "java/lang/invoke/VarHandle" ∧ (parseMethodDescriptor yX12_put.desc).map (fun d => d.parameters.length) = some 3) := by decide +kernel
theorem yd_X12_copy : (yX12_copy.cls ≠ "java/lang/invoke/MethodHandle" ∧ yX12_copy.cls ≠ "java/lang/invoke/VarHandle" ∧ (parseMethodDescriptor yX12_copy.desc).map (fun d => d.parameters.length) = some 5) := by decide +kernel
theorem yd_X12_undo : (yX12_undo.cls ≠ "java/lang/invoke/MethodHandle" ∧ yX12_undo.cls ≠ "java/lang/invoke/VarHandle" ∧ (parseMethodDescriptor yX12_undo.desc).map (fun d => d.parameters.length) = some 0) := by decide +kernel
theorem yd_X12_all : (yX12_all.cls ≠ "java/lang/invoke/MethodHandle" ∧ yX12_all.cls ≠ "java/lang/invoke/VarHandle" ∧ (parseMethodDescriptor yX12_all.desc).map (fun d => d.parameters.length) = some 1) := by decide +kernel
theorem yd_J6_bitCount_0f7a4 : (yJ6_bitCount_0f7a4.cls ≠ "java/lang/invoke/MethodHandle" ∧ yJ6_bitCount_0f7a4.cls ≠ "java/lang/invoke/VarHandle" ∧ (parseMethodDescriptor yJ6_bitCount_0f7a4.desc).map (fun d => d.parameters.length) = some 1) := by decide +kernel
theorem yd_J9_floorDiv_f86c9 : (yJ9_floorDiv_f86c9.cls ≠ "java/lang/invoke/MethodHandle" ∧ yJ9_floorDiv_f86c9.cls ≠ "java/lang/invoke/VarHandle" ∧ (parseMethodDescriptor yJ9_floorDiv_f86c9.desc).map (fun d => d.parameters.length) = some 2) := by decide +kernel
theorem yd_J9_max_7cf53 : (yJ9_max_7cf53.cls ≠ "java/lang/invoke/MethodHandle" ∧ yJ9_max_7cf53.cls ≠ "java/lang/invoke/VarHandle" ∧ (parseMethodDescriptor yJ9_max_7cf53.desc).map (fun d => d.parameters.length) = some 2) := by decide +kernel
theorem yd_J9_max_f86c9 : (yJ9_max_f86c9.cls ≠ "java/lang/invoke/MethodHandle" ∧ yJ9_max_f86c9.cls ≠ "java/lang/invoke/VarHandle" ∧ (parseMethodDescriptor yJ9_max_f86c9.desc).map (fun d => d.parameters.length) = some 2) := by decide +kernel
theorem yd_J9_min_7cf53 : (yJ9_min_7cf53.cls ≠ "java/lang/invoke/MethodHandle" ∧ yJ9_min_7cf53.cls ≠ "java/lang/invoke/VarHandle" ∧ (parseMethodDescriptor yJ9_min_7cf53.desc).map (fun d => d.parameters.length) = some 2) := by decide +kernel
theorem yd_J9_min_f86c9 : (yJ9_min_f86c9.cls ≠ "java/lang/invoke/MethodHandle" ∧ yJ9_min_f86c9.cls ≠ "java/lang/invoke/VarHandle" ∧ (parseMethodDescriptor yJ9_min_f86c9.desc).map (fun d => d.parameters.length) = some 2) := by decide +kernel
theorem yd_J7_fill_53178 : (yJ7_fill_53178.cls ≠ "java/lang/invoke/MethodHandle" ∧ yJ7_fill_53178.cls ≠ "java/lang/invoke/VarHandle" ∧ (parseMethodDescriptor yJ7_fill_53178.desc).map (fun d => d.parameters.length) = some 2) := by decide +kernel
end
section
/-! my own rows over the kit's: one list of words for all methods, one bundle of facts, one row a call -/
abbrev kG : Type := va_G × (ClassId × ClassId × ClassId × ClassId × ClassId)
abbrev gI (g : kG) : ClassId := g.2.1
abbrev gJ (g : kG) : ClassId := g.2.2.1
abbrev gZ (g : kG) : ClassId := g.2.2.2.1
abbrev gN (g : kG) : ClassId := g.2.2.2.2.1
abbrev gS (g : kG) : ClassId := g.2.2.2.2.2
abbrev kT (g : kG) : List (ClassId × FieldType) := [(gI g, .int), (gJ g, .long), (gZ g, .boolean), (gN g, .object "SmallRooms$Nursery"), (gS g, .object "SmallRooms$Sheet")]
theorem kNW_each : ∀ w ∈ nestW, (∃ a i x h, w = Cond.methodLinkNest a i x h) ∨ (∃ a i b n d h, w = Cond.fieldLinkNest a i b n d h) := by
  intro w hw
  simp only [nestW, List.mem_cons, List.not_mem_nil, or_false] at hw
  rcases hw with rfl | rfl | rfl | rfl | rfl | rfl | rfl | rfl | rfl | rfl | rfl | rfl | rfl | rfl | rfl | rfl | rfl | rfl | rfl | rfl | rfl | rfl | rfl | rfl | rfl | rfl | rfl | rfl | rfl | rfl <;> first | exact Or.inl ⟨_, _, _, _, rfl⟩ | exact Or.inr ⟨_, _, _, _, _, _, rfl⟩
def kNW (U : State) : Prop := ∀ w ∈ nestW, va_Nw w U
theorem kNW.warm {s U : State} (hW : s.WarmedH U.vm) (h : kNW s) : kNW U := by
  intro w hw
  have h1 := h w hw
  rcases kNW_each w hw with ⟨a, i, x, y, rfl⟩ | ⟨a, i, b, n, d, y, rfl⟩
  · exact va_Nw.warmM hW h1
  · exact va_Nw.warmF hW h1
theorem kNW.same {u U : State} (hv : u.vm = U.vm) (h : kNW u) : kNW U := by
  intro w hw
  have h1 := h w hw
  rcases kNW_each w hw with ⟨a, i, x, y, rfl⟩ | ⟨a, i, b, n, d, y, rfl⟩
  · exact va_Nw.same rfl hv h1
  · exact va_Nw.same rfl hv h1
def kKW (g : kG) (U : State) : Prop := va_K g.1 vwCl (kT g) U ∧ kNW U ∧ va_AO "SmallRooms$Nursery" U ∧ va_AO "SmallRooms$Sheet" U
theorem kKW.warm {g : kG} {s U : State} (hW : s.WarmedH U.vm) (h : kKW g s) : kKW g U := ⟨va_K.moved hW.alike h.1, kNW.warm hW h.2.1, va_AO.moved hW.alike h.2.2.1, va_AO.moved hW.alike h.2.2.2⟩
theorem kKW.calling {g : kG} {U : State} (gg : JFrame) (mk : MethodId) (a : Array Value) (h : kKW g U) : kKW g (U.calling gg mk a) := ⟨va_K.moved (u := U) (U := U.calling gg mk a) (Vm.Alike.refl U.vm) h.1, kNW.same (u := U) (U := U.calling gg mk a) rfl h.2.1, va_AO.moved (u := U) (U := U.calling gg mk a) (Vm.Alike.refl U.vm) h.2.2.1, va_AO.moved (u := U) (U := U.calling gg mk a) (Vm.Alike.refl U.vm) h.2.2.2⟩
def kPre (g : kG) (sz : Nat) (ws : va_W) (U : State) : Prop := U.heap.size = sz ∧ va_P g.1 vwCl ws U.heap ∧ kKW g U ∧ va_D (fun _ => True) ws
theorem kPre.blind (av : List Value) (g : kG) (sz : Nat) (ws : va_W) : FrameBlind (va_Pc av (kPre g sz ws)) := fun a U gg mk q => ⟨q.1, q.2.1, q.2.2.1, kKW.calling gg mk a q.2.2.2.1, q.2.2.2.2⟩
def kPost (g : kG) (A : Nat → Prop) (w : va_W) (t : State) : Prop := va_P g.1 vwCl w t.heap ∧ va_D A w
abbrev kR (lev mc ms : Nat) : Room := { frames := lev, cells := mc, slots := ms, locals := 64 * lev }
theorem k_good : GoodIn wsL_law wsL_law := goodIn_sub (fun _ h => h) (by decide +kernel)
theorem k_goodC {k : Cond} (h : k ∈ wsL_law) : GoodIn wsL_law (k :: wsL_law) := fun w hw => (List.mem_cons.mp hw).elim (fun e => e ▸ k_good k h) (k_good w)
def kMi (l : Launch) (g : kG) (y : MethodName) (cc : ByteArray) (n : Nat) (r : Option FieldType) (lev mc ms : Nat) (av : List Value) (sz : Nat) (ws : va_W) {S : Type} (post : Int32 → S → Prop) (w1 : S → va_W) : Prop :=
  Met l y (Cond.code y cc n r :: wsL_law) (kR lev mc ms) (va_Pc av (kPre g sz ws)) (va_Qi post (fun u t => kPost g (va_A ws sz) (w1 u) t) (va_A ws sz)) mc ms (va_A ws sz)
def kMv (l : Launch) (g : kG) (y : MethodName) (cc : ByteArray) (n : Nat) (r : Option FieldType) (lev mc ms : Nat) (av : List Value) (sz : Nat) (ws : va_W) {S : Type} (post : S → Prop) (w1 : S → va_W) : Prop :=
  Met l y (Cond.code y cc n r :: wsL_law) (kR lev mc ms) (va_Pc av (kPre g sz ws)) (va_Qv post (fun u t => kPost g (va_A ws sz) (w1 u) t) (va_A ws sz)) mc ms (va_A ws sz)
theorem kMi.of {l : Launch} {g : kG} {y : MethodName} {cc : ByteArray} {n : Nat} {r : Option FieldType} {lev mc ms : Nat} {av : List Value} {sz : Nat} {ws : va_W} {S : Type} {post : Int32 → S → Prop} {w1 : S → va_W} (hy : plainName y.cls = true) (hlen : (lg_sl av).length ≤ n)
    (body : ∀ (p : Program) (e : Env) (s : State) (m : MethodId) (below : List Frame) (meth : Method) (c : Code) (A : Nat → Prop), p.tables.exec = Jvm.exec → c.code = cc → meth.sig.returnType = r → c.maxLocals = n → s.vm.findClass y.cls = some m.cls → (∀ w ∈ wsL_law, w.before av.toArray s = true) → meth.locks = false → meth.name = y.name → kKW g s → va_P g.1 vwCl ws s.heap → va_D A ws → va_S A s.heap s.heap [] → (∀ q, s.heap.size ≤ q → A q) → ∀ ls : Array Slot, lv_has ls n (lv_args 0 av) →
      W p l e (kR lev mc ms) s m av.toArray below meth c s.heap [] 0 0 (MQ below (va_Qi post (fun u t => kPost g A (w1 u) t) A) av.toArray s mc ms A) (F0 m 0 ls [])) : kMi l g y cc n r lev mc ms av sz ws post w1 := by
  unfold kMi
  refine Met.ofW (cc := cc) (maxL := n) (ret := r) hy rfl ?_
  intro p e s m args below meth c s₁ B hml hv
  obtain ⟨rfl, hsz, hP, hK, hD0⟩ := hv
  have hts := atoms_spec (ws := Cond.code y cc n r :: wsL_law) B.pre
  have hown : s.vm.findClass y.cls = some m.cls := findClass_of_methodNamed B.named
  have hin : meth.name = y.name := (name_of_methodNamed B.named B.method).1
  subst hsz
  have hD := hD0.self (sz := s.heap.size)
  have hA : ∀ q : Nat, s.heap.size ≤ q → va_A ws s.heap.size q := fun q h => Or.inr h
  have hl := lv_entry av (n := n) hlen
  rw [lg_entry_eq]
  exact body p e s m below meth c _ B.exec B.bytes B.returns hml hown (fun w h => hts w (List.mem_cons_of_mem _ h)) B.notSynchronized hin hK hP hD va_S.rf hA _ hl
theorem kMv.of {l : Launch} {g : kG} {y : MethodName} {cc : ByteArray} {n : Nat} {r : Option FieldType} {lev mc ms : Nat} {av : List Value} {sz : Nat} {ws : va_W} {S : Type} {post : S → Prop} {w1 : S → va_W} (hy : plainName y.cls = true) (hlen : (lg_sl av).length ≤ n)
    (body : ∀ (p : Program) (e : Env) (s : State) (m : MethodId) (below : List Frame) (meth : Method) (c : Code) (A : Nat → Prop), p.tables.exec = Jvm.exec → c.code = cc → meth.sig.returnType = r → c.maxLocals = n → s.vm.findClass y.cls = some m.cls → (∀ w ∈ wsL_law, w.before av.toArray s = true) → meth.locks = false → meth.name = y.name → kKW g s → va_P g.1 vwCl ws s.heap → va_D A ws → va_S A s.heap s.heap [] → (∀ q, s.heap.size ≤ q → A q) → ∀ ls : Array Slot, lv_has ls n (lv_args 0 av) →
      W p l e (kR lev mc ms) s m av.toArray below meth c s.heap [] 0 0 (MQ below (va_Qv post (fun u t => kPost g A (w1 u) t) A) av.toArray s mc ms A) (F0 m 0 ls [])) : kMv l g y cc n r lev mc ms av sz ws post w1 := by
  unfold kMv
  refine Met.ofW (cc := cc) (maxL := n) (ret := r) hy rfl ?_
  intro p e s m args below meth c s₁ B hml hv
  obtain ⟨rfl, hsz, hP, hK, hD0⟩ := hv
  have hts := atoms_spec (ws := Cond.code y cc n r :: wsL_law) B.pre
  have hown : s.vm.findClass y.cls = some m.cls := findClass_of_methodNamed B.named
  have hin : meth.name = y.name := (name_of_methodNamed B.named B.method).1
  subst hsz
  have hD := hD0.self (sz := s.heap.size)
  have hA : ∀ q : Nat, s.heap.size ≤ q → va_A ws s.heap.size q := fun q h => Or.inr h
  have hl := lv_entry av (n := n) hlen
  rw [lg_entry_eq]
  exact body p e s m below meth c _ B.exec B.bytes B.returns hml hown (fun w h => hts w (List.mem_cons_of_mem _ h)) B.notSynchronized hin hK hP hD va_S.rf hA _ hl
section KRows
variable {p : Program} {l : Launch} {e : Env} {R : Room} {s : State} {m : MethodId} {args : Array Value} {below : List Frame} {meth : Method} {c : Code} {H H0 : Heap} {locs : List Loc} {cells slots : Nat} {Q : State → Prop} {A : Nat → Prop} {g : kG} {cc : ByteArray} {pc : Nat} {ls : Array Slot} {rest : List Value} {ws : va_W}
/-- the top of the stack by another name -/
theorem k_top {x y : Int32} (h : x = y) (k : W p l e R s m args below meth c H locs cells slots Q (F0 m pc ls (.int y :: rest))) : W p l e R s m args below meth c H locs cells slots Q (F0 m pc ls (.int x :: rest)) := h ▸ k
theorem k_iret {S : Type} {post : Int32 → S → Prop} {w1 : S → va_W} {v : Int32} {mc ms : Nat} (u : S) (is : List Nat) (hexec : p.tables.exec = Jvm.exec) (hb : c.code = cc) (hr : meth.sig.returnType = some .int) (hlk : meth.locks = false) (hP : va_P g.1 vwCl ws H) (hD : va_D A ws) (hS : va_S A s.heap H locs) (hp : post v u) (hn : va_nd is = true) (h1 : is.filterMap (fun i => ws[i]?) = w1 u) (h2 : is.map (fun i => ws[i]?) = (w1 u).map some) (hc : cells ≤ mc) (hs : slots ≤ ms) (hdg : decode cc pc = .ok (.ireturn, 1)) :
    W p l e R s m args below meth c H locs cells slots (MQ below (va_Qi post (fun u t => kPost g A (w1 u) t) A) args s mc ms A) (F0 m pc ls [.int v]) := by
  refine W.widen hc hs ?_
  exact W.iret hexec hb hr (fun t ht _ => ⟨⟨v, u, rfl, hp, by rw [ht]; exact hP.sub is h1, hD.sub is hn h2⟩, hS.F ht⟩) hS.2.2 hdg hlk
theorem k_zret {S : Type} {post : Int32 → S → Prop} {w1 : S → va_W} {v : Int32} {mc ms : Nat} (u : S) (is : List Nat) (hexec : p.tables.exec = Jvm.exec) (hb : c.code = cc) (hr : meth.sig.returnType = some .boolean) (hlk : meth.locks = false) (hP : va_P g.1 vwCl ws H) (hD : va_D A ws) (hS : va_S A s.heap H locs) (hp : post v u) (hv : narrow .boolean (.int v) = .int v) (hn : va_nd is = true) (h1 : is.filterMap (fun i => ws[i]?) = w1 u) (h2 : is.map (fun i => ws[i]?) = (w1 u).map some) (hc : cells ≤ mc) (hs : slots ≤ ms) (hdg : decode cc pc = .ok (.ireturn, 1)) :
    W p l e R s m args below meth c H locs cells slots (MQ below (va_Qi post (fun u t => kPost g A (w1 u) t) A) args s mc ms A) (F0 m pc ls [.int v]) := by
  refine W.widen hc hs ?_
  exact W.zret hexec hb hr hv (fun t ht _ => ⟨⟨v, u, rfl, hp, by rw [ht]; exact hP.sub is h1, hD.sub is hn h2⟩, hS.F ht⟩) hS.2.2 hdg hlk
theorem k_vret {S : Type} {post : S → Prop} {w1 : S → va_W} {mc ms : Nat} (u : S) (is : List Nat) (hexec : p.tables.exec = Jvm.exec) (hb : c.code = cc) (hr : meth.sig.returnType = none) (hlk : meth.locks = false) (hP : va_P g.1 vwCl ws H) (hD : va_D A ws) (hS : va_S A s.heap H locs) (hp : post u) (hn : va_nd is = true) (h1 : is.filterMap (fun i => ws[i]?) = w1 u) (h2 : is.map (fun i => ws[i]?) = (w1 u).map some) (hc : cells ≤ mc) (hs : slots ≤ ms) (hdg : decode cc pc = .ok (.return_, 1)) :
    W p l e R s m args below meth c H locs cells slots (MQ below (va_Qv post (fun u t => kPost g A (w1 u) t) A) args s mc ms A) (F0 m pc ls []) := by
  refine W.widen hc hs ?_
  exact W.vret hexec hb hr (fun t ht _ => ⟨⟨u, rfl, hp, by rw [ht]; exact hP.sub is h1, hD.sub is hn h2⟩, hS.F ht⟩) hS.2.2 hdg hlk
/-- array classes are one to a type -/
theorem k_oneC {D : va_G} {cl : List vw_C} {tys : List (ClassId × FieldType)} {cA cB : ClassId} {ty : FieldType} (t0 : Nat) (ht : tys[t0]? = some (cB, ty)) (hK : va_K D cl (tys ++ [(cA, ty)]) s) : cA = cB := by
  have h1 := (hK.2 tys.length (cA, ty) (by rw [List.getElem?_append_right (Nat.le_refl _)]; simp)).2
  have h2 := (hK.2 t0 (cB, ty) (by rw [List.getElem?_append_left (List.getElem?_eq_some_iff.mp ht).1]; exact ht)).2
  have key : ∀ c : ClassId, va_RA s c ty → s.vm.findClass ("[" ++ ty.toString) = some c := by
    intro c h
    unfold va_RA at h
    split at h
    · obtain ⟨_, _, _, _, _, h⟩ := h; exact h
    · exact h
  have e1 := key _ h1
  rw [key _ h2] at e1
  exact (Option.some.inj e1).symm
theorem k_newi {n : Int32} {N' : Nat} (hexec : p.tables.exec = Jvm.exec) (hb : c.code = cc) (harr : (Cond.arrayClass .int).before args s = true) (hKW : kKW g s) (hP : va_P g.1 vwCl ws H) (hD : va_D A ws) (hS : va_S A H0 H locs) (hA : ∀ q, H0.size ≤ q → A q) (hn : ¬ n < 0) (hN : n.toNatClampNeg = N') (hbytes : N' * 4 ≤ 536870912) (hcells : cells + 1 ≤ R.cells) (hslots : slots + N' ≤ R.slots) (hdg : decode cc pc = .ok (.newarray .int, 2))
    (kk : ∀ (q : Nat) (H1 : Heap), va_P g.1 vwCl (ws ++ [(q, .inl (gI g, N', .inl (fun _ => 0)))]) H1 → va_D A (ws ++ [(q, .inl (gI g, N', .inl (fun _ => 0)))]) → va_S A H0 H1 locs → W p l e R s m args below meth c H1 locs (cells + 1) (slots + N') Q (F0 m (pc + 2) ls (.ref q :: rest))) : W p l e R s m args below meth c H locs cells slots Q (F0 m pc ls (.int n :: rest)) := by
  refine va_newa (atype := .int) (ty := .int) (a0 := (N', .inl (fun _ => 0))) hexec hb harr rfl hKW.1 hP hD hS hA (fun _ => rfl) hn hN hbytes hcells hslots hdg (fun q cA H1 hK1 hP1 hD1 hS1 => ?_)
  obtain rfl : cA = gI g := k_oneC 0 rfl hK1
  exact kk q H1 hP1 hD1 hS1
theorem k_newl {n : Int32} {N' : Nat} (hexec : p.tables.exec = Jvm.exec) (hb : c.code = cc) (harr : (Cond.arrayClass .long).before args s = true) (hKW : kKW g s) (hP : va_P g.1 vwCl ws H) (hD : va_D A ws) (hS : va_S A H0 H locs) (hA : ∀ q, H0.size ≤ q → A q) (hn : ¬ n < 0) (hN : n.toNatClampNeg = N') (hbytes : N' * 8 ≤ 536870912) (hcells : cells + 1 ≤ R.cells) (hslots : slots + N' ≤ R.slots) (hdg : decode cc pc = .ok (.newarray .long, 2))
    (kk : ∀ (q : Nat) (H1 : Heap), va_P g.1 vwCl (ws ++ [(q, .inl (gJ g, N', .inr (.inl (fun _ => 0))))]) H1 → va_D A (ws ++ [(q, .inl (gJ g, N', .inr (.inl (fun _ => 0))))]) → va_S A H0 H1 locs → W p l e R s m args below meth c H1 locs (cells + 1) (slots + N') Q (F0 m (pc + 2) ls (.ref q :: rest))) : W p l e R s m args below meth c H locs cells slots Q (F0 m pc ls (.int n :: rest)) := by
  refine va_newa (atype := .long) (ty := .long) (a0 := (N', .inr (.inl (fun _ => 0)))) hexec hb harr rfl hKW.1 hP hD hS hA (fun _ => rfl) hn hN hbytes hcells hslots hdg (fun q cA H1 hK1 hP1 hD1 hS1 => ?_)
  obtain rfl : cA = gJ g := k_oneC 1 rfl hK1
  exact kk q H1 hP1 hD1 hS1
theorem k_newz {n : Int32} {N' : Nat} (hexec : p.tables.exec = Jvm.exec) (hb : c.code = cc) (harr : (Cond.arrayClass .boolean).before args s = true) (hKW : kKW g s) (hP : va_P g.1 vwCl ws H) (hD : va_D A ws) (hS : va_S A H0 H locs) (hA : ∀ q, H0.size ≤ q → A q) (hn : ¬ n < 0) (hN : n.toNatClampNeg = N') (hbytes : N' * 1 ≤ 536870912) (hcells : cells + 1 ≤ R.cells) (hslots : slots + N' ≤ R.slots) (hdg : decode cc pc = .ok (.newarray .boolean, 2))
    (kk : ∀ (q : Nat) (H1 : Heap), va_P g.1 vwCl (ws ++ [(q, .inl (gZ g, N', .inl (fun _ => 0)))]) H1 → va_D A (ws ++ [(q, .inl (gZ g, N', .inl (fun _ => 0)))]) → va_S A H0 H1 locs → W p l e R s m args below meth c H1 locs (cells + 1) (slots + N') Q (F0 m (pc + 2) ls (.ref q :: rest))) : W p l e R s m args below meth c H locs cells slots Q (F0 m pc ls (.int n :: rest)) := by
  refine va_newa (atype := .boolean) (ty := .boolean) (a0 := (N', .inl (fun _ => 0))) hexec hb harr rfl hKW.1 hP hD hS hA (fun _ => rfl) hn hN hbytes hcells hslots hdg (fun q cA H1 hK1 hP1 hD1 hS1 => ?_)
  obtain rfl : cA = gZ g := k_oneC 2 rfl hK1
  exact kk q H1 hP1 hD1 hS1
theorem k_newN {own : String} {index : Nat} {n : Int32} {N' : Nat} (hexec : p.tables.exec = Jvm.exec) (hb : c.code = cc) (hown : s.vm.findClass own = some m.cls) (hcl : (Cond.classLink own index "SmallRooms$Nursery").before args s = true) (hKW : kKW g s) (hP : va_P g.1 vwCl ws H) (hD : va_D A ws) (hS : va_S A H0 H locs) (hA : ∀ q, H0.size ≤ q → A q) (hn : ¬ n < 0) (hN : n.toNatClampNeg = N') (hbytes : N' * 4 ≤ 536870912) (hcells : cells + 1 ≤ R.cells) (hslots : slots + N' ≤ R.slots) (hdg : decode cc pc = .ok (.anewarray index, 3))
    (kk : ∀ (q : Nat) (H1 : Heap), va_P g.1 vwCl (ws ++ [(q, .inl (gN g, N', .inr (.inr (.inr (.inr (fun _ => none))))))]) H1 → va_D A (ws ++ [(q, .inl (gN g, N', .inr (.inr (.inr (.inr (fun _ => none))))))]) → va_S A H0 H1 locs → W p l e R s m args below meth c H1 locs (cells + 1) (slots + N') Q (F0 m (pc + 3) ls (.ref q :: rest))) : W p l e R s m args below meth c H locs cells slots Q (F0 m pc ls (.int n :: rest)) := by
  refine va_newq (C := "SmallRooms$Nursery") hexec hb hown hcl hKW.2.2.1 hKW.1 hP hD hS hA hn hN hbytes hcells hslots hdg (fun q cA H1 hK1 hP1 hD1 hS1 => ?_)
  obtain rfl : cA = gN g := k_oneC 3 rfl hK1
  exact kk q H1 hP1 hD1 hS1
theorem k_newS {own : String} {index : Nat} {n : Int32} {N' : Nat} (hexec : p.tables.exec = Jvm.exec) (hb : c.code = cc) (hown : s.vm.findClass own = some m.cls) (hcl : (Cond.classLink own index "SmallRooms$Sheet").before args s = true) (hKW : kKW g s) (hP : va_P g.1 vwCl ws H) (hD : va_D A ws) (hS : va_S A H0 H locs) (hA : ∀ q, H0.size ≤ q → A q) (hn : ¬ n < 0) (hN : n.toNatClampNeg = N') (hbytes : N' * 4 ≤ 536870912) (hcells : cells + 1 ≤ R.cells) (hslots : slots + N' ≤ R.slots) (hdg : decode cc pc = .ok (.anewarray index, 3))
    (kk : ∀ (q : Nat) (H1 : Heap), va_P g.1 vwCl (ws ++ [(q, .inl (gS g, N', .inr (.inr (.inr (.inr (fun _ => none))))))]) H1 → va_D A (ws ++ [(q, .inl (gS g, N', .inr (.inr (.inr (.inr (fun _ => none))))))]) → va_S A H0 H1 locs → W p l e R s m args below meth c H1 locs (cells + 1) (slots + N') Q (F0 m (pc + 3) ls (.ref q :: rest))) : W p l e R s m args below meth c H locs cells slots Q (F0 m pc ls (.int n :: rest)) := by
  refine va_newq (C := "SmallRooms$Sheet") hexec hb hown hcl hKW.2.2.2 hKW.1 hP hD hS hA hn hN hbytes hcells hslots hdg (fun q cA H1 hK1 hP1 hD1 hS1 => ?_)
  obtain rfl : cA = gS g := k_oneC 4 rfl hK1
  exact kk q H1 hP1 hD1 hS1
/-- behind a call: the callee's cells as it left them, the rest as it was -/
theorem k_after {t : State} {H1 : Heap} {wc wr w1 : va_W} (isC isR : List Nat) (hP : va_P g.1 vwCl ws H) (hD : va_D A ws) (hC : isC.map (fun i => ws[i]?) = wc.map some) (hR : isR.map (fun i => ws[i]?) = wr.map some) (hn : va_nd isR = true) (hdis : ∀ i ∈ isR, i ∉ isC) (hF : ∀ q, va_A wc H.size q → A q) (ht : t.heap = H1) (hB : kPost g (va_A wc H.size) w1 t) (hk : ∀ q : Nat, q < H.size → ¬ va_A wc H.size q → H1[q]? = H[q]?) : va_P g.1 vwCl (wr ++ w1) H1 ∧ va_D A (wr ++ w1) := by
  have h1 : va_P g.1 vwCl w1 H1 := by rw [← ht]; exact hB.1
  exact va_join hP hD isC isR hC hR hn hdis hk hF h1 hB.2
variable {own C : String} {index n nn nL maxL lev mc ms : Nat} {y : MethodName} {bytes : ByteArray} {ret : Option FieldType} {As : List Value} {b : Addr} {wc wr : va_W} {S : Type} {w1 : S → va_W}
theorem k_cb (hts : ∀ w ∈ wsL_law, w.before args s = true) (hcode : Cond.code y bytes maxL ret ∈ wsL_law) (hini : Cond.initialized y.cls ∈ wsL_law) (hl : Cond.methodLink own index y ∈ wsL_law) (hd : y.cls ≠ "java/lang/invoke/MethodHandle" ∧ y.cls ≠ "java/lang/invoke/VarHandle" ∧ (parseMethodDescriptor y.desc).map (fun d => d.parameters.length) = some n) (hR : lev + 1 ≤ R.frames ∧ 8 + (maxL + 11) + 64 * lev ≤ R.locals) : CallB R s args own index y bytes maxL ret (Cond.code y bytes maxL ret :: wsL_law) (kR lev mc ms) mc ms n :=
  callB_of n hts (k_goodC hcode) rfl rfl rfl (hts _ hini) (hts _ hl) hd hR
theorem k_pre {av : List Value} (isC : List Nat) (hKW : kKW g s) (hP : va_P g.1 vwCl ws H) (hD : va_D A ws) (hn : va_nd isC = true) (h1 : isC.filterMap (fun i => ws[i]?) = wc) (h2 : isC.map (fun i => ws[i]?) = wc.map some) : ∀ U : State, U.heap = H → s.WarmedH U.vm → va_Pc av (kPre g H.size wc) av.toArray U := fun U hU hW => ⟨rfl, by rw [hU], by rw [hU]; exact hP.sub isC h1, kKW.warm hW hKW, (hD.sub isC hn h2).weaken (fun _ _ _ _ => trivial)⟩
/-- a static call of an int method -/
theorem k_Si {post : Int32 → S → Prop} (isC isR : List Nat) (hexec : p.tables.exec = Jvm.exec) (hb : c.code = cc) (hml : c.maxLocals = nL) (hown : s.vm.findClass own = some m.cls) (hts : ∀ w ∈ wsL_law, w.before args s = true) (hKW : kKW g s) (hP : va_P g.1 vwCl ws H) (hD : va_D A ws) (hS : va_S A H0 H locs) (hA : ∀ q, H0.size ≤ q → A q) (hsz : ls.size = nL)
    (hM : kMi l g y bytes maxL ret lev mc ms As H.size wc post w1)
    (hcode : Cond.code y bytes maxL ret ∈ wsL_law) (hini : Cond.initialized y.cls ∈ wsL_law) (hl : Cond.methodLink own index y ∈ wsL_law) (hst : Cond.static y ∈ wsL_law) (hd : y.cls ≠ "java/lang/invoke/MethodHandle" ∧ y.cls ≠ "java/lang/invoke/VarHandle" ∧ (parseMethodDescriptor y.desc).map (fun d => d.parameters.length) = some As.length) (hR : lev + 1 ≤ R.frames ∧ 8 + (maxL + 11) + 64 * lev ≤ R.locals)
    (hnC : va_nd isC = true) (hC1 : isC.filterMap (fun i => ws[i]?) = wc) (hC2 : isC.map (fun i => ws[i]?) = wc.map some) (hnR : va_nd isR = true) (hR2 : isR.map (fun i => ws[i]?) = wr.map some) (hdis : ∀ i ∈ isR, i ∉ isC)
    {st0 : List Value} (hst0 : st0 = As.reverse ++ rest) (hcat : (rest.map fun v => v.category).sum ≤ 8) (hdg : decode cc pc = .ok (.invokestatic index, 3)) (hf : cells + mc ≤ R.cells ∧ slots + ms ≤ R.slots)
    (kk : ∀ (r : Int32) (u : S) (H1 : Heap) (locs1 : List Loc), post r u → va_P g.1 vwCl (wr ++ w1 u) H1 → va_D A (wr ++ w1 u) → va_S A H0 H1 locs1 → W p l e R s m args below meth c H1 locs1 (cells + mc) (slots + ms) Q (F0 m (pc + 3) ls (.int r :: rest))) :
    W p l e R s m args below meth c H locs cells slots Q (F0 m pc ls st0) := by
  subst hst0
  have hFc := va_free (wc := wc) hD hS hA isC hC2
  refine va_calli (va_runS ⟨hexec, hb, hml, hown, hts⟩ hM ⟨k_cb hts hcode hini hl hd hR, hts _ hst⟩ ⟨kPre.blind _ _ _ _, k_pre isC hKW hP hD hnC hC1 hC2⟩ rfl rfl hsz rfl (lv_room hcat) hdg hf) hS (fun q _ h => hFc q h) hFc (fun r u t H1 locs1 ht hvm hw hB hz1 hk1 hS1 => ?_)
  obtain ⟨hP2, hD2⟩ := k_after isC isR hP hD hC2 hR2 hnR hdis hFc ht hB hk1
  exact kk r u H1 locs1 hw hP2 hD2 hS1
theorem k_Sv {post : S → Prop} (isC isR : List Nat) (hexec : p.tables.exec = Jvm.exec) (hb : c.code = cc) (hml : c.maxLocals = nL) (hown : s.vm.findClass own = some m.cls) (hts : ∀ w ∈ wsL_law, w.before args s = true) (hKW : kKW g s) (hP : va_P g.1 vwCl ws H) (hD : va_D A ws) (hS : va_S A H0 H locs) (hA : ∀ q, H0.size ≤ q → A q) (hsz : ls.size = nL)
    (hM : kMv l g y bytes maxL ret lev mc ms As H.size wc post w1)
    (hcode : Cond.code y bytes maxL ret ∈ wsL_law) (hini : Cond.initialized y.cls ∈ wsL_law) (hl : Cond.methodLink own index y ∈ wsL_law) (hst : Cond.static y ∈ wsL_law) (hd : y.cls ≠ "java/lang/invoke/MethodHandle" ∧ y.cls ≠ "java/lang/invoke/VarHandle" ∧ (parseMethodDescriptor y.desc).map (fun d => d.parameters.length) = some As.length) (hR : lev + 1 ≤ R.frames ∧ 8 + (maxL + 11) + 64 * lev ≤ R.locals)
    (hnC : va_nd isC = true) (hC1 : isC.filterMap (fun i => ws[i]?) = wc) (hC2 : isC.map (fun i => ws[i]?) = wc.map some) (hnR : va_nd isR = true) (hR2 : isR.map (fun i => ws[i]?) = wr.map some) (hdis : ∀ i ∈ isR, i ∉ isC)
    {st0 : List Value} (hst0 : st0 = As.reverse ++ rest) (hcat : (rest.map fun v => v.category).sum ≤ 8) (hdg : decode cc pc = .ok (.invokestatic index, 3)) (hf : cells + mc ≤ R.cells ∧ slots + ms ≤ R.slots)
    (kk : ∀ (u : S) (H1 : Heap) (locs1 : List Loc), post u → va_P g.1 vwCl (wr ++ w1 u) H1 → va_D A (wr ++ w1 u) → va_S A H0 H1 locs1 → W p l e R s m args below meth c H1 locs1 (cells + mc) (slots + ms) Q (F0 m (pc + 3) ls rest)) :
    W p l e R s m args below meth c H locs cells slots Q (F0 m pc ls st0) := by
  subst hst0
  have hFc := va_free (wc := wc) hD hS hA isC hC2
  refine va_callv (va_runS ⟨hexec, hb, hml, hown, hts⟩ hM ⟨k_cb hts hcode hini hl hd hR, hts _ hst⟩ ⟨kPre.blind _ _ _ _, k_pre isC hKW hP hD hnC hC1 hC2⟩ rfl rfl hsz rfl (lv_room hcat) hdg hf) hS (fun q _ h => hFc q h) hFc (fun u t H1 locs1 ht hvm hw hB hz1 hk1 hS1 => ?_)
  obtain ⟨hP2, hD2⟩ := k_after isC isR hP hD hC2 hR2 hnR hdis hFc ht hB hk1
  exact kk u H1 locs1 hw hP2 hD2 hS1
/-- a virtual call of an int method; the receiver is the cell 'rq' of the world -/
theorem k_Vi {post : Int32 → S → Prop} (isC isR : List Nat) (rq ci : Nat) {qc : vw_C} {fs : List Value} (hexec : p.tables.exec = Jvm.exec) (hb : c.code = cc) (hml : c.maxLocals = nL) (hown : s.vm.findClass own = some m.cls) (hts : ∀ w ∈ wsL_law, w.before args s = true) (hKW : kKW g s) (hP : va_P g.1 vwCl ws H) (hD : va_D A ws) (hS : va_S A H0 H locs) (hA : ∀ q, H0.size ≤ q → A q) (hsz : ls.size = nL)
    (hM : kMi l g y bytes maxL ret lev mc ms (.ref b :: As) H.size wc post w1)
    (hrc : vwCl[ci]? = some qc) (hre : ws[rq]? = some (b, .inr (ci, fs))) (hyc : y.cls = qc.1)
    (hcode : Cond.code y bytes maxL ret ∈ wsL_law) (hini : Cond.initialized y.cls ∈ wsL_law) (hl : Cond.methodLink own index y ∈ wsL_law) (hin : Cond.instanceMethod y ∈ wsL_law) (hse : Cond.selects y.cls y y ∈ wsL_law) (hd : y.cls ≠ "java/lang/invoke/MethodHandle" ∧ y.cls ≠ "java/lang/invoke/VarHandle" ∧ (parseMethodDescriptor y.desc).map (fun d => d.parameters.length) = some As.length) (hR : lev + 1 ≤ R.frames ∧ 8 + (maxL + 11) + 64 * lev ≤ R.locals)
    (hnC : va_nd isC = true) (hC1 : isC.filterMap (fun i => ws[i]?) = wc) (hC2 : isC.map (fun i => ws[i]?) = wc.map some) (hnR : va_nd isR = true) (hR2 : isR.map (fun i => ws[i]?) = wr.map some) (hdis : ∀ i ∈ isR, i ∉ isC)
    {st0 : List Value} (hst0 : st0 = As.reverse ++ .ref b :: rest) (hcat : (rest.map fun v => v.category).sum ≤ 8) (hdg : decode cc pc = .ok (.invokevirtual index, 3)) (hf : cells + mc ≤ R.cells ∧ slots + ms ≤ R.slots)
    (kk : ∀ (r : Int32) (u : S) (H1 : Heap) (locs1 : List Loc), post r u → va_P g.1 vwCl (wr ++ w1 u) H1 → va_D A (wr ++ w1 u) → va_S A H0 H1 locs1 → W p l e R s m args below meth c H1 locs1 (cells + mc) (slots + ms) Q (F0 m (pc + 3) ls (.int r :: rest))) :
    W p l e R s m args below meth c H locs cells slots Q (F0 m pc ls st0) := by
  subst hst0
  have hFc := va_free (wc := wc) hD hS hA isC hC2
  refine va_calli (va_runV (C := y.cls) (As := As) ⟨hexec, hb, hml, hown, hts⟩ hM ⟨k_cb hts hcode hini hl hd hR, hts _ hin, hts _ hse⟩ ⟨kPre.blind _ _ _ _, hyc ▸ va_recv hKW.1 hP hrc hre, k_pre isC hKW hP hD hnC hC1 hC2⟩ rfl rfl hsz rfl (lv_room hcat) hdg hf) hS (fun q _ h => hFc q h) hFc (fun r u t H1 locs1 ht hvm hw hB hz1 hk1 hS1 => ?_)
  obtain ⟨hP2, hD2⟩ := k_after isC isR hP hD hC2 hR2 hnR hdis hFc ht hB hk1
  exact kk r u H1 locs1 hw hP2 hD2 hS1
theorem k_Vv {post : S → Prop} (isC isR : List Nat) (rq ci : Nat) {qc : vw_C} {fs : List Value} (hexec : p.tables.exec = Jvm.exec) (hb : c.code = cc) (hml : c.maxLocals = nL) (hown : s.vm.findClass own = some m.cls) (hts : ∀ w ∈ wsL_law, w.before args s = true) (hKW : kKW g s) (hP : va_P g.1 vwCl ws H) (hD : va_D A ws) (hS : va_S A H0 H locs) (hA : ∀ q, H0.size ≤ q → A q) (hsz : ls.size = nL)
    (hM : kMv l g y bytes maxL ret lev mc ms (.ref b :: As) H.size wc post w1)
    (hrc : vwCl[ci]? = some qc) (hre : ws[rq]? = some (b, .inr (ci, fs))) (hyc : y.cls = qc.1)
    (hcode : Cond.code y bytes maxL ret ∈ wsL_law) (hini : Cond.initialized y.cls ∈ wsL_law) (hl : Cond.methodLink own index y ∈ wsL_law) (hin : Cond.instanceMethod y ∈ wsL_law) (hse : Cond.selects y.cls y y ∈ wsL_law) (hd : y.cls ≠ "java/lang/invoke/MethodHandle" ∧ y.cls ≠ "java/lang/invoke/VarHandle" ∧ (parseMethodDescriptor y.desc).map (fun d => d.parameters.length) = some As.length) (hR : lev + 1 ≤ R.frames ∧ 8 + (maxL + 11) + 64 * lev ≤ R.locals)
    (hnC : va_nd isC = true) (hC1 : isC.filterMap (fun i => ws[i]?) = wc) (hC2 : isC.map (fun i => ws[i]?) = wc.map some) (hnR : va_nd isR = true) (hR2 : isR.map (fun i => ws[i]?) = wr.map some) (hdis : ∀ i ∈ isR, i ∉ isC)
    {st0 : List Value} (hst0 : st0 = As.reverse ++ .ref b :: rest) (hcat : (rest.map fun v => v.category).sum ≤ 8) (hdg : decode cc pc = .ok (.invokevirtual index, 3)) (hf : cells + mc ≤ R.cells ∧ slots + ms ≤ R.slots)
    (kk : ∀ (u : S) (H1 : Heap) (locs1 : List Loc), post u → va_P g.1 vwCl (wr ++ w1 u) H1 → va_D A (wr ++ w1 u) → va_S A H0 H1 locs1 → W p l e R s m args below meth c H1 locs1 (cells + mc) (slots + ms) Q (F0 m (pc + 3) ls rest)) :
    W p l e R s m args below meth c H locs cells slots Q (F0 m pc ls st0) := by
  subst hst0
  have hFc := va_free (wc := wc) hD hS hA isC hC2
  refine va_callv (va_runV (C := y.cls) (As := As) ⟨hexec, hb, hml, hown, hts⟩ hM ⟨k_cb hts hcode hini hl hd hR, hts _ hin, hts _ hse⟩ ⟨kPre.blind _ _ _ _, hyc ▸ va_recv hKW.1 hP hrc hre, k_pre isC hKW hP hD hnC hC1 hC2⟩ rfl rfl hsz rfl (lv_room hcat) hdg hf) hS (fun q _ h => hFc q h) hFc (fun u t H1 locs1 ht hvm hw hB hz1 hk1 hS1 => ?_)
  obtain ⟨hP2, hD2⟩ := k_after isC isR hP hD hC2 hR2 hnR hdis hFc ht hB hk1
  exact kk u H1 locs1 hw hP2 hD2 hS1
/-- a constructor, called from outside the nest -/
theorem k_I {post : S → Prop} (isC isR : List Nat) (hexec : p.tables.exec = Jvm.exec) (hb : c.code = cc) (hml : c.maxLocals = nL) (hown : s.vm.findClass own = some m.cls) (hts : ∀ w ∈ wsL_law, w.before args s = true) (hKW : kKW g s) (hP : va_P g.1 vwCl ws H) (hD : va_D A ws) (hS : va_S A H0 H locs) (hA : ∀ q, H0.size ≤ q → A q) (hsz : ls.size = nL)
    (hM : kMv l g y bytes maxL none lev mc ms (.ref b :: As) H.size wc post w1) (hy : y.name = "<init>")
    (hcode : Cond.code y bytes maxL none ∈ wsL_law) (hini : Cond.initialized y.cls ∈ wsL_law) (hl : Cond.methodLink own index y ∈ wsL_law) (hin : Cond.instanceMethod y ∈ wsL_law) (hd : y.cls ≠ "java/lang/invoke/MethodHandle" ∧ y.cls ≠ "java/lang/invoke/VarHandle" ∧ (parseMethodDescriptor y.desc).map (fun d => d.parameters.length) = some As.length) (hR : lev + 1 ≤ R.frames ∧ 8 + (maxL + 11) + 64 * lev ≤ R.locals)
    (hnC : va_nd isC = true) (hC1 : isC.filterMap (fun i => ws[i]?) = wc) (hC2 : isC.map (fun i => ws[i]?) = wc.map some) (hnR : va_nd isR = true) (hR2 : isR.map (fun i => ws[i]?) = wr.map some) (hdis : ∀ i ∈ isR, i ∉ isC)
    {st0 : List Value} (hst0 : st0 = As.reverse ++ .ref b :: rest) (hcat : (rest.map fun v => v.category).sum ≤ 8) (hdg : decode cc pc = .ok (.invokespecial index, 3)) (hf : cells + mc ≤ R.cells ∧ slots + ms ≤ R.slots)
    (kk : ∀ (u : S) (H1 : Heap) (locs1 : List Loc), post u → va_P g.1 vwCl (wr ++ w1 u) H1 → va_D A (wr ++ w1 u) → va_S A H0 H1 locs1 → W p l e R s m args below meth c H1 locs1 (cells + mc) (slots + ms) Q (F0 m (pc + 3) ls rest)) :
    W p l e R s m args below meth c H locs cells slots Q (F0 m pc ls st0) := by
  subst hst0
  have hFc := va_free (wc := wc) hD hS hA isC hC2
  refine va_callv (va_runI (As := As) ⟨hexec, hb, hml, hown, hts⟩ hM ⟨k_cb hts hcode hini hl hd hR, hy, hts _ hin⟩ ⟨kPre.blind _ _ _ _, k_pre isC hKW hP hD hnC hC1 hC2⟩ rfl rfl hsz rfl (lv_room hcat) hdg hf) hS (fun q _ h => hFc q h) hFc (fun u t H1 locs1 ht hvm hw hB hz1 hk1 hS1 => ?_)
  obtain ⟨hP2, hD2⟩ := k_after isC isR hP hD hC2 hR2 hnR hdis hFc ht hB hk1
  exact kk u H1 locs1 hw hP2 hD2 hS1
variable {host : String}
theorem k_cn (hts : ∀ w ∈ wsL_law, w.before args s = true) (hKW : kKW g s) (hcode : Cond.code y bytes maxL ret ∈ wsL_law) (hini : Cond.initialized y.cls ∈ wsL_law) (hl : Cond.methodLinkNest own index y host ∈ nestW) (hd : y.cls ≠ "java/lang/invoke/MethodHandle" ∧ y.cls ≠ "java/lang/invoke/VarHandle" ∧ (parseMethodDescriptor y.desc).map (fun d => d.parameters.length) = some n) (hR : lev + 1 ≤ R.frames ∧ 8 + (maxL + 11) + 64 * lev ≤ R.locals) : va_CN R s args own index y host bytes maxL ret (Cond.code y bytes maxL ret :: wsL_law) (kR lev mc ms) mc ms n :=
  va_cnB n hts (k_goodC hcode) rfl rfl rfl (hKW.2.1 _ hl) (hts _ hini) hd hR
/-- a constructor of a nest mate -/
theorem k_IN {post : S → Prop} (isC isR : List Nat) (hexec : p.tables.exec = Jvm.exec) (hb : c.code = cc) (hml : c.maxLocals = nL) (hown : s.vm.findClass own = some m.cls) (hts : ∀ w ∈ wsL_law, w.before args s = true) (hKW : kKW g s) (hP : va_P g.1 vwCl ws H) (hD : va_D A ws) (hS : va_S A H0 H locs) (hA : ∀ q, H0.size ≤ q → A q) (hsz : ls.size = nL)
    (hM : kMv l g y bytes maxL none lev mc ms (.ref b :: As) H.size wc post w1) (hy : y.name = "<init>")
    (hcode : Cond.code y bytes maxL none ∈ wsL_law) (hini : Cond.initialized y.cls ∈ wsL_law) (hl : Cond.methodLinkNest own index y host ∈ nestW) (hin : Cond.instanceMethod y ∈ wsL_law) (hd : y.cls ≠ "java/lang/invoke/MethodHandle" ∧ y.cls ≠ "java/lang/invoke/VarHandle" ∧ (parseMethodDescriptor y.desc).map (fun d => d.parameters.length) = some As.length) (hR : lev + 1 ≤ R.frames ∧ 8 + (maxL + 11) + 64 * lev ≤ R.locals)
    (hnC : va_nd isC = true) (hC1 : isC.filterMap (fun i => ws[i]?) = wc) (hC2 : isC.map (fun i => ws[i]?) = wc.map some) (hnR : va_nd isR = true) (hR2 : isR.map (fun i => ws[i]?) = wr.map some) (hdis : ∀ i ∈ isR, i ∉ isC)
    {st0 : List Value} (hst0 : st0 = As.reverse ++ .ref b :: rest) (hcat : (rest.map fun v => v.category).sum ≤ 8) (hdg : decode cc pc = .ok (.invokespecial index, 3)) (hf : cells + mc ≤ R.cells ∧ slots + ms ≤ R.slots)
    (kk : ∀ (u : S) (H1 : Heap) (locs1 : List Loc), post u → va_P g.1 vwCl (wr ++ w1 u) H1 → va_D A (wr ++ w1 u) → va_S A H0 H1 locs1 → W p l e R s m args below meth c H1 locs1 (cells + mc) (slots + ms) Q (F0 m (pc + 3) ls rest)) :
    W p l e R s m args below meth c H locs cells slots Q (F0 m pc ls st0) := by
  subst hst0
  have hFc := va_free (wc := wc) hD hS hA isC hC2
  refine va_callv (va_runIN (As := As) ⟨hexec, hb, hml, hown, hts⟩ hM ⟨k_cn hts hKW hcode hini hl hd hR, hy, hts _ hin⟩ ⟨kPre.blind _ _ _ _, k_pre isC hKW hP hD hnC hC1 hC2⟩ rfl rfl hsz rfl (lv_room hcat) hdg hf) hS (fun q _ h => hFc q h) hFc (fun u t H1 locs1 ht hvm hw hB hz1 hk1 hS1 => ?_)
  obtain ⟨hP2, hD2⟩ := k_after isC isR hP hD hC2 hR2 hnR hdis hFc ht hB hk1
  exact kk u H1 locs1 hw hP2 hD2 hS1
/-- a static method of a nest mate -/
theorem k_SNi {post : Int32 → S → Prop} (isC isR : List Nat) (hexec : p.tables.exec = Jvm.exec) (hb : c.code = cc) (hml : c.maxLocals = nL) (hown : s.vm.findClass own = some m.cls) (hts : ∀ w ∈ wsL_law, w.before args s = true) (hKW : kKW g s) (hP : va_P g.1 vwCl ws H) (hD : va_D A ws) (hS : va_S A H0 H locs) (hA : ∀ q, H0.size ≤ q → A q) (hsz : ls.size = nL)
    (hM : kMi l g y bytes maxL ret lev mc ms As H.size wc post w1)
    (hcode : Cond.code y bytes maxL ret ∈ wsL_law) (hini : Cond.initialized y.cls ∈ wsL_law) (hl : Cond.methodLinkNest own index y host ∈ nestW) (hst : Cond.static y ∈ wsL_law) (hd : y.cls ≠ "java/lang/invoke/MethodHandle" ∧ y.cls ≠ "java/lang/invoke/VarHandle" ∧ (parseMethodDescriptor y.desc).map (fun d => d.parameters.length) = some As.length) (hR : lev + 1 ≤ R.frames ∧ 8 + (maxL + 11) + 64 * lev ≤ R.locals)
    (hnC : va_nd isC = true) (hC1 : isC.filterMap (fun i => ws[i]?) = wc) (hC2 : isC.map (fun i => ws[i]?) = wc.map some) (hnR : va_nd isR = true) (hR2 : isR.map (fun i => ws[i]?) = wr.map some) (hdis : ∀ i ∈ isR, i ∉ isC)
    {st0 : List Value} (hst0 : st0 = As.reverse ++ rest) (hcat : (rest.map fun v => v.category).sum ≤ 8) (hdg : decode cc pc = .ok (.invokestatic index, 3)) (hf : cells + mc ≤ R.cells ∧ slots + ms ≤ R.slots)
    (kk : ∀ (r : Int32) (u : S) (H1 : Heap) (locs1 : List Loc), post r u → va_P g.1 vwCl (wr ++ w1 u) H1 → va_D A (wr ++ w1 u) → va_S A H0 H1 locs1 → W p l e R s m args below meth c H1 locs1 (cells + mc) (slots + ms) Q (F0 m (pc + 3) ls (.int r :: rest))) :
    W p l e R s m args below meth c H locs cells slots Q (F0 m pc ls st0) := by
  subst hst0
  have hFc := va_free (wc := wc) hD hS hA isC hC2
  refine va_calli (va_runSN ⟨hexec, hb, hml, hown, hts⟩ hM ⟨k_cn hts hKW hcode hini hl hd hR, hts _ hst, trivial⟩ ⟨kPre.blind _ _ _ _, k_pre isC hKW hP hD hnC hC1 hC2⟩ rfl rfl hsz rfl (lv_room hcat) hdg hf) hS (fun q _ h => hFc q h) hFc (fun r u t H1 locs1 ht hvm hw hB hz1 hk1 hS1 => ?_)
  obtain ⟨hP2, hD2⟩ := k_after isC isR hP hD hC2 hR2 hnR hdis hFc ht hB hk1
  exact kk r u H1 locs1 hw hP2 hD2 hS1
end KRows
end
section
def mD0 : Nat → Int32 := fun j => if j = 7 then 36 else if j = 9 then 10 else 0
theorem mD0_of : upd (upd (fun _ => 0) 7 36) 9 10 = mD0 := by
  funext j
  unfold upd mD0
  by_cases h9 : j = 9
  · subst h9; simp
  · by_cases h7 : j = 7
    · subst h7; simp
    · simp [h7, h9]
theorem dX8_init_0 : decode cX8_init 0 = .ok (.aload_n 0, 1) := by decide +kernel
theorem dX8_init_1 : decode cX8_init 1 = .ok (.invokespecial 3, 3) := by decide +kernel
theorem dX8_init_4 : decode cX8_init 4 = .ok (.aload_n 0, 1) := by decide +kernel
theorem dX8_init_5 : decode cX8_init 5 = .ok (.iconst 5, 1) := by decide +kernel
theorem dX8_init_6 : decode cX8_init 6 = .ok (.newarray .int, 2) := by decide +kernel
theorem dX8_init_8 : decode cX8_init 8 = .ok (.putfield 9, 3) := by decide +kernel
theorem dX8_init_11 : decode cX8_init 11 = .ok (.aload_n 0, 1) := by decide +kernel
theorem dX8_init_12 : decode cX8_init 12 = .ok (.iconst 5, 1) := by decide +kernel
theorem dX8_init_13 : decode cX8_init 13 = .ok (.newarray .int, 2) := by decide +kernel
theorem dX8_init_15 : decode cX8_init 15 = .ok (.putfield 15, 3) := by decide +kernel
theorem dX8_init_18 : decode cX8_init 18 = .ok (.aload_n 0, 1) := by decide +kernel
theorem dX8_init_19 : decode cX8_init 19 = .ok (.iconst 5, 1) := by decide +kernel
theorem dX8_init_20 : decode cX8_init 20 = .ok (.newarray .int, 2) := by decide +kernel
theorem dX8_init_22 : decode cX8_init 22 = .ok (.putfield 18, 3) := by decide +kernel
theorem dX8_init_25 : decode cX8_init 25 = .ok (.return_, 1) := by decide +kernel
set_option maxHeartbeats 4000000 in
set_option maxRecDepth 100000 in
theorem c_X8_init (l : Launch) (g : kG) (sz : Nat) (h : Nat) : kMv l g yX8_init cX8_init 1 none 1 3 15 [.ref h] sz [(h, .inr (8, [.int 0, .null, .null, .null]))] (fun (u : (Nat → Nat)) => True) (fun (u : (Nat → Nat)) => ([(h, .inr (8, [.int 0, .ref (u 1), .ref (u 2), .ref (u 3)])), (u 1, .inl (gI g, 5, .inl (fun _ => 0))), (u 2, .inl (gI g, 5, .inl (fun _ => 0))), (u 3, .inl (gI g, 5, .inl (fun _ => 0)))] : va_W)) := by
  refine kMv.of (by decide) (Nat.le_of_ble_eq_true rfl) (fun p e s m below meth c A hx hb hr hml hown hts hlk hnm hKW hP hD hS hA ls hl => ?_)
  have hown : s.vm.findClass RX8 = some m.cls := hown
  have hl : lv_has ls 1 [(0, .ref h)] := hl
  refine lv_aload_n hx hb dX8_init_0 rfl (lv_at hl 0 rfl) ?_
  refine W.objInit hx hb hown (hts _ wd_3_18) (hts _ wd_1_10) (hts _ wd_1_11) rfl (by rw [hml]; exact hl.1) rfl dX8_init_1 (Nat.le_of_ble_eq_true rfl) (Nat.le_of_ble_eq_true rfl) ?_
  refine W.eq (g2 := F0 m 4 ls []) rfl ?_
  refine lv_aload_n hx hb dX8_init_4 rfl (lv_at hl 0 rfl) ?_
  refine lv_iconst (v := 5) hx hb dX8_init_5 (by decide) ?_
  refine k_newi (N' := 5) hx hb (hts _ wd_3_12) hKW hP hD hS hA (by decide) (by decide) (by decide) (Nat.le_of_ble_eq_true rfl) (Nat.le_of_ble_eq_true rfl) dX8_init_6 (fun q_1 H hP hD hS => ?_)
  have hP : va_P g.1 vwCl [(h, .inr (8, [.int 0, .null, .null, .null])), (q_1, .inl (gI g, 5, .inl (fun _ => 0)))] H := hP
  have hD : va_D A [(h, .inr (8, [.int 0, .null, .null, .null])), (q_1, .inl (gI g, 5, .inl (fun _ => 0)))] := hD
  refine W.widen (k := 1) (n := 5) (Nat.le_of_ble_eq_true rfl) (Nat.le_of_ble_eq_true rfl) ?_
  refine va_putF (ci := 8) (v := .ref q_1) (C := RX8) (T := TX8) (N := 4) hx hb hts inlX8 tyX8 tyX8_ok nmX8 hown hKW.1 hP hD hS 0 rfl rfl 1 (by decide) (hts _ wd_3_19) (fun _ h => h) rfl hnm rfl (tyX8_ok 1 (by decide)) rfl rfl (Nat.le_of_ble_eq_true rfl) dX8_init_8 (fun H locs hP hD hS => ?_)
  have hP : va_P g.1 vwCl [(h, .inr (8, [.int 0, .ref q_1, .null, .null])), (q_1, .inl (gI g, 5, .inl (fun _ => 0)))] H := hP
  have hD : va_D A [(h, .inr (8, [.int 0, .ref q_1, .null, .null])), (q_1, .inl (gI g, 5, .inl (fun _ => 0)))] := hD
  refine lv_aload_n hx hb dX8_init_11 rfl (lv_at hl 0 rfl) ?_
  refine lv_iconst (v := 5) hx hb dX8_init_12 (by decide) ?_
  refine k_newi (N' := 5) hx hb (hts _ wd_3_12) hKW hP hD hS hA (by decide) (by decide) (by decide) (Nat.le_of_ble_eq_true rfl) (Nat.le_of_ble_eq_true rfl) dX8_init_13 (fun q_2 H hP hD hS => ?_)
  have hP : va_P g.1 vwCl [(h, .inr (8, [.int 0, .ref q_1, .null, .null])), (q_1, .inl (gI g, 5, .inl (fun _ => 0))), (q_2, .inl (gI g, 5, .inl (fun _ => 0)))] H := hP
  have hD : va_D A [(h, .inr (8, [.int 0, .ref q_1, .null, .null])), (q_1, .inl (gI g, 5, .inl (fun _ => 0))), (q_2, .inl (gI g, 5, .inl (fun _ => 0)))] := hD
  refine W.widen (k := 2) (n := 10) (Nat.le_of_ble_eq_true rfl) (Nat.le_of_ble_eq_true rfl) ?_
  refine va_putF (ci := 8) (v := .ref q_2) (C := RX8) (T := TX8) (N := 4) hx hb hts inlX8 tyX8 tyX8_ok nmX8 hown hKW.1 hP hD hS 0 rfl rfl 2 (by decide) (hts _ wd_3_20) (fun _ h => h) rfl hnm rfl (tyX8_ok 2 (by decide)) rfl rfl (Nat.le_of_ble_eq_true rfl) dX8_init_15 (fun H locs hP hD hS => ?_)
  have hP : va_P g.1 vwCl [(h, .inr (8, [.int 0, .ref q_1, .ref q_2, .null])), (q_1, .inl (gI g, 5, .inl (fun _ => 0))), (q_2, .inl (gI g, 5, .inl (fun _ => 0)))] H := hP
  have hD : va_D A [(h, .inr (8, [.int 0, .ref q_1, .ref q_2, .null])), (q_1, .inl (gI g, 5, .inl (fun _ => 0))), (q_2, .inl (gI g, 5, .inl (fun _ => 0)))] := hD
  refine lv_aload_n hx hb dX8_init_18 rfl (lv_at hl 0 rfl) ?_
  refine lv_iconst (v := 5) hx hb dX8_init_19 (by decide) ?_
  refine k_newi (N' := 5) hx hb (hts _ wd_3_12) hKW hP hD hS hA (by decide) (by decide) (by decide) (Nat.le_of_ble_eq_true rfl) (Nat.le_of_ble_eq_true rfl) dX8_init_20 (fun q_3 H hP hD hS => ?_)
  have hP : va_P g.1 vwCl [(h, .inr (8, [.int 0, .ref q_1, .ref q_2, .null])), (q_1, .inl (gI g, 5, .inl (fun _ => 0))), (q_2, .inl (gI g, 5, .inl (fun _ => 0))), (q_3, .inl (gI g, 5, .inl (fun _ => 0)))] H := hP
  have hD : va_D A [(h, .inr (8, [.int 0, .ref q_1, .ref q_2, .null])), (q_1, .inl (gI g, 5, .inl (fun _ => 0))), (q_2, .inl (gI g, 5, .inl (fun _ => 0))), (q_3, .inl (gI g, 5, .inl (fun _ => 0)))] := hD
  refine W.widen (k := 3) (n := 15) (Nat.le_of_ble_eq_true rfl) (Nat.le_of_ble_eq_true rfl) ?_
  refine va_putF (ci := 8) (v := .ref q_3) (C := RX8) (T := TX8) (N := 4) hx hb hts inlX8 tyX8 tyX8_ok nmX8 hown hKW.1 hP hD hS 0 rfl rfl 3 (by decide) (hts _ wd_3_21) (fun _ h => h) rfl hnm rfl (tyX8_ok 3 (by decide)) rfl rfl (Nat.le_of_ble_eq_true rfl) dX8_init_22 (fun H locs hP hD hS => ?_)
  have hP : va_P g.1 vwCl [(h, .inr (8, [.int 0, .ref q_1, .ref q_2, .ref q_3])), (q_1, .inl (gI g, 5, .inl (fun _ => 0))), (q_2, .inl (gI g, 5, .inl (fun _ => 0))), (q_3, .inl (gI g, 5, .inl (fun _ => 0)))] H := hP
  have hD : va_D A [(h, .inr (8, [.int 0, .ref q_1, .ref q_2, .ref q_3])), (q_1, .inl (gI g, 5, .inl (fun _ => 0))), (q_2, .inl (gI g, 5, .inl (fun _ => 0))), (q_3, .inl (gI g, 5, .inl (fun _ => 0)))] := hD
  exact k_vret (fun k => ([0, q_1, q_2, q_3] : List Nat).getD k 0) [0, 1, 2, 3] hx hb hr hlk hP hD hS trivial rfl rfl rfl (Nat.le_of_ble_eq_true rfl) (Nat.le_of_ble_eq_true rfl) dX8_init_25
theorem dX1_init_0 : decode cX1_init 0 = .ok (.aload_n 0, 1) := by decide +kernel
theorem dX1_init_1 : decode cX1_init 1 = .ok (.invokespecial 3, 3) := by decide +kernel
theorem dX1_init_4 : decode cX1_init 4 = .ok (.aload_n 0, 1) := by decide +kernel
theorem dX1_init_5 : decode cX1_init 5 = .ok (.bipush 7, 2) := by decide +kernel
theorem dX1_init_7 : decode cX1_init 7 = .ok (.newarray .int, 2) := by decide +kernel
theorem dX1_init_9 : decode cX1_init 9 = .ok (.putfield 9, 3) := by decide +kernel
theorem dX1_init_12 : decode cX1_init 12 = .ok (.aload_n 0, 1) := by decide +kernel
theorem dX1_init_13 : decode cX1_init 13 = .ok (.bipush 7, 2) := by decide +kernel
theorem dX1_init_15 : decode cX1_init 15 = .ok (.newarray .int, 2) := by decide +kernel
theorem dX1_init_17 : decode cX1_init 17 = .ok (.putfield 15, 3) := by decide +kernel
theorem dX1_init_20 : decode cX1_init 20 = .ok (.return_, 1) := by decide +kernel
set_option maxHeartbeats 4000000 in
set_option maxRecDepth 100000 in
theorem c_X1_init (l : Launch) (g : kG) (sz : Nat) (h : Nat) : kMv l g yX1_init cX1_init 1 none 1 2 14 [.ref h] sz [(h, .inr (1, [.int 0, .null, .null, .int 0]))] (fun (u : (Nat → Nat)) => True) (fun (u : (Nat → Nat)) => ([(h, .inr (1, [.int 0, .ref (u 1), .ref (u 2), .int 0])), (u 1, .inl (gI g, 7, .inl (fun _ => 0))), (u 2, .inl (gI g, 7, .inl (fun _ => 0)))] : va_W)) := by
  refine kMv.of (by decide) (Nat.le_of_ble_eq_true rfl) (fun p e s m below meth c A hx hb hr hml hown hts hlk hnm hKW hP hD hS hA ls hl => ?_)
  have hown : s.vm.findClass RX1 = some m.cls := hown
  have hl : lv_has ls 1 [(0, .ref h)] := hl
  refine lv_aload_n hx hb dX1_init_0 rfl (lv_at hl 0 rfl) ?_
  refine W.objInit hx hb hown (hts _ wd_4_0) (hts _ wd_1_10) (hts _ wd_1_11) rfl (by rw [hml]; exact hl.1) rfl dX1_init_1 (Nat.le_of_ble_eq_true rfl) (Nat.le_of_ble_eq_true rfl) ?_
  refine W.eq (g2 := F0 m 4 ls []) rfl ?_
  refine lv_aload_n hx hb dX1_init_4 rfl (lv_at hl 0 rfl) ?_
  refine lv_bipush (v := 7) hx hb dX1_init_5 (by decide) ?_
  refine k_newi (N' := 7) hx hb (hts _ wd_3_12) hKW hP hD hS hA (by decide) (by decide) (by decide) (Nat.le_of_ble_eq_true rfl) (Nat.le_of_ble_eq_true rfl) dX1_init_7 (fun q_1 H hP hD hS => ?_)
  have hP : va_P g.1 vwCl [(h, .inr (1, [.int 0, .null, .null, .int 0])), (q_1, .inl (gI g, 7, .inl (fun _ => 0)))] H := hP
  have hD : va_D A [(h, .inr (1, [.int 0, .null, .null, .int 0])), (q_1, .inl (gI g, 7, .inl (fun _ => 0)))] := hD
  refine W.widen (k := 1) (n := 7) (Nat.le_of_ble_eq_true rfl) (Nat.le_of_ble_eq_true rfl) ?_
  refine va_putF (ci := 1) (v := .ref q_1) (C := RX1) (T := TX1) (N := 4) hx hb hts inlX1 tyX1 tyX1_ok nmX1 hown hKW.1 hP hD hS 0 rfl rfl 1 (by decide) (hts _ wd_4_1) (fun _ h => h) rfl hnm rfl (tyX1_ok 1 (by decide)) rfl rfl (Nat.le_of_ble_eq_true rfl) dX1_init_9 (fun H locs hP hD hS => ?_)
  have hP : va_P g.1 vwCl [(h, .inr (1, [.int 0, .ref q_1, .null, .int 0])), (q_1, .inl (gI g, 7, .inl (fun _ => 0)))] H := hP
  have hD : va_D A [(h, .inr (1, [.int 0, .ref q_1, .null, .int 0])), (q_1, .inl (gI g, 7, .inl (fun _ => 0)))] := hD
  refine lv_aload_n hx hb dX1_init_12 rfl (lv_at hl 0 rfl) ?_
  refine lv_bipush (v := 7) hx hb dX1_init_13 (by decide) ?_
  refine k_newi (N' := 7) hx hb (hts _ wd_3_12) hKW hP hD hS hA (by decide) (by decide) (by decide) (Nat.le_of_ble_eq_true rfl) (Nat.le_of_ble_eq_true rfl) dX1_init_15 (fun q_2 H hP hD hS => ?_)
  have hP : va_P g.1 vwCl [(h, .inr (1, [.int 0, .ref q_1, .null, .int 0])), (q_1, .inl (gI g, 7, .inl (fun _ => 0))), (q_2, .inl (gI g, 7, .inl (fun _ => 0)))] H := hP
  have hD : va_D A [(h, .inr (1, [.int 0, .ref q_1, .null, .int 0])), (q_1, .inl (gI g, 7, .inl (fun _ => 0))), (q_2, .inl (gI g, 7, .inl (fun _ => 0)))] := hD
  refine W.widen (k := 2) (n := 14) (Nat.le_of_ble_eq_true rfl) (Nat.le_of_ble_eq_true rfl) ?_
  refine va_putF (ci := 1) (v := .ref q_2) (C := RX1) (T := TX1) (N := 4) hx hb hts inlX1 tyX1 tyX1_ok nmX1 hown hKW.1 hP hD hS 0 rfl rfl 2 (by decide) (hts _ wd_4_2) (fun _ h => h) rfl hnm rfl (tyX1_ok 2 (by decide)) rfl rfl (Nat.le_of_ble_eq_true rfl) dX1_init_17 (fun H locs hP hD hS => ?_)
  have hP : va_P g.1 vwCl [(h, .inr (1, [.int 0, .ref q_1, .ref q_2, .int 0])), (q_1, .inl (gI g, 7, .inl (fun _ => 0))), (q_2, .inl (gI g, 7, .inl (fun _ => 0)))] H := hP
  have hD : va_D A [(h, .inr (1, [.int 0, .ref q_1, .ref q_2, .int 0])), (q_1, .inl (gI g, 7, .inl (fun _ => 0))), (q_2, .inl (gI g, 7, .inl (fun _ => 0)))] := hD
  exact k_vret (fun k => ([0, q_1, q_2] : List Nat).getD k 0) [0, 1, 2] hx hb hr hlk hP hD hS trivial rfl rfl rfl (Nat.le_of_ble_eq_true rfl) (Nat.le_of_ble_eq_true rfl) dX1_init_20
theorem dX0_init_0 : decode cX0_init 0 = .ok (.aload_n 0, 1) := by decide +kernel
theorem dX0_init_1 : decode cX0_init 1 = .ok (.invokespecial 3, 3) := by decide +kernel
theorem dX0_init_4 : decode cX0_init 4 = .ok (.aload_n 0, 1) := by decide +kernel
theorem dX0_init_5 : decode cX0_init 5 = .ok (.bipush 10, 2) := by decide +kernel
theorem dX0_init_7 : decode cX0_init 7 = .ok (.newarray .int, 2) := by decide +kernel
theorem dX0_init_9 : decode cX0_init 9 = .ok (.putfield 9, 3) := by decide +kernel
theorem dX0_init_12 : decode cX0_init 12 = .ok (.aload_n 0, 1) := by decide +kernel
theorem dX0_init_13 : decode cX0_init 13 = .ok (.bipush 10, 2) := by decide +kernel
theorem dX0_init_15 : decode cX0_init 15 = .ok (.newarray .int, 2) := by decide +kernel
theorem dX0_init_17 : decode cX0_init 17 = .ok (.putfield 15, 3) := by decide +kernel
theorem dX0_init_20 : decode cX0_init 20 = .ok (.aload_n 0, 1) := by decide +kernel
theorem dX0_init_21 : decode cX0_init 21 = .ok (.bipush 10, 2) := by decide +kernel
theorem dX0_init_23 : decode cX0_init 23 = .ok (.newarray .int, 2) := by decide +kernel
theorem dX0_init_25 : decode cX0_init 25 = .ok (.putfield 18, 3) := by decide +kernel
theorem dX0_init_28 : decode cX0_init 28 = .ok (.aload_n 0, 1) := by decide +kernel
theorem dX0_init_29 : decode cX0_init 29 = .ok (.bipush 10, 2) := by decide +kernel
theorem dX0_init_31 : decode cX0_init 31 = .ok (.newarray .int, 2) := by decide +kernel
theorem dX0_init_33 : decode cX0_init 33 = .ok (.putfield 21, 3) := by decide +kernel
theorem dX0_init_36 : decode cX0_init 36 = .ok (.aload_n 0, 1) := by decide +kernel
theorem dX0_init_37 : decode cX0_init 37 = .ok (.bipush 10, 2) := by decide +kernel
theorem dX0_init_39 : decode cX0_init 39 = .ok (.newarray .int, 2) := by decide +kernel
theorem dX0_init_41 : decode cX0_init 41 = .ok (.putfield 24, 3) := by decide +kernel
theorem dX0_init_44 : decode cX0_init 44 = .ok (.aload_n 0, 1) := by decide +kernel
theorem dX0_init_45 : decode cX0_init 45 = .ok (.bipush 10, 2) := by decide +kernel
theorem dX0_init_47 : decode cX0_init 47 = .ok (.newarray .int, 2) := by decide +kernel
theorem dX0_init_49 : decode cX0_init 49 = .ok (.putfield 27, 3) := by decide +kernel
theorem dX0_init_52 : decode cX0_init 52 = .ok (.aload_n 0, 1) := by decide +kernel
theorem dX0_init_53 : decode cX0_init 53 = .ok (.bipush 10, 2) := by decide +kernel
theorem dX0_init_55 : decode cX0_init 55 = .ok (.newarray .int, 2) := by decide +kernel
theorem dX0_init_57 : decode cX0_init 57 = .ok (.putfield 30, 3) := by decide +kernel
theorem dX0_init_60 : decode cX0_init 60 = .ok (.aload_n 0, 1) := by decide +kernel
theorem dX0_init_61 : decode cX0_init 61 = .ok (.bipush 10, 2) := by decide +kernel
theorem dX0_init_63 : decode cX0_init 63 = .ok (.newarray .int, 2) := by decide +kernel
theorem dX0_init_65 : decode cX0_init 65 = .ok (.putfield 33, 3) := by decide +kernel
theorem dX0_init_68 : decode cX0_init 68 = .ok (.return_, 1) := by decide +kernel
set_option maxHeartbeats 4000000 in
set_option maxRecDepth 100000 in
theorem c_X0_init (l : Launch) (g : kG) (sz : Nat) (h : Nat) : kMv l g yX0_init cX0_init 1 none 1 8 80 [.ref h] sz [(h, .inr (0, [.int 0, .null, .null, .null, .null, .null, .null, .null, .int 0, .int 0, .int 0, .null]))] (fun (u : (Nat → Nat)) => True) (fun (u : (Nat → Nat)) => ([(h, .inr (0, [.int 0, .ref (u 1), .ref (u 2), .ref (u 3), .ref (u 4), .ref (u 5), .ref (u 6), .ref (u 7), .int 0, .int 0, .int 0, .ref (u 8)])), (u 1, .inl (gI g, 10, .inl (fun _ => 0))), (u 2, .inl (gI g, 10, .inl (fun _ => 0))), (u 3, .inl (gI g, 10, .inl (fun _ => 0))), (u 4, .inl (gI g, 10, .inl (fun _ => 0))), (u 5, .inl (gI g, 10, .inl (fun _ => 0))), (u 6, .inl (gI g, 10, .inl (fun _ => 0))), (u 7, .inl (gI g, 10, .inl (fun _ => 0))), (u 8, .inl (gI g, 10, .inl (fun _ => 0)))] : va_W)) := by
  refine kMv.of (by decide) (Nat.le_of_ble_eq_true rfl) (fun p e s m below meth c A hx hb hr hml hown hts hlk hnm hKW hP hD hS hA ls hl => ?_)
  have hown : s.vm.findClass RX0 = some m.cls := hown
  have hl : lv_has ls 1 [(0, .ref h)] := hl
  refine lv_aload_n hx hb dX0_init_0 rfl (lv_at hl 0 rfl) ?_
  refine W.objInit hx hb hown (hts _ wd_4_5) (hts _ wd_1_10) (hts _ wd_1_11) rfl (by rw [hml]; exact hl.1) rfl dX0_init_1 (Nat.le_of_ble_eq_true rfl) (Nat.le_of_ble_eq_true rfl) ?_
  refine W.eq (g2 := F0 m 4 ls []) rfl ?_
  refine lv_aload_n hx hb dX0_init_4 rfl (lv_at hl 0 rfl) ?_
  refine lv_bipush (v := 10) hx hb dX0_init_5 (by decide) ?_
  refine k_newi (N' := 10) hx hb (hts _ wd_3_12) hKW hP hD hS hA (by decide) (by decide) (by decide) (Nat.le_of_ble_eq_true rfl) (Nat.le_of_ble_eq_true rfl) dX0_init_7 (fun q_1 H hP hD hS => ?_)
  have hP : va_P g.1 vwCl [(h, .inr (0, [.int 0, .null, .null, .null, .null, .null, .null, .null, .int 0, .int 0, .int 0, .null])), (q_1, .inl (gI g, 10, .inl (fun _ => 0)))] H := hP
  have hD : va_D A [(h, .inr (0, [.int 0, .null, .null, .null, .null, .null, .null, .null, .int 0, .int 0, .int 0, .null])), (q_1, .inl (gI g, 10, .inl (fun _ => 0)))] := hD
  refine W.widen (k := 1) (n := 10) (Nat.le_of_ble_eq_true rfl) (Nat.le_of_ble_eq_true rfl) ?_
  refine va_putF (ci := 0) (v := .ref q_1) (C := RX0) (T := TX0) (N := 12) hx hb hts inlX0 tyX0 tyX0_ok nmX0 hown hKW.1 hP hD hS 0 rfl rfl 1 (by decide) (hts _ wd_4_6) (fun _ h => h) rfl hnm rfl (tyX0_ok 1 (by decide)) rfl rfl (Nat.le_of_ble_eq_true rfl) dX0_init_9 (fun H locs hP hD hS => ?_)
  have hP : va_P g.1 vwCl [(h, .inr (0, [.int 0, .ref q_1, .null, .null, .null, .null, .null, .null, .int 0, .int 0, .int 0, .null])), (q_1, .inl (gI g, 10, .inl (fun _ => 0)))] H := hP
  have hD : va_D A [(h, .inr (0, [.int 0, .ref q_1, .null, .null, .null, .null, .null, .null, .int 0, .int 0, .int 0, .null])), (q_1, .inl (gI g, 10, .inl (fun _ => 0)))] := hD
  refine lv_aload_n hx hb dX0_init_12 rfl (lv_at hl 0 rfl) ?_
  refine lv_bipush (v := 10) hx hb dX0_init_13 (by decide) ?_
  refine k_newi (N' := 10) hx hb (hts _ wd_3_12) hKW hP hD hS hA (by decide) (by decide) (by decide) (Nat.le_of_ble_eq_true rfl) (Nat.le_of_ble_eq_true rfl) dX0_init_15 (fun q_2 H hP hD hS => ?_)
  have hP : va_P g.1 vwCl [(h, .inr (0, [.int 0, .ref q_1, .null, .null, .null, .null, .null, .null, .int 0, .int 0, .int 0, .null])), (q_1, .inl (gI g, 10, .inl (fun _ => 0))), (q_2, .inl (gI g, 10, .inl (fun _ => 0)))] H := hP
  have hD : va_D A [(h, .inr (0, [.int 0, .ref q_1, .null, .null, .null, .null, .null, .null, .int 0, .int 0, .int 0, .null])), (q_1, .inl (gI g, 10, .inl (fun _ => 0))), (q_2, .inl (gI g, 10, .inl (fun _ => 0)))] := hD
  refine W.widen (k := 2) (n := 20) (Nat.le_of_ble_eq_true rfl) (Nat.le_of_ble_eq_true rfl) ?_
  refine va_putF (ci := 0) (v := .ref q_2) (C := RX0) (T := TX0) (N := 12) hx hb hts inlX0 tyX0 tyX0_ok nmX0 hown hKW.1 hP hD hS 0 rfl rfl 2 (by decide) (hts _ wd_4_7) (fun _ h => h) rfl hnm rfl (tyX0_ok 2 (by decide)) rfl rfl (Nat.le_of_ble_eq_true rfl) dX0_init_17 (fun H locs hP hD hS => ?_)
  have hP : va_P g.1 vwCl [(h, .inr (0, [.int 0, .ref q_1, .ref q_2, .null, .null, .null, .null, .null, .int 0, .int 0, .int 0, .null])), (q_1, .inl (gI g, 10, .inl (fun _ => 0))), (q_2, .inl (gI g, 10, .inl (fun _ => 0)))] H := hP
  have hD : va_D A [(h, .inr (0, [.int 0, .ref q_1, .ref q_2, .null, .null, .null, .null, .null, .int 0, .int 0, .int 0, .null])), (q_1, .inl (gI g, 10, .inl (fun _ => 0))), (q_2, .inl (gI g, 10, .inl (fun _ => 0)))] := hD
  refine lv_aload_n hx hb dX0_init_20 rfl (lv_at hl 0 rfl) ?_
  refine lv_bipush (v := 10) hx hb dX0_init_21 (by decide) ?_
  refine k_newi (N' := 10) hx hb (hts _ wd_3_12) hKW hP hD hS hA (by decide) (by decide) (by decide) (Nat.le_of_ble_eq_true rfl) (Nat.le_of_ble_eq_true rfl) dX0_init_23 (fun q_3 H hP hD hS => ?_)
  have hP : va_P g.1 vwCl [(h, .inr (0, [.int 0, .ref q_1, .ref q_2, .null, .null, .null, .null, .null, .int 0, .int 0, .int 0, .null])), (q_1, .inl (gI g, 10, .inl (fun _ => 0))), (q_2, .inl (gI g, 10, .inl (fun _ => 0))), (q_3, .inl (gI g, 10, .inl (fun _ => 0)))] H := hP
  have hD : va_D A [(h, .inr (0, [.int 0, .ref q_1, .ref q_2, .null, .null, .null, .null, .null, .int 0, .int 0, .int 0, .null])), (q_1, .inl (gI g, 10, .inl (fun _ => 0))), (q_2, .inl (gI g, 10, .inl (fun _ => 0))), (q_3, .inl (gI g, 10, .inl (fun _ => 0)))] := hD
  refine W.widen (k := 3) (n := 30) (Nat.le_of_ble_eq_true rfl) (Nat.le_of_ble_eq_true rfl) ?_
  refine va_putF (ci := 0) (v := .ref q_3) (C := RX0) (T := TX0) (N := 12) hx hb hts inlX0 tyX0 tyX0_ok nmX0 hown hKW.1 hP hD hS 0 rfl rfl 3 (by decide) (hts _ wd_4_8) (fun _ h => h) rfl hnm rfl (tyX0_ok 3 (by decide)) rfl rfl (Nat.le_of_ble_eq_true rfl) dX0_init_25 (fun H locs hP hD hS => ?_)
  have hP : va_P g.1 vwCl [(h, .inr (0, [.int 0, .ref q_1, .ref q_2, .ref q_3, .null, .null, .null, .null, .int 0, .int 0, .int 0, .null])), (q_1, .inl (gI g, 10, .inl (fun _ => 0))), (q_2, .inl (gI g, 10, .inl (fun _ => 0))), (q_3, .inl (gI g, 10, .inl (fun _ => 0)))] H := hP
  have hD : va_D A [(h, .inr (0, [.int 0, .ref q_1, .ref q_2, .ref q_3, .null, .null, .null, .null, .int 0, .int 0, .int 0, .null])), (q_1, .inl (gI g, 10, .inl (fun _ => 0))), (q_2, .inl (gI g, 10, .inl (fun _ => 0))), (q_3, .inl (gI g, 10, .inl (fun _ => 0)))] := hD
  refine lv_aload_n hx hb dX0_init_28 rfl (lv_at hl 0 rfl) ?_
  refine lv_bipush (v := 10) hx hb dX0_init_29 (by decide) ?_
  refine k_newi (N' := 10) hx hb (hts _ wd_3_12) hKW hP hD hS hA (by decide) (by decide) (by decide) (Nat.le_of_ble_eq_true rfl) (Nat.le_of_ble_eq_true rfl) dX0_init_31 (fun q_4 H hP hD hS => ?_)
  have hP : va_P g.1 vwCl [(h, .inr (0, [.int 0, .ref q_1, .ref q_2, .ref q_3, .null, .null, .null, .null, .int 0, .int 0, .int 0, .null])), (q_1, .inl (gI g, 10, .inl (fun _ => 0))), (q_2, .inl (gI g, 10, .inl (fun _ => 0))), (q_3, .inl (gI g, 10, .inl (fun _ => 0))), (q_4, .inl (gI g, 10, .inl (fun _ => 0)))] H := hP
  have hD : va_D A [(h, .inr (0, [.int 0, .ref q_1, .ref q_2, .ref q_3, .null, .null, .null, .null, .int 0, .int 0, .int 0, .null])), (q_1, .inl (gI g, 10, .inl (fun _ => 0))), (q_2, .inl (gI g, 10, .inl (fun _ => 0))), (q_3, .inl (gI g, 10, .inl (fun _ => 0))), (q_4, .inl (gI g, 10, .inl (fun _ => 0)))] := hD
  refine W.widen (k := 4) (n := 40) (Nat.le_of_ble_eq_true rfl) (Nat.le_of_ble_eq_true rfl) ?_
  refine va_putF (ci := 0) (v := .ref q_4) (C := RX0) (T := TX0) (N := 12) hx hb hts inlX0 tyX0 tyX0_ok nmX0 hown hKW.1 hP hD hS 0 rfl rfl 4 (by decide) (hts _ wd_4_9) (fun _ h => h) rfl hnm rfl (tyX0_ok 4 (by decide)) rfl rfl (Nat.le_of_ble_eq_true rfl) dX0_init_33 (fun H locs hP hD hS => ?_)
  have hP : va_P g.1 vwCl [(h, .inr (0, [.int 0, .ref q_1, .ref q_2, .ref q_3, .ref q_4, .null, .null, .null, .int 0, .int 0, .int 0, .null])), (q_1, .inl (gI g, 10, .inl (fun _ => 0))), (q_2, .inl (gI g, 10, .inl (fun _ => 0))), (q_3, .inl (gI g, 10, .inl (fun _ => 0))), (q_4, .inl (gI g, 10, .inl (fun _ => 0)))] H := hP
  have hD : va_D A [(h, .inr (0, [.int 0, .ref q_1, .ref q_2, .ref q_3, .ref q_4, .null, .null, .null, .int 0, .int 0, .int 0, .null])), (q_1, .inl (gI g, 10, .inl (fun _ => 0))), (q_2, .inl (gI g, 10, .inl (fun _ => 0))), (q_3, .inl (gI g, 10, .inl (fun _ => 0))), (q_4, .inl (gI g, 10, .inl (fun _ => 0)))] := hD
  refine lv_aload_n hx hb dX0_init_36 rfl (lv_at hl 0 rfl) ?_
  refine lv_bipush (v := 10) hx hb dX0_init_37 (by decide) ?_
  refine k_newi (N' := 10) hx hb (hts _ wd_3_12) hKW hP hD hS hA (by decide) (by decide) (by decide) (Nat.le_of_ble_eq_true rfl) (Nat.le_of_ble_eq_true rfl) dX0_init_39 (fun q_5 H hP hD hS => ?_)
  have hP : va_P g.1 vwCl [(h, .inr (0, [.int 0, .ref q_1, .ref q_2, .ref q_3, .ref q_4, .null, .null, .null, .int 0, .int 0, .int 0, .null])), (q_1, .inl (gI g, 10, .inl (fun _ => 0))), (q_2, .inl (gI g, 10, .inl (fun _ => 0))), (q_3, .inl (gI g, 10, .inl (fun _ => 0))), (q_4, .inl (gI g, 10, .inl (fun _ => 0))), (q_5, .inl (gI g, 10, .inl (fun _ => 0)))] H := hP
  have hD : va_D A [(h, .inr (0, [.int 0, .ref q_1, .ref q_2, .ref q_3, .ref q_4, .null, .null, .null, .int 0, .int 0, .int 0, .null])), (q_1, .inl (gI g, 10, .inl (fun _ => 0))), (q_2, .inl (gI g, 10, .inl (fun _ => 0))), (q_3, .inl (gI g, 10, .inl (fun _ => 0))), (q_4, .inl (gI g, 10, .inl (fun _ => 0))), (q_5, .inl (gI g, 10, .inl (fun _ => 0)))] := hD
  refine W.widen (k := 5) (n := 50) (Nat.le_of_ble_eq_true rfl) (Nat.le_of_ble_eq_true rfl) ?_
  refine va_putF (ci := 0) (v := .ref q_5) (C := RX0) (T := TX0) (N := 12) hx hb hts inlX0 tyX0 tyX0_ok nmX0 hown hKW.1 hP hD hS 0 rfl rfl 5 (by decide) (hts _ wd_4_10) (fun _ h => h) rfl hnm rfl (tyX0_ok 5 (by decide)) rfl rfl (Nat.le_of_ble_eq_true rfl) dX0_init_41 (fun H locs hP hD hS => ?_)
  have hP : va_P g.1 vwCl [(h, .inr (0, [.int 0, .ref q_1, .ref q_2, .ref q_3, .ref q_4, .ref q_5, .null, .null, .int 0, .int 0, .int 0, .null])), (q_1, .inl (gI g, 10, .inl (fun _ => 0))), (q_2, .inl (gI g, 10, .inl (fun _ => 0))), (q_3, .inl (gI g, 10, .inl (fun _ => 0))), (q_4, .inl (gI g, 10, .inl (fun _ => 0))), (q_5, .inl (gI g, 10, .inl (fun _ => 0)))] H := hP
  have hD : va_D A [(h, .inr (0, [.int 0, .ref q_1, .ref q_2, .ref q_3, .ref q_4, .ref q_5, .null, .null, .int 0, .int 0, .int 0, .null])), (q_1, .inl (gI g, 10, .inl (fun _ => 0))), (q_2, .inl (gI g, 10, .inl (fun _ => 0))), (q_3, .inl (gI g, 10, .inl (fun _ => 0))), (q_4, .inl (gI g, 10, .inl (fun _ => 0))), (q_5, .inl (gI g, 10, .inl (fun _ => 0)))] := hD
  refine lv_aload_n hx hb dX0_init_44 rfl (lv_at hl 0 rfl) ?_
  refine lv_bipush (v := 10) hx hb dX0_init_45 (by decide) ?_
  refine k_newi (N' := 10) hx hb (hts _ wd_3_12) hKW hP hD hS hA (by decide) (by decide) (by decide) (Nat.le_of_ble_eq_true rfl) (Nat.le_of_ble_eq_true rfl) dX0_init_47 (fun q_6 H hP hD hS => ?_)
  have hP : va_P g.1 vwCl [(h, .inr (0, [.int 0, .ref q_1, .ref q_2, .ref q_3, .ref q_4, .ref q_5, .null, .null, .int 0, .int 0, .int 0, .null])), (q_1, .inl (gI g, 10, .inl (fun _ => 0))), (q_2, .inl (gI g, 10, .inl (fun _ => 0))), (q_3, .inl (gI g, 10, .inl (fun _ => 0))), (q_4, .inl (gI g, 10, .inl (fun _ => 0))), (q_5, .inl (gI g, 10, .inl (fun _ => 0))), (q_6, .inl (gI g, 10, .inl (fun _ => 0)))] H := hP
  have hD : va_D A [(h, .inr (0, [.int 0, .ref q_1, .ref q_2, .ref q_3, .ref q_4, .ref q_5, .null, .null, .int 0, .int 0, .int 0, .null])), (q_1, .inl (gI g, 10, .inl (fun _ => 0))), (q_2, .inl (gI g, 10, .inl (fun _ => 0))), (q_3, .inl (gI g, 10, .inl (fun _ => 0))), (q_4, .inl (gI g, 10, .inl (fun _ => 0))), (q_5, .inl (gI g, 10, .inl (fun _ => 0))), (q_6, .inl (gI g, 10, .inl (fun _ => 0)))] := hD
  refine W.widen (k := 6) (n := 60) (Nat.le_of_ble_eq_true rfl) (Nat.le_of_ble_eq_true rfl) ?_
  refine va_putF (ci := 0) (v := .ref q_6) (C := RX0) (T := TX0) (N := 12) hx hb hts inlX0 tyX0 tyX0_ok nmX0 hown hKW.1 hP hD hS 0 rfl rfl 6 (by decide) (hts _ wd_4_11) (fun _ h => h) rfl hnm rfl (tyX0_ok 6 (by decide)) rfl rfl (Nat.le_of_ble_eq_true rfl) dX0_init_49 (fun H locs hP hD hS => ?_)
  have hP : va_P g.1 vwCl [(h, .inr (0, [.int 0, .ref q_1, .ref q_2, .ref q_3, .ref q_4, .ref q_5, .ref q_6, .null, .int 0, .int 0, .int 0, .null])), (q_1, .inl (gI g, 10, .inl (fun _ => 0))), (q_2, .inl (gI g, 10, .inl (fun _ => 0))), (q_3, .inl (gI g, 10, .inl (fun _ => 0))), (q_4, .inl (gI g, 10, .inl (fun _ => 0))), (q_5, .inl (gI g, 10, .inl (fun _ => 0))), (q_6, .inl (gI g, 10, .inl (fun _ => 0)))] H := hP
  have hD : va_D A [(h, .inr (0, [.int 0, .ref q_1, .ref q_2, .ref q_3, .ref q_4, .ref q_5, .ref q_6, .null, .int 0, .int 0, .int 0, .null])), (q_1, .inl (gI g, 10, .inl (fun _ => 0))), (q_2, .inl (gI g, 10, .inl (fun _ => 0))), (q_3, .inl (gI g, 10, .inl (fun _ => 0))), (q_4, .inl (gI g, 10, .inl (fun _ => 0))), (q_5, .inl (gI g, 10, .inl (fun _ => 0))), (q_6, .inl (gI g, 10, .inl (fun _ => 0)))] := hD
  refine lv_aload_n hx hb dX0_init_52 rfl (lv_at hl 0 rfl) ?_
  refine lv_bipush (v := 10) hx hb dX0_init_53 (by decide) ?_
  refine k_newi (N' := 10) hx hb (hts _ wd_3_12) hKW hP hD hS hA (by decide) (by decide) (by decide) (Nat.le_of_ble_eq_true rfl) (Nat.le_of_ble_eq_true rfl) dX0_init_55 (fun q_7 H hP hD hS => ?_)
  have hP : va_P g.1 vwCl [(h, .inr (0, [.int 0, .ref q_1, .ref q_2, .ref q_3, .ref q_4, .ref q_5, .ref q_6, .null, .int 0, .int 0, .int 0, .null])), (q_1, .inl (gI g, 10, .inl (fun _ => 0))), (q_2, .inl (gI g, 10, .inl (fun _ => 0))), (q_3, .inl (gI g, 10, .inl (fun _ => 0))), (q_4, .inl (gI g, 10, .inl (fun _ => 0))), (q_5, .inl (gI g, 10, .inl (fun _ => 0))), (q_6, .inl (gI g, 10, .inl (fun _ => 0))), (q_7, .inl (gI g, 10, .inl (fun _ => 0)))] H := hP
  have hD : va_D A [(h, .inr (0, [.int 0, .ref q_1, .ref q_2, .ref q_3, .ref q_4, .ref q_5, .ref q_6, .null, .int 0, .int 0, .int 0, .null])), (q_1, .inl (gI g, 10, .inl (fun _ => 0))), (q_2, .inl (gI g, 10, .inl (fun _ => 0))), (q_3, .inl (gI g, 10, .inl (fun _ => 0))), (q_4, .inl (gI g, 10, .inl (fun _ => 0))), (q_5, .inl (gI g, 10, .inl (fun _ => 0))), (q_6, .inl (gI g, 10, .inl (fun _ => 0))), (q_7, .inl (gI g, 10, .inl (fun _ => 0)))] := hD
  refine W.widen (k := 7) (n := 70) (Nat.le_of_ble_eq_true rfl) (Nat.le_of_ble_eq_true rfl) ?_
  refine va_putF (ci := 0) (v := .ref q_7) (C := RX0) (T := TX0) (N := 12) hx hb hts inlX0 tyX0 tyX0_ok nmX0 hown hKW.1 hP hD hS 0 rfl rfl 7 (by decide) (hts _ wd_4_12) (fun _ h => h) rfl hnm rfl (tyX0_ok 7 (by decide)) rfl rfl (Nat.le_of_ble_eq_true rfl) dX0_init_57 (fun H locs hP hD hS => ?_)
  have hP : va_P g.1 vwCl [(h, .inr (0, [.int 0, .ref q_1, .ref q_2, .ref q_3, .ref q_4, .ref q_5, .ref q_6, .ref q_7, .int 0, .int 0, .int 0, .null])), (q_1, .inl (gI g, 10, .inl (fun _ => 0))), (q_2, .inl (gI g, 10, .inl (fun _ => 0))), (q_3, .inl (gI g, 10, .inl (fun _ => 0))), (q_4, .inl (gI g, 10, .inl (fun _ => 0))), (q_5, .inl (gI g, 10, .inl (fun _ => 0))), (q_6, .inl (gI g, 10, .inl (fun _ => 0))), (q_7, .inl (gI g, 10, .inl (fun _ => 0)))] H := hP
  have hD : va_D A [(h, .inr (0, [.int 0, .ref q_1, .ref q_2, .ref q_3, .ref q_4, .ref q_5, .ref q_6, .ref q_7, .int 0, .int 0, .int 0, .null])), (q_1, .inl (gI g, 10, .inl (fun _ => 0))), (q_2, .inl (gI g, 10, .inl (fun _ => 0))), (q_3, .inl (gI g, 10, .inl (fun _ => 0))), (q_4, .inl (gI g, 10, .inl (fun _ => 0))), (q_5, .inl (gI g, 10, .inl (fun _ => 0))), (q_6, .inl (gI g, 10, .inl (fun _ => 0))), (q_7, .inl (gI g, 10, .inl (fun _ => 0)))] := hD
  refine lv_aload_n hx hb dX0_init_60 rfl (lv_at hl 0 rfl) ?_
  refine lv_bipush (v := 10) hx hb dX0_init_61 (by decide) ?_
  refine k_newi (N' := 10) hx hb (hts _ wd_3_12) hKW hP hD hS hA (by decide) (by decide) (by decide) (Nat.le_of_ble_eq_true rfl) (Nat.le_of_ble_eq_true rfl) dX0_init_63 (fun q_8 H hP hD hS => ?_)
  have hP : va_P g.1 vwCl [(h, .inr (0, [.int 0, .ref q_1, .ref q_2, .ref q_3, .ref q_4, .ref q_5, .ref q_6, .ref q_7, .int 0, .int 0, .int 0, .null])), (q_1, .inl (gI g, 10, .inl (fun _ => 0))), (q_2, .inl (gI g, 10, .inl (fun _ => 0))), (q_3, .inl (gI g, 10, .inl (fun _ => 0))), (q_4, .inl (gI g, 10, .inl (fun _ => 0))), (q_5, .inl (gI g, 10, .inl (fun _ => 0))), (q_6, .inl (gI g, 10, .inl (fun _ => 0))), (q_7, .inl (gI g, 10, .inl (fun _ => 0))), (q_8, .inl (gI g, 10, .inl (fun _ => 0)))] H := hP
  have hD : va_D A [(h, .inr (0, [.int 0, .ref q_1, .ref q_2, .ref q_3, .ref q_4, .ref q_5, .ref q_6, .ref q_7, .int 0, .int 0, .int 0, .null])), (q_1, .inl (gI g, 10, .inl (fun _ => 0))), (q_2, .inl (gI g, 10, .inl (fun _ => 0))), (q_3, .inl (gI g, 10, .inl (fun _ => 0))), (q_4, .inl (gI g, 10, .inl (fun _ => 0))), (q_5, .inl (gI g, 10, .inl (fun _ => 0))), (q_6, .inl (gI g, 10, .inl (fun _ => 0))), (q_7, .inl (gI g, 10, .inl (fun _ => 0))), (q_8, .inl (gI g, 10, .inl (fun _ => 0)))] := hD
  refine W.widen (k := 8) (n := 80) (Nat.le_of_ble_eq_true rfl) (Nat.le_of_ble_eq_true rfl) ?_
  refine va_putF (ci := 0) (v := .ref q_8) (C := RX0) (T := TX0) (N := 12) hx hb hts inlX0 tyX0 tyX0_ok nmX0 hown hKW.1 hP hD hS 0 rfl rfl 11 (by decide) (hts _ wd_4_13) (fun _ h => h) rfl hnm rfl (tyX0_ok 11 (by decide)) rfl rfl (Nat.le_of_ble_eq_true rfl) dX0_init_65 (fun H locs hP hD hS => ?_)
  have hP : va_P g.1 vwCl [(h, .inr (0, [.int 0, .ref q_1, .ref q_2, .ref q_3, .ref q_4, .ref q_5, .ref q_6, .ref q_7, .int 0, .int 0, .int 0, .ref q_8])), (q_1, .inl (gI g, 10, .inl (fun _ => 0))), (q_2, .inl (gI g, 10, .inl (fun _ => 0))), (q_3, .inl (gI g, 10, .inl (fun _ => 0))), (q_4, .inl (gI g, 10, .inl (fun _ => 0))), (q_5, .inl (gI g, 10, .inl (fun _ => 0))), (q_6, .inl (gI g, 10, .inl (fun _ => 0))), (q_7, .inl (gI g, 10, .inl (fun _ => 0))), (q_8, .inl (gI g, 10, .inl (fun _ => 0)))] H := hP
  have hD : va_D A [(h, .inr (0, [.int 0, .ref q_1, .ref q_2, .ref q_3, .ref q_4, .ref q_5, .ref q_6, .ref q_7, .int 0, .int 0, .int 0, .ref q_8])), (q_1, .inl (gI g, 10, .inl (fun _ => 0))), (q_2, .inl (gI g, 10, .inl (fun _ => 0))), (q_3, .inl (gI g, 10, .inl (fun _ => 0))), (q_4, .inl (gI g, 10, .inl (fun _ => 0))), (q_5, .inl (gI g, 10, .inl (fun _ => 0))), (q_6, .inl (gI g, 10, .inl (fun _ => 0))), (q_7, .inl (gI g, 10, .inl (fun _ => 0))), (q_8, .inl (gI g, 10, .inl (fun _ => 0)))] := hD
  exact k_vret (fun k => ([0, q_1, q_2, q_3, q_4, q_5, q_6, q_7, q_8] : List Nat).getD k 0) [0, 1, 2, 3, 4, 5, 6, 7, 8] hx hb hr hlk hP hD hS trivial rfl rfl rfl (Nat.le_of_ble_eq_true rfl) (Nat.le_of_ble_eq_true rfl) dX0_init_68
theorem dX3_init_0 : decode cX3_init 0 = .ok (.aload_n 0, 1) := by decide +kernel
theorem dX3_init_1 : decode cX3_init 1 = .ok (.invokespecial 3, 3) := by decide +kernel
theorem dX3_init_4 : decode cX3_init 4 = .ok (.aload_n 0, 1) := by decide +kernel
theorem dX3_init_5 : decode cX3_init 5 = .ok (.bipush 40, 2) := by decide +kernel
theorem dX3_init_7 : decode cX3_init 7 = .ok (.newarray .int, 2) := by decide +kernel
theorem dX3_init_9 : decode cX3_init 9 = .ok (.putfield 9, 3) := by decide +kernel
theorem dX3_init_12 : decode cX3_init 12 = .ok (.aload_n 0, 1) := by decide +kernel
theorem dX3_init_13 : decode cX3_init 13 = .ok (.bipush 40, 2) := by decide +kernel
theorem dX3_init_15 : decode cX3_init 15 = .ok (.newarray .int, 2) := by decide +kernel
theorem dX3_init_17 : decode cX3_init 17 = .ok (.putfield 15, 3) := by decide +kernel
theorem dX3_init_20 : decode cX3_init 20 = .ok (.aload_n 0, 1) := by decide +kernel
theorem dX3_init_21 : decode cX3_init 21 = .ok (.bipush 40, 2) := by decide +kernel
theorem dX3_init_23 : decode cX3_init 23 = .ok (.newarray .int, 2) := by decide +kernel
theorem dX3_init_25 : decode cX3_init 25 = .ok (.putfield 18, 3) := by decide +kernel
theorem dX3_init_28 : decode cX3_init 28 = .ok (.return_, 1) := by decide +kernel
set_option maxHeartbeats 4000000 in
set_option maxRecDepth 100000 in
theorem c_X3_init (l : Launch) (g : kG) (sz : Nat) (h : Nat) : kMv l g yX3_init cX3_init 1 none 1 3 120 [.ref h] sz [(h, .inr (3, [.int 0, .null, .null, .null]))] (fun (u : (Nat → Nat)) => True) (fun (u : (Nat → Nat)) => ([(h, .inr (3, [.int 0, .ref (u 1), .ref (u 2), .ref (u 3)])), (u 1, .inl (gI g, 40, .inl (fun _ => 0))), (u 2, .inl (gI g, 40, .inl (fun _ => 0))), (u 3, .inl (gI g, 40, .inl (fun _ => 0)))] : va_W)) := by
  refine kMv.of (by decide) (Nat.le_of_ble_eq_true rfl) (fun p e s m below meth c A hx hb hr hml hown hts hlk hnm hKW hP hD hS hA ls hl => ?_)
  have hown : s.vm.findClass RX3 = some m.cls := hown
  have hl : lv_has ls 1 [(0, .ref h)] := hl
  refine lv_aload_n hx hb dX3_init_0 rfl (lv_at hl 0 rfl) ?_
  refine W.objInit hx hb hown (hts _ wd_4_16) (hts _ wd_1_10) (hts _ wd_1_11) rfl (by rw [hml]; exact hl.1) rfl dX3_init_1 (Nat.le_of_ble_eq_true rfl) (Nat.le_of_ble_eq_true rfl) ?_
  refine W.eq (g2 := F0 m 4 ls []) rfl ?_
  refine lv_aload_n hx hb dX3_init_4 rfl (lv_at hl 0 rfl) ?_
  refine lv_bipush (v := 40) hx hb dX3_init_5 (by decide) ?_
  refine k_newi (N' := 40) hx hb (hts _ wd_3_12) hKW hP hD hS hA (by decide) (by decide) (by decide) (Nat.le_of_ble_eq_true rfl) (Nat.le_of_ble_eq_true rfl) dX3_init_7 (fun q_1 H hP hD hS => ?_)
  have hP : va_P g.1 vwCl [(h, .inr (3, [.int 0, .null, .null, .null])), (q_1, .inl (gI g, 40, .inl (fun _ => 0)))] H := hP
  have hD : va_D A [(h, .inr (3, [.int 0, .null, .null, .null])), (q_1, .inl (gI g, 40, .inl (fun _ => 0)))] := hD
  refine W.widen (k := 1) (n := 40) (Nat.le_of_ble_eq_true rfl) (Nat.le_of_ble_eq_true rfl) ?_
  refine va_putF (ci := 3) (v := .ref q_1) (C := RX3) (T := TX3) (N := 4) hx hb hts inlX3 tyX3 tyX3_ok nmX3 hown hKW.1 hP hD hS 0 rfl rfl 1 (by decide) (hts _ wd_4_17) (fun _ h => h) rfl hnm rfl (tyX3_ok 1 (by decide)) rfl rfl (Nat.le_of_ble_eq_true rfl) dX3_init_9 (fun H locs hP hD hS => ?_)
  have hP : va_P g.1 vwCl [(h, .inr (3, [.int 0, .ref q_1, .null, .null])), (q_1, .inl (gI g, 40, .inl (fun _ => 0)))] H := hP
  have hD : va_D A [(h, .inr (3, [.int 0, .ref q_1, .null, .null])), (q_1, .inl (gI g, 40, .inl (fun _ => 0)))] := hD
  refine lv_aload_n hx hb dX3_init_12 rfl (lv_at hl 0 rfl) ?_
  refine lv_bipush (v := 40) hx hb dX3_init_13 (by decide) ?_
  refine k_newi (N' := 40) hx hb (hts _ wd_3_12) hKW hP hD hS hA (by decide) (by decide) (by decide) (Nat.le_of_ble_eq_true rfl) (Nat.le_of_ble_eq_true rfl) dX3_init_15 (fun q_2 H hP hD hS => ?_)
  have hP : va_P g.1 vwCl [(h, .inr (3, [.int 0, .ref q_1, .null, .null])), (q_1, .inl (gI g, 40, .inl (fun _ => 0))), (q_2, .inl (gI g, 40, .inl (fun _ => 0)))] H := hP
  have hD : va_D A [(h, .inr (3, [.int 0, .ref q_1, .null, .null])), (q_1, .inl (gI g, 40, .inl (fun _ => 0))), (q_2, .inl (gI g, 40, .inl (fun _ => 0)))] := hD
  refine W.widen (k := 2) (n := 80) (Nat.le_of_ble_eq_true rfl) (Nat.le_of_ble_eq_true rfl) ?_
  refine va_putF (ci := 3) (v := .ref q_2) (C := RX3) (T := TX3) (N := 4) hx hb hts inlX3 tyX3 tyX3_ok nmX3 hown hKW.1 hP hD hS 0 rfl rfl 2 (by decide) (hts _ wd_4_18) (fun _ h => h) rfl hnm rfl (tyX3_ok 2 (by decide)) rfl rfl (Nat.le_of_ble_eq_true rfl) dX3_init_17 (fun H locs hP hD hS => ?_)
  have hP : va_P g.1 vwCl [(h, .inr (3, [.int 0, .ref q_1, .ref q_2, .null])), (q_1, .inl (gI g, 40, .inl (fun _ => 0))), (q_2, .inl (gI g, 40, .inl (fun _ => 0)))] H := hP
  have hD : va_D A [(h, .inr (3, [.int 0, .ref q_1, .ref q_2, .null])), (q_1, .inl (gI g, 40, .inl (fun _ => 0))), (q_2, .inl (gI g, 40, .inl (fun _ => 0)))] := hD
  refine lv_aload_n hx hb dX3_init_20 rfl (lv_at hl 0 rfl) ?_
  refine lv_bipush (v := 40) hx hb dX3_init_21 (by decide) ?_
  refine k_newi (N' := 40) hx hb (hts _ wd_3_12) hKW hP hD hS hA (by decide) (by decide) (by decide) (Nat.le_of_ble_eq_true rfl) (Nat.le_of_ble_eq_true rfl) dX3_init_23 (fun q_3 H hP hD hS => ?_)
  have hP : va_P g.1 vwCl [(h, .inr (3, [.int 0, .ref q_1, .ref q_2, .null])), (q_1, .inl (gI g, 40, .inl (fun _ => 0))), (q_2, .inl (gI g, 40, .inl (fun _ => 0))), (q_3, .inl (gI g, 40, .inl (fun _ => 0)))] H := hP
  have hD : va_D A [(h, .inr (3, [.int 0, .ref q_1, .ref q_2, .null])), (q_1, .inl (gI g, 40, .inl (fun _ => 0))), (q_2, .inl (gI g, 40, .inl (fun _ => 0))), (q_3, .inl (gI g, 40, .inl (fun _ => 0)))] := hD
  refine W.widen (k := 3) (n := 120) (Nat.le_of_ble_eq_true rfl) (Nat.le_of_ble_eq_true rfl) ?_
  refine va_putF (ci := 3) (v := .ref q_3) (C := RX3) (T := TX3) (N := 4) hx hb hts inlX3 tyX3 tyX3_ok nmX3 hown hKW.1 hP hD hS 0 rfl rfl 3 (by decide) (hts _ wd_4_19) (fun _ h => h) rfl hnm rfl (tyX3_ok 3 (by decide)) rfl rfl (Nat.le_of_ble_eq_true rfl) dX3_init_25 (fun H locs hP hD hS => ?_)
  have hP : va_P g.1 vwCl [(h, .inr (3, [.int 0, .ref q_1, .ref q_2, .ref q_3])), (q_1, .inl (gI g, 40, .inl (fun _ => 0))), (q_2, .inl (gI g, 40, .inl (fun _ => 0))), (q_3, .inl (gI g, 40, .inl (fun _ => 0)))] H := hP
  have hD : va_D A [(h, .inr (3, [.int 0, .ref q_1, .ref q_2, .ref q_3])), (q_1, .inl (gI g, 40, .inl (fun _ => 0))), (q_2, .inl (gI g, 40, .inl (fun _ => 0))), (q_3, .inl (gI g, 40, .inl (fun _ => 0)))] := hD
  exact k_vret (fun k => ([0, q_1, q_2, q_3] : List Nat).getD k 0) [0, 1, 2, 3] hx hb hr hlk hP hD hS trivial rfl rfl rfl (Nat.le_of_ble_eq_true rfl) (Nat.le_of_ble_eq_true rfl) dX3_init_28
theorem dX6_init_0 : decode cX6_init 0 = .ok (.aload_n 0, 1) := by decide +kernel
theorem dX6_init_1 : decode cX6_init 1 = .ok (.invokespecial 3, 3) := by decide +kernel
theorem dX6_init_4 : decode cX6_init 4 = .ok (.aload_n 0, 1) := by decide +kernel
theorem dX6_init_5 : decode cX6_init 5 = .ok (.bipush 14, 2) := by decide +kernel
theorem dX6_init_7 : decode cX6_init 7 = .ok (.newarray .int, 2) := by decide +kernel
theorem dX6_init_9 : decode cX6_init 9 = .ok (.putfield 9, 3) := by decide +kernel
theorem dX6_init_12 : decode cX6_init 12 = .ok (.return_, 1) := by decide +kernel
set_option maxHeartbeats 4000000 in
set_option maxRecDepth 100000 in
theorem c_X6_init (l : Launch) (g : kG) (sz : Nat) (h : Nat) : kMv l g yX6_init cX6_init 1 none 1 1 14 [.ref h] sz [(h, .inr (6, [.int 0, .int 0, .null]))] (fun (u : (Nat → Nat)) => True) (fun (u : (Nat → Nat)) => ([(h, .inr (6, [.int 0, .int 0, .ref (u 1)])), (u 1, .inl (gI g, 14, .inl (fun _ => 0)))] : va_W)) := by
  refine kMv.of (by decide) (Nat.le_of_ble_eq_true rfl) (fun p e s m below meth c A hx hb hr hml hown hts hlk hnm hKW hP hD hS hA ls hl => ?_)
  have hown : s.vm.findClass RX6 = some m.cls := hown
  have hl : lv_has ls 1 [(0, .ref h)] := hl
  refine lv_aload_n hx hb dX6_init_0 rfl (lv_at hl 0 rfl) ?_
  refine W.objInit hx hb hown (hts _ wd_4_22) (hts _ wd_1_10) (hts _ wd_1_11) rfl (by rw [hml]; exact hl.1) rfl dX6_init_1 (Nat.le_of_ble_eq_true rfl) (Nat.le_of_ble_eq_true rfl) ?_
  refine W.eq (g2 := F0 m 4 ls []) rfl ?_
  refine lv_aload_n hx hb dX6_init_4 rfl (lv_at hl 0 rfl) ?_
  refine lv_bipush (v := 14) hx hb dX6_init_5 (by decide) ?_
  refine k_newi (N' := 14) hx hb (hts _ wd_3_12) hKW hP hD hS hA (by decide) (by decide) (by decide) (Nat.le_of_ble_eq_true rfl) (Nat.le_of_ble_eq_true rfl) dX6_init_7 (fun q_1 H hP hD hS => ?_)
  have hP : va_P g.1 vwCl [(h, .inr (6, [.int 0, .int 0, .null])), (q_1, .inl (gI g, 14, .inl (fun _ => 0)))] H := hP
  have hD : va_D A [(h, .inr (6, [.int 0, .int 0, .null])), (q_1, .inl (gI g, 14, .inl (fun _ => 0)))] := hD
  refine W.widen (k := 1) (n := 14) (Nat.le_of_ble_eq_true rfl) (Nat.le_of_ble_eq_true rfl) ?_
  refine va_putF (ci := 6) (v := .ref q_1) (C := RX6) (T := TX6) (N := 3) hx hb hts inlX6 tyX6 tyX6_ok nmX6 hown hKW.1 hP hD hS 0 rfl rfl 2 (by decide) (hts _ wd_4_23) (fun _ h => h) rfl hnm rfl (tyX6_ok 2 (by decide)) rfl rfl (Nat.le_of_ble_eq_true rfl) dX6_init_9 (fun H locs hP hD hS => ?_)
  have hP : va_P g.1 vwCl [(h, .inr (6, [.int 0, .int 0, .ref q_1])), (q_1, .inl (gI g, 14, .inl (fun _ => 0)))] H := hP
  have hD : va_D A [(h, .inr (6, [.int 0, .int 0, .ref q_1])), (q_1, .inl (gI g, 14, .inl (fun _ => 0)))] := hD
  exact k_vret (fun k => ([0, q_1] : List Nat).getD k 0) [0, 1] hx hb hr hlk hP hD hS trivial rfl rfl rfl (Nat.le_of_ble_eq_true rfl) (Nat.le_of_ble_eq_true rfl) dX6_init_12
theorem dX4_init_0 : decode cX4_init 0 = .ok (.aload_n 0, 1) := by decide +kernel
theorem dX4_init_1 : decode cX4_init 1 = .ok (.invokespecial 3, 3) := by decide +kernel
theorem dX4_init_4 : decode cX4_init 4 = .ok (.aload_n 0, 1) := by decide +kernel
theorem dX4_init_5 : decode cX4_init 5 = .ok (.new 9, 3) := by decide +kernel
theorem dX4_init_8 : decode cX4_init 8 = .ok (.dup, 1) := by decide +kernel
theorem dX4_init_9 : decode cX4_init 9 = .ok (.invokespecial 11, 3) := by decide +kernel
theorem dX4_init_12 : decode cX4_init 12 = .ok (.putfield 12, 3) := by decide +kernel
theorem dX4_init_15 : decode cX4_init 15 = .ok (.aload_n 0, 1) := by decide +kernel
theorem dX4_init_16 : decode cX4_init 16 = .ok (.new 18, 3) := by decide +kernel
theorem dX4_init_19 : decode cX4_init 19 = .ok (.dup, 1) := by decide +kernel
theorem dX4_init_20 : decode cX4_init 20 = .ok (.invokespecial 20, 3) := by decide +kernel
theorem dX4_init_23 : decode cX4_init 23 = .ok (.putfield 21, 3) := by decide +kernel
theorem dX4_init_26 : decode cX4_init 26 = .ok (.aload_n 0, 1) := by decide +kernel
theorem dX4_init_27 : decode cX4_init 27 = .ok (.new 25, 3) := by decide +kernel
theorem dX4_init_30 : decode cX4_init 30 = .ok (.dup, 1) := by decide +kernel
theorem dX4_init_31 : decode cX4_init 31 = .ok (.invokespecial 27, 3) := by decide +kernel
theorem dX4_init_34 : decode cX4_init 34 = .ok (.putfield 28, 3) := by decide +kernel
theorem dX4_init_37 : decode cX4_init 37 = .ok (.aload_n 0, 1) := by decide +kernel
theorem dX4_init_38 : decode cX4_init 38 = .ok (.new 32, 3) := by decide +kernel
theorem dX4_init_41 : decode cX4_init 41 = .ok (.dup, 1) := by decide +kernel
theorem dX4_init_42 : decode cX4_init 42 = .ok (.invokespecial 34, 3) := by decide +kernel
theorem dX4_init_45 : decode cX4_init 45 = .ok (.putfield 35, 3) := by decide +kernel
theorem dX4_init_48 : decode cX4_init 48 = .ok (.aload_n 0, 1) := by decide +kernel
theorem dX4_init_49 : decode cX4_init 49 = .ok (.new 32, 3) := by decide +kernel
theorem dX4_init_52 : decode cX4_init 52 = .ok (.dup, 1) := by decide +kernel
theorem dX4_init_53 : decode cX4_init 53 = .ok (.invokespecial 34, 3) := by decide +kernel
theorem dX4_init_56 : decode cX4_init 56 = .ok (.putfield 39, 3) := by decide +kernel
theorem dX4_init_59 : decode cX4_init 59 = .ok (.aload_n 0, 1) := by decide +kernel
theorem dX4_init_60 : decode cX4_init 60 = .ok (.new 42, 3) := by decide +kernel
theorem dX4_init_63 : decode cX4_init 63 = .ok (.dup, 1) := by decide +kernel
theorem dX4_init_64 : decode cX4_init 64 = .ok (.invokespecial 44, 3) := by decide +kernel
theorem dX4_init_67 : decode cX4_init 67 = .ok (.putfield 45, 3) := by decide +kernel
theorem dX4_init_70 : decode cX4_init 70 = .ok (.aload_n 0, 1) := by decide +kernel
theorem dX4_init_71 : decode cX4_init 71 = .ok (.bipush 60, 2) := by decide +kernel
theorem dX4_init_73 : decode cX4_init 73 = .ok (.newarray .int, 2) := by decide +kernel
theorem dX4_init_75 : decode cX4_init 75 = .ok (.putfield 49, 3) := by decide +kernel
theorem dX4_init_78 : decode cX4_init 78 = .ok (.aload_n 0, 1) := by decide +kernel
theorem dX4_init_79 : decode cX4_init 79 = .ok (.bipush 36, 2) := by decide +kernel
theorem dX4_init_81 : decode cX4_init 81 = .ok (.putfield 53, 3) := by decide +kernel
theorem dX4_init_84 : decode cX4_init 84 = .ok (.aload_n 0, 1) := by decide +kernel
theorem dX4_init_85 : decode cX4_init 85 = .ok (.bipush 10, 2) := by decide +kernel
theorem dX4_init_87 : decode cX4_init 87 = .ok (.putfield 57, 3) := by decide +kernel
theorem dX4_init_90 : decode cX4_init 90 = .ok (.return_, 1) := by decide +kernel
set_option maxHeartbeats 4000000 in
set_option maxRecDepth 100000 in
theorem c_X4_init (l : Launch) (g : kG) (sz : Nat) (h : Nat) : kMv l g yX4_init cX4_init 1 none 2 27 454 [.ref h] sz [(h, .inr (4, [.null, .null, .null, .null, .null, .null, .null, .int 0, .int 0, .int 0, .int 0]))] (fun (u : (Nat → Nat)) => True) (fun (u : (Nat → Nat)) => ([(h, .inr (4, [.ref (u 1), .ref (u 5), .ref (u 8), .ref (u 17), .ref (u 21), .ref (u 25), .ref (u 27), .int 0, .int 0, .int 36, .int 10])), (u 1, .inr (8, [.int 0, .ref (u 2), .ref (u 3), .ref (u 4)])), (u 2, .inl (gI g, 5, .inl (fun _ => 0))), (u 3, .inl (gI g, 5, .inl (fun _ => 0))), (u 4, .inl (gI g, 5, .inl (fun _ => 0))), (u 5, .inr (1, [.int 0, .ref (u 6), .ref (u 7), .int 0])), (u 6, .inl (gI g, 7, .inl (fun _ => 0))), (u 7, .inl (gI g, 7, .inl (fun _ => 0))), (u 8, .inr (0, [.int 0, .ref (u 9), .ref (u 10), .ref (u 11), .ref (u 12), .ref (u 13), .ref (u 14), .ref (u 15), .int 0, .int 0, .int 0, .ref (u 16)])), (u 9, .inl (gI g, 10, .inl (fun _ => 0))), (u 10, .inl (gI g, 10, .inl (fun _ => 0))), (u 11, .inl (gI g, 10, .inl (fun _ => 0))), (u 12, .inl (gI g, 10, .inl (fun _ => 0))), (u 13, .inl (gI g, 10, .inl (fun _ => 0))), (u 14, .inl (gI g, 10, .inl (fun _ => 0))), (u 15, .inl (gI g, 10, .inl (fun _ => 0))), (u 16, .inl (gI g, 10, .inl (fun _ => 0))), (u 17, .inr (3, [.int 0, .ref (u 18), .ref (u 19), .ref (u 20)])), (u 18, .inl (gI g, 40, .inl (fun _ => 0))), (u 19, .inl (gI g, 40, .inl (fun _ => 0))), (u 20, .inl (gI g, 40, .inl (fun _ => 0))), (u 21, .inr (3, [.int 0, .ref (u 22), .ref (u 23), .ref (u 24)])), (u 22, .inl (gI g, 40, .inl (fun _ => 0))), (u 23, .inl (gI g, 40, .inl (fun _ => 0))), (u 24, .inl (gI g, 40, .inl (fun _ => 0))), (u 25, .inr (6, [.int 0, .int 0, .ref (u 26)])), (u 26, .inl (gI g, 14, .inl (fun _ => 0))), (u 27, .inl (gI g, 60, .inl (fun _ => 0)))] : va_W)) := by
  refine kMv.of (by decide) (Nat.le_of_ble_eq_true rfl) (fun p e s m below meth c A hx hb hr hml hown hts hlk hnm hKW hP hD hS hA ls hl => ?_)
  have hown : s.vm.findClass RX4 = some m.cls := hown
  have hl : lv_has ls 1 [(0, .ref h)] := hl
  refine lv_aload_n hx hb dX4_init_0 rfl (lv_at hl 0 rfl) ?_
  refine W.objInit hx hb hown (hts _ wd_2_14) (hts _ wd_1_10) (hts _ wd_1_11) rfl (by rw [hml]; exact hl.1) rfl dX4_init_1 (Nat.le_of_ble_eq_true rfl) (Nat.le_of_ble_eq_true rfl) ?_
  refine W.eq (g2 := F0 m 4 ls []) rfl ?_
  refine lv_aload_n hx hb dX4_init_4 rfl (lv_at hl 0 rfl) ?_
  refine va_new (ci := 8) (fs := [.int 0, .null, .null, .null]) (C := RX8) (T := TX8) (N := 4) hx hb hts inlX8 tyX8 tyX8_ok hown (hts _ wd_2_15) (hts _ wd_2_16) (hts _ wd_2_17) hKW.1 hP hD hS hA rfl (fun j hj => by rcases (show j = 0 ∨ j = 1 ∨ j = 2 ∨ j = 3 by omega) with rfl | rfl | rfl | rfl <;> rfl) (Nat.le_of_ble_eq_true rfl) (Nat.le_of_ble_eq_true rfl) dX4_init_5 (fun q_1 H hP hD hS => ?_)
  have hP : va_P g.1 vwCl [(h, .inr (4, [.null, .null, .null, .null, .null, .null, .null, .int 0, .int 0, .int 0, .int 0])), (q_1, .inr (8, [.int 0, .null, .null, .null]))] H := hP
  have hD : va_D A [(h, .inr (4, [.null, .null, .null, .null, .null, .null, .null, .int 0, .int 0, .int 0, .int 0])), (q_1, .inr (8, [.int 0, .null, .null, .null]))] := hD
  refine W.widen (k := 1) (n := 4) (Nat.le_of_ble_eq_true rfl) (Nat.le_of_ble_eq_true rfl) ?_
  refine lv_dup hx hb dX4_init_8 rfl ?_
  refine k_IN [1] [0] (wr := [(h, .inr (4, [.null, .null, .null, .null, .null, .null, .null, .int 0, .int 0, .int 0, .int 0]))]) hx hb hml hown hts hKW hP hD hS hA hl.1 (c_X8_init l g _ q_1 ) rfl wd_3_17 wd_2_17 nw_1 wd_3_16 yd_X8_init ⟨Nat.le_of_ble_eq_true rfl, Nat.le_of_ble_eq_true rfl⟩ rfl rfl rfl rfl rfl (by decide) rfl (Nat.le_of_ble_eq_true rfl) dX4_init_9 ⟨Nat.le_of_ble_eq_true rfl, Nat.le_of_ble_eq_true rfl⟩ (fun u_3 H locs hw_4 hP hD hS => ?_)
  have hP : va_P g.1 vwCl [(h, .inr (4, [.null, .null, .null, .null, .null, .null, .null, .int 0, .int 0, .int 0, .int 0])), (q_1, .inr (8, [.int 0, .ref (u_3 1), .ref (u_3 2), .ref (u_3 3)])), (u_3 1, .inl (gI g, 5, .inl (fun _ => 0))), (u_3 2, .inl (gI g, 5, .inl (fun _ => 0))), (u_3 3, .inl (gI g, 5, .inl (fun _ => 0)))] H := hP
  have hD : va_D A [(h, .inr (4, [.null, .null, .null, .null, .null, .null, .null, .int 0, .int 0, .int 0, .int 0])), (q_1, .inr (8, [.int 0, .ref (u_3 1), .ref (u_3 2), .ref (u_3 3)])), (u_3 1, .inl (gI g, 5, .inl (fun _ => 0))), (u_3 2, .inl (gI g, 5, .inl (fun _ => 0))), (u_3 3, .inl (gI g, 5, .inl (fun _ => 0)))] := hD
  refine W.widen (k := 4) (n := 19) (Nat.le_of_ble_eq_true rfl) (Nat.le_of_ble_eq_true rfl) ?_
  refine va_putF (ci := 4) (v := .ref q_1) (C := RX4) (T := TX4) (N := 11) hx hb hts inlX4 tyX4 tyX4_ok nmX4 hown hKW.1 hP hD hS 0 rfl rfl 0 (by decide) (hts _ wd_2_18) (fun _ h => h) rfl hnm rfl (tyX4_ok 0 (by decide)) rfl rfl (Nat.le_of_ble_eq_true rfl) dX4_init_12 (fun H locs hP hD hS => ?_)
  have hP : va_P g.1 vwCl [(h, .inr (4, [.ref q_1, .null, .null, .null, .null, .null, .null, .int 0, .int 0, .int 0, .int 0])), (q_1, .inr (8, [.int 0, .ref (u_3 1), .ref (u_3 2), .ref (u_3 3)])), (u_3 1, .inl (gI g, 5, .inl (fun _ => 0))), (u_3 2, .inl (gI g, 5, .inl (fun _ => 0))), (u_3 3, .inl (gI g, 5, .inl (fun _ => 0)))] H := hP
  have hD : va_D A [(h, .inr (4, [.ref q_1, .null, .null, .null, .null, .null, .null, .int 0, .int 0, .int 0, .int 0])), (q_1, .inr (8, [.int 0, .ref (u_3 1), .ref (u_3 2), .ref (u_3 3)])), (u_3 1, .inl (gI g, 5, .inl (fun _ => 0))), (u_3 2, .inl (gI g, 5, .inl (fun _ => 0))), (u_3 3, .inl (gI g, 5, .inl (fun _ => 0)))] := hD
  refine lv_aload_n hx hb dX4_init_15 rfl (lv_at hl 0 rfl) ?_
  refine va_new (ci := 1) (fs := [.int 0, .null, .null, .int 0]) (C := RX1) (T := TX1) (N := 4) hx hb hts inlX1 tyX1 tyX1_ok hown (hts _ wd_2_19) (hts _ wd_2_20) (hts _ wd_2_21) hKW.1 hP hD hS hA rfl (fun j hj => by rcases (show j = 0 ∨ j = 1 ∨ j = 2 ∨ j = 3 by omega) with rfl | rfl | rfl | rfl <;> rfl) (Nat.le_of_ble_eq_true rfl) (Nat.le_of_ble_eq_true rfl) dX4_init_16 (fun q_5 H hP hD hS => ?_)
  have hP : va_P g.1 vwCl [(h, .inr (4, [.ref q_1, .null, .null, .null, .null, .null, .null, .int 0, .int 0, .int 0, .int 0])), (q_1, .inr (8, [.int 0, .ref (u_3 1), .ref (u_3 2), .ref (u_3 3)])), (u_3 1, .inl (gI g, 5, .inl (fun _ => 0))), (u_3 2, .inl (gI g, 5, .inl (fun _ => 0))), (u_3 3, .inl (gI g, 5, .inl (fun _ => 0))), (q_5, .inr (1, [.int 0, .null, .null, .int 0]))] H := hP
  have hD : va_D A [(h, .inr (4, [.ref q_1, .null, .null, .null, .null, .null, .null, .int 0, .int 0, .int 0, .int 0])), (q_1, .inr (8, [.int 0, .ref (u_3 1), .ref (u_3 2), .ref (u_3 3)])), (u_3 1, .inl (gI g, 5, .inl (fun _ => 0))), (u_3 2, .inl (gI g, 5, .inl (fun _ => 0))), (u_3 3, .inl (gI g, 5, .inl (fun _ => 0))), (q_5, .inr (1, [.int 0, .null, .null, .int 0]))] := hD
  refine W.widen (k := 5) (n := 23) (Nat.le_of_ble_eq_true rfl) (Nat.le_of_ble_eq_true rfl) ?_
  refine lv_dup hx hb dX4_init_19 rfl ?_
  refine k_IN [5] [0, 1, 2, 3, 4] (wr := [(h, .inr (4, [.ref q_1, .null, .null, .null, .null, .null, .null, .int 0, .int 0, .int 0, .int 0])), (q_1, .inr (8, [.int 0, .ref (u_3 1), .ref (u_3 2), .ref (u_3 3)])), (u_3 1, .inl (gI g, 5, .inl (fun _ => 0))), (u_3 2, .inl (gI g, 5, .inl (fun _ => 0))), (u_3 3, .inl (gI g, 5, .inl (fun _ => 0)))]) hx hb hml hown hts hKW hP hD hS hA hl.1 (c_X1_init l g _ q_5 ) rfl wd_3_23 wd_2_21 nw_2 wd_3_22 yd_X1_init ⟨Nat.le_of_ble_eq_true rfl, Nat.le_of_ble_eq_true rfl⟩ rfl rfl rfl rfl rfl (by decide) rfl (Nat.le_of_ble_eq_true rfl) dX4_init_20 ⟨Nat.le_of_ble_eq_true rfl, Nat.le_of_ble_eq_true rfl⟩ (fun u_7 H locs hw_8 hP hD hS => ?_)
  have hP : va_P g.1 vwCl [(h, .inr (4, [.ref q_1, .null, .null, .null, .null, .null, .null, .int 0, .int 0, .int 0, .int 0])), (q_1, .inr (8, [.int 0, .ref (u_3 1), .ref (u_3 2), .ref (u_3 3)])), (u_3 1, .inl (gI g, 5, .inl (fun _ => 0))), (u_3 2, .inl (gI g, 5, .inl (fun _ => 0))), (u_3 3, .inl (gI g, 5, .inl (fun _ => 0))), (q_5, .inr (1, [.int 0, .ref (u_7 1), .ref (u_7 2), .int 0])), (u_7 1, .inl (gI g, 7, .inl (fun _ => 0))), (u_7 2, .inl (gI g, 7, .inl (fun _ => 0)))] H := hP
  have hD : va_D A [(h, .inr (4, [.ref q_1, .null, .null, .null, .null, .null, .null, .int 0, .int 0, .int 0, .int 0])), (q_1, .inr (8, [.int 0, .ref (u_3 1), .ref (u_3 2), .ref (u_3 3)])), (u_3 1, .inl (gI g, 5, .inl (fun _ => 0))), (u_3 2, .inl (gI g, 5, .inl (fun _ => 0))), (u_3 3, .inl (gI g, 5, .inl (fun _ => 0))), (q_5, .inr (1, [.int 0, .ref (u_7 1), .ref (u_7 2), .int 0])), (u_7 1, .inl (gI g, 7, .inl (fun _ => 0))), (u_7 2, .inl (gI g, 7, .inl (fun _ => 0)))] := hD
  refine W.widen (k := 7) (n := 37) (Nat.le_of_ble_eq_true rfl) (Nat.le_of_ble_eq_true rfl) ?_
  refine va_putF (ci := 4) (v := .ref q_5) (C := RX4) (T := TX4) (N := 11) hx hb hts inlX4 tyX4 tyX4_ok nmX4 hown hKW.1 hP hD hS 0 rfl rfl 1 (by decide) (hts _ wd_2_22) (fun _ h => h) rfl hnm rfl (tyX4_ok 1 (by decide)) rfl rfl (Nat.le_of_ble_eq_true rfl) dX4_init_23 (fun H locs hP hD hS => ?_)
  have hP : va_P g.1 vwCl [(h, .inr (4, [.ref q_1, .ref q_5, .null, .null, .null, .null, .null, .int 0, .int 0, .int 0, .int 0])), (q_1, .inr (8, [.int 0, .ref (u_3 1), .ref (u_3 2), .ref (u_3 3)])), (u_3 1, .inl (gI g, 5, .inl (fun _ => 0))), (u_3 2, .inl (gI g, 5, .inl (fun _ => 0))), (u_3 3, .inl (gI g, 5, .inl (fun _ => 0))), (q_5, .inr (1, [.int 0, .ref (u_7 1), .ref (u_7 2), .int 0])), (u_7 1, .inl (gI g, 7, .inl (fun _ => 0))), (u_7 2, .inl (gI g, 7, .inl (fun _ => 0)))] H := hP
  have hD : va_D A [(h, .inr (4, [.ref q_1, .ref q_5, .null, .null, .null, .null, .null, .int 0, .int 0, .int 0, .int 0])), (q_1, .inr (8, [.int 0, .ref (u_3 1), .ref (u_3 2), .ref (u_3 3)])), (u_3 1, .inl (gI g, 5, .inl (fun _ => 0))), (u_3 2, .inl (gI g, 5, .inl (fun _ => 0))), (u_3 3, .inl (gI g, 5, .inl (fun _ => 0))), (q_5, .inr (1, [.int 0, .ref (u_7 1), .ref (u_7 2), .int 0])), (u_7 1, .inl (gI g, 7, .inl (fun _ => 0))), (u_7 2, .inl (gI g, 7, .inl (fun _ => 0)))] := hD
  refine lv_aload_n hx hb dX4_init_26 rfl (lv_at hl 0 rfl) ?_
  refine va_new (ci := 0) (fs := [.int 0, .null, .null, .null, .null, .null, .null, .null, .int 0, .int 0, .int 0, .null]) (C := RX0) (T := TX0) (N := 12) hx hb hts inlX0 tyX0 tyX0_ok hown (hts _ wd_2_23) (hts _ wd_3_0) (hts _ wd_3_1) hKW.1 hP hD hS hA rfl (fun j hj => by rcases (show j = 0 ∨ j = 1 ∨ j = 2 ∨ j = 3 ∨ j = 4 ∨ j = 5 ∨ j = 6 ∨ j = 7 ∨ j = 8 ∨ j = 9 ∨ j = 10 ∨ j = 11 by omega) with rfl | rfl | rfl | rfl | rfl | rfl | rfl | rfl | rfl | rfl | rfl | rfl <;> rfl) (Nat.le_of_ble_eq_true rfl) (Nat.le_of_ble_eq_true rfl) dX4_init_27 (fun q_9 H hP hD hS => ?_)
  have hP : va_P g.1 vwCl [(h, .inr (4, [.ref q_1, .ref q_5, .null, .null, .null, .null, .null, .int 0, .int 0, .int 0, .int 0])), (q_1, .inr (8, [.int 0, .ref (u_3 1), .ref (u_3 2), .ref (u_3 3)])), (u_3 1, .inl (gI g, 5, .inl (fun _ => 0))), (u_3 2, .inl (gI g, 5, .inl (fun _ => 0))), (u_3 3, .inl (gI g, 5, .inl (fun _ => 0))), (q_5, .inr (1, [.int 0, .ref (u_7 1), .ref (u_7 2), .int 0])), (u_7 1, .inl (gI g, 7, .inl (fun _ => 0))), (u_7 2, .inl (gI g, 7, .inl (fun _ => 0))), (q_9, .inr (0, [.int 0, .null, .null, .null, .null, .null, .null, .null, .int 0, .int 0, .int 0, .null]))] H := hP
  have hD : va_D A [(h, .inr (4, [.ref q_1, .ref q_5, .null, .null, .null, .null, .null, .int 0, .int 0, .int 0, .int 0])), (q_1, .inr (8, [.int 0, .ref (u_3 1), .ref (u_3 2), .ref (u_3 3)])), (u_3 1, .inl (gI g, 5, .inl (fun _ => 0))), (u_3 2, .inl (gI g, 5, .inl (fun _ => 0))), (u_3 3, .inl (gI g, 5, .inl (fun _ => 0))), (q_5, .inr (1, [.int 0, .ref (u_7 1), .ref (u_7 2), .int 0])), (u_7 1, .inl (gI g, 7, .inl (fun _ => 0))), (u_7 2, .inl (gI g, 7, .inl (fun _ => 0))), (q_9, .inr (0, [.int 0, .null, .null, .null, .null, .null, .null, .null, .int 0, .int 0, .int 0, .null]))] := hD
  refine W.widen (k := 8) (n := 49) (Nat.le_of_ble_eq_true rfl) (Nat.le_of_ble_eq_true rfl) ?_
  refine lv_dup hx hb dX4_init_30 rfl ?_
  refine k_IN [8] [0, 1, 2, 3, 4, 5, 6, 7] (wr := [(h, .inr (4, [.ref q_1, .ref q_5, .null, .null, .null, .null, .null, .int 0, .int 0, .int 0, .int 0])), (q_1, .inr (8, [.int 0, .ref (u_3 1), .ref (u_3 2), .ref (u_3 3)])), (u_3 1, .inl (gI g, 5, .inl (fun _ => 0))), (u_3 2, .inl (gI g, 5, .inl (fun _ => 0))), (u_3 3, .inl (gI g, 5, .inl (fun _ => 0))), (q_5, .inr (1, [.int 0, .ref (u_7 1), .ref (u_7 2), .int 0])), (u_7 1, .inl (gI g, 7, .inl (fun _ => 0))), (u_7 2, .inl (gI g, 7, .inl (fun _ => 0)))]) hx hb hml hown hts hKW hP hD hS hA hl.1 (c_X0_init l g _ q_9 ) rfl wd_4_4 wd_3_1 nw_3 wd_4_3 yd_X0_init ⟨Nat.le_of_ble_eq_true rfl, Nat.le_of_ble_eq_true rfl⟩ rfl rfl rfl rfl rfl (by decide) rfl (Nat.le_of_ble_eq_true rfl) dX4_init_31 ⟨Nat.le_of_ble_eq_true rfl, Nat.le_of_ble_eq_true rfl⟩ (fun u_11 H locs hw_12 hP hD hS => ?_)
  have hP : va_P g.1 vwCl [(h, .inr (4, [.ref q_1, .ref q_5, .null, .null, .null, .null, .null, .int 0, .int 0, .int 0, .int 0])), (q_1, .inr (8, [.int 0, .ref (u_3 1), .ref (u_3 2), .ref (u_3 3)])), (u_3 1, .inl (gI g, 5, .inl (fun _ => 0))), (u_3 2, .inl (gI g, 5, .inl (fun _ => 0))), (u_3 3, .inl (gI g, 5, .inl (fun _ => 0))), (q_5, .inr (1, [.int 0, .ref (u_7 1), .ref (u_7 2), .int 0])), (u_7 1, .inl (gI g, 7, .inl (fun _ => 0))), (u_7 2, .inl (gI g, 7, .inl (fun _ => 0))), (q_9, .inr (0, [.int 0, .ref (u_11 1), .ref (u_11 2), .ref (u_11 3), .ref (u_11 4), .ref (u_11 5), .ref (u_11 6), .ref (u_11 7), .int 0, .int 0, .int 0, .ref (u_11 8)])), (u_11 1, .inl (gI g, 10, .inl (fun _ => 0))), (u_11 2, .inl (gI g, 10, .inl (fun _ => 0))), (u_11 3, .inl (gI g, 10, .inl (fun _ => 0))), (u_11 4, .inl (gI g, 10, .inl (fun _ => 0))), (u_11 5, .inl (gI g, 10, .inl (fun _ => 0))), (u_11 6, .inl (gI g, 10, .inl (fun _ => 0))), (u_11 7, .inl (gI g, 10, .inl (fun _ => 0))), (u_11 8, .inl (gI g, 10, .inl (fun _ => 0)))] H := hP
  have hD : va_D A [(h, .inr (4, [.ref q_1, .ref q_5, .null, .null, .null, .null, .null, .int 0, .int 0, .int 0, .int 0])), (q_1, .inr (8, [.int 0, .ref (u_3 1), .ref (u_3 2), .ref (u_3 3)])), (u_3 1, .inl (gI g, 5, .inl (fun _ => 0))), (u_3 2, .inl (gI g, 5, .inl (fun _ => 0))), (u_3 3, .inl (gI g, 5, .inl (fun _ => 0))), (q_5, .inr (1, [.int 0, .ref (u_7 1), .ref (u_7 2), .int 0])), (u_7 1, .inl (gI g, 7, .inl (fun _ => 0))), (u_7 2, .inl (gI g, 7, .inl (fun _ => 0))), (q_9, .inr (0, [.int 0, .ref (u_11 1), .ref (u_11 2), .ref (u_11 3), .ref (u_11 4), .ref (u_11 5), .ref (u_11 6), .ref (u_11 7), .int 0, .int 0, .int 0, .ref (u_11 8)])), (u_11 1, .inl (gI g, 10, .inl (fun _ => 0))), (u_11 2, .inl (gI g, 10, .inl (fun _ => 0))), (u_11 3, .inl (gI g, 10, .inl (fun _ => 0))), (u_11 4, .inl (gI g, 10, .inl (fun _ => 0))), (u_11 5, .inl (gI g, 10, .inl (fun _ => 0))), (u_11 6, .inl (gI g, 10, .inl (fun _ => 0))), (u_11 7, .inl (gI g, 10, .inl (fun _ => 0))), (u_11 8, .inl (gI g, 10, .inl (fun _ => 0)))] := hD
  refine W.widen (k := 16) (n := 129) (Nat.le_of_ble_eq_true rfl) (Nat.le_of_ble_eq_true rfl) ?_
  refine va_putF (ci := 4) (v := .ref q_9) (C := RX4) (T := TX4) (N := 11) hx hb hts inlX4 tyX4 tyX4_ok nmX4 hown hKW.1 hP hD hS 0 rfl rfl 2 (by decide) (hts _ wd_3_2) (fun _ h => h) rfl hnm rfl (tyX4_ok 2 (by decide)) rfl rfl (Nat.le_of_ble_eq_true rfl) dX4_init_34 (fun H locs hP hD hS => ?_)
  have hP : va_P g.1 vwCl [(h, .inr (4, [.ref q_1, .ref q_5, .ref q_9, .null, .null, .null, .null, .int 0, .int 0, .int 0, .int 0])), (q_1, .inr (8, [.int 0, .ref (u_3 1), .ref (u_3 2), .ref (u_3 3)])), (u_3 1, .inl (gI g, 5, .inl (fun _ => 0))), (u_3 2, .inl (gI g, 5, .inl (fun _ => 0))), (u_3 3, .inl (gI g, 5, .inl (fun _ => 0))), (q_5, .inr (1, [.int 0, .ref (u_7 1), .ref (u_7 2), .int 0])), (u_7 1, .inl (gI g, 7, .inl (fun _ => 0))), (u_7 2, .inl (gI g, 7, .inl (fun _ => 0))), (q_9, .inr (0, [.int 0, .ref (u_11 1), .ref (u_11 2), .ref (u_11 3), .ref (u_11 4), .ref (u_11 5), .ref (u_11 6), .ref (u_11 7), .int 0, .int 0, .int 0, .ref (u_11 8)])), (u_11 1, .inl (gI g, 10, .inl (fun _ => 0))), (u_11 2, .inl (gI g, 10, .inl (fun _ => 0))), (u_11 3, .inl (gI g, 10, .inl (fun _ => 0))), (u_11 4, .inl (gI g, 10, .inl (fun _ => 0))), (u_11 5, .inl (gI g, 10, .inl (fun _ => 0))), (u_11 6, .inl (gI g, 10, .inl (fun _ => 0))), (u_11 7, .inl (gI g, 10, .inl (fun _ => 0))), (u_11 8, .inl (gI g, 10, .inl (fun _ => 0)))] H := hP
  have hD : va_D A [(h, .inr (4, [.ref q_1, .ref q_5, .ref q_9, .null, .null, .null, .null, .int 0, .int 0, .int 0, .int 0])), (q_1, .inr (8, [.int 0, .ref (u_3 1), .ref (u_3 2), .ref (u_3 3)])), (u_3 1, .inl (gI g, 5, .inl (fun _ => 0))), (u_3 2, .inl (gI g, 5, .inl (fun _ => 0))), (u_3 3, .inl (gI g, 5, .inl (fun _ => 0))), (q_5, .inr (1, [.int 0, .ref (u_7 1), .ref (u_7 2), .int 0])), (u_7 1, .inl (gI g, 7, .inl (fun _ => 0))), (u_7 2, .inl (gI g, 7, .inl (fun _ => 0))), (q_9, .inr (0, [.int 0, .ref (u_11 1), .ref (u_11 2), .ref (u_11 3), .ref (u_11 4), .ref (u_11 5), .ref (u_11 6), .ref (u_11 7), .int 0, .int 0, .int 0, .ref (u_11 8)])), (u_11 1, .inl (gI g, 10, .inl (fun _ => 0))), (u_11 2, .inl (gI g, 10, .inl (fun _ => 0))), (u_11 3, .inl (gI g, 10, .inl (fun _ => 0))), (u_11 4, .inl (gI g, 10, .inl (fun _ => 0))), (u_11 5, .inl (gI g, 10, .inl (fun _ => 0))), (u_11 6, .inl (gI g, 10, .inl (fun _ => 0))), (u_11 7, .inl (gI g, 10, .inl (fun _ => 0))), (u_11 8, .inl (gI g, 10, .inl (fun _ => 0)))] := hD
  refine lv_aload_n hx hb dX4_init_37 rfl (lv_at hl 0 rfl) ?_
  refine va_new (ci := 3) (fs := [.int 0, .null, .null, .null]) (C := RX3) (T := TX3) (N := 4) hx hb hts inlX3 tyX3 tyX3_ok hown (hts _ wd_3_3) (hts _ wd_3_4) (hts _ wd_3_5) hKW.1 hP hD hS hA rfl (fun j hj => by rcases (show j = 0 ∨ j = 1 ∨ j = 2 ∨ j = 3 by omega) with rfl | rfl | rfl | rfl <;> rfl) (Nat.le_of_ble_eq_true rfl) (Nat.le_of_ble_eq_true rfl) dX4_init_38 (fun q_13 H hP hD hS => ?_)
  have hP : va_P g.1 vwCl [(h, .inr (4, [.ref q_1, .ref q_5, .ref q_9, .null, .null, .null, .null, .int 0, .int 0, .int 0, .int 0])), (q_1, .inr (8, [.int 0, .ref (u_3 1), .ref (u_3 2), .ref (u_3 3)])), (u_3 1, .inl (gI g, 5, .inl (fun _ => 0))), (u_3 2, .inl (gI g, 5, .inl (fun _ => 0))), (u_3 3, .inl (gI g, 5, .inl (fun _ => 0))), (q_5, .inr (1, [.int 0, .ref (u_7 1), .ref (u_7 2), .int 0])), (u_7 1, .inl (gI g, 7, .inl (fun _ => 0))), (u_7 2, .inl (gI g, 7, .inl (fun _ => 0))), (q_9, .inr (0, [.int 0, .ref (u_11 1), .ref (u_11 2), .ref (u_11 3), .ref (u_11 4), .ref (u_11 5), .ref (u_11 6), .ref (u_11 7), .int 0, .int 0, .int 0, .ref (u_11 8)])), (u_11 1, .inl (gI g, 10, .inl (fun _ => 0))), (u_11 2, .inl (gI g, 10, .inl (fun _ => 0))), (u_11 3, .inl (gI g, 10, .inl (fun _ => 0))), (u_11 4, .inl (gI g, 10, .inl (fun _ => 0))), (u_11 5, .inl (gI g, 10, .inl (fun _ => 0))), (u_11 6, .inl (gI g, 10, .inl (fun _ => 0))), (u_11 7, .inl (gI g, 10, .inl (fun _ => 0))), (u_11 8, .inl (gI g, 10, .inl (fun _ => 0))), (q_13, .inr (3, [.int 0, .null, .null, .null]))] H := hP
  have hD : va_D A [(h, .inr (4, [.ref q_1, .ref q_5, .ref q_9, .null, .null, .null, .null, .int 0, .int 0, .int 0, .int 0])), (q_1, .inr (8, [.int 0, .ref (u_3 1), .ref (u_3 2), .ref (u_3 3)])), (u_3 1, .inl (gI g, 5, .inl (fun _ => 0))), (u_3 2, .inl (gI g, 5, .inl (fun _ => 0))), (u_3 3, .inl (gI g, 5, .inl (fun _ => 0))), (q_5, .inr (1, [.int 0, .ref (u_7 1), .ref (u_7 2), .int 0])), (u_7 1, .inl (gI g, 7, .inl (fun _ => 0))), (u_7 2, .inl (gI g, 7, .inl (fun _ => 0))), (q_9, .inr (0, [.int 0, .ref (u_11 1), .ref (u_11 2), .ref (u_11 3), .ref (u_11 4), .ref (u_11 5), .ref (u_11 6), .ref (u_11 7), .int 0, .int 0, .int 0, .ref (u_11 8)])), (u_11 1, .inl (gI g, 10, .inl (fun _ => 0))), (u_11 2, .inl (gI g, 10, .inl (fun _ => 0))), (u_11 3, .inl (gI g, 10, .inl (fun _ => 0))), (u_11 4, .inl (gI g, 10, .inl (fun _ => 0))), (u_11 5, .inl (gI g, 10, .inl (fun _ => 0))), (u_11 6, .inl (gI g, 10, .inl (fun _ => 0))), (u_11 7, .inl (gI g, 10, .inl (fun _ => 0))), (u_11 8, .inl (gI g, 10, .inl (fun _ => 0))), (q_13, .inr (3, [.int 0, .null, .null, .null]))] := hD
  refine W.widen (k := 17) (n := 133) (Nat.le_of_ble_eq_true rfl) (Nat.le_of_ble_eq_true rfl) ?_
  refine lv_dup hx hb dX4_init_41 rfl ?_
  refine k_IN [17] [0, 1, 2, 3, 4, 5, 6, 7, 8, 9, 10, 11, 12, 13, 14, 15, 16] (wr := [(h, .inr (4, [.ref q_1, .ref q_5, .ref q_9, .null, .null, .null, .null, .int 0, .int 0, .int 0, .int 0])), (q_1, .inr (8, [.int 0, .ref (u_3 1), .ref (u_3 2), .ref (u_3 3)])), (u_3 1, .inl (gI g, 5, .inl (fun _ => 0))), (u_3 2, .inl (gI g, 5, .inl (fun _ => 0))), (u_3 3, .inl (gI g, 5, .inl (fun _ => 0))), (q_5, .inr (1, [.int 0, .ref (u_7 1), .ref (u_7 2), .int 0])), (u_7 1, .inl (gI g, 7, .inl (fun _ => 0))), (u_7 2, .inl (gI g, 7, .inl (fun _ => 0))), (q_9, .inr (0, [.int 0, .ref (u_11 1), .ref (u_11 2), .ref (u_11 3), .ref (u_11 4), .ref (u_11 5), .ref (u_11 6), .ref (u_11 7), .int 0, .int 0, .int 0, .ref (u_11 8)])), (u_11 1, .inl (gI g, 10, .inl (fun _ => 0))), (u_11 2, .inl (gI g, 10, .inl (fun _ => 0))), (u_11 3, .inl (gI g, 10, .inl (fun _ => 0))), (u_11 4, .inl (gI g, 10, .inl (fun _ => 0))), (u_11 5, .inl (gI g, 10, .inl (fun _ => 0))), (u_11 6, .inl (gI g, 10, .inl (fun _ => 0))), (u_11 7, .inl (gI g, 10, .inl (fun _ => 0))), (u_11 8, .inl (gI g, 10, .inl (fun _ => 0)))]) hx hb hml hown hts hKW hP hD hS hA hl.1 (c_X3_init l g _ q_13 ) rfl wd_4_15 wd_3_5 nw_4 wd_4_14 yd_X3_init ⟨Nat.le_of_ble_eq_true rfl, Nat.le_of_ble_eq_true rfl⟩ rfl rfl rfl rfl rfl (by decide) rfl (Nat.le_of_ble_eq_true rfl) dX4_init_42 ⟨Nat.le_of_ble_eq_true rfl, Nat.le_of_ble_eq_true rfl⟩ (fun u_15 H locs hw_16 hP hD hS => ?_)
  have hP : va_P g.1 vwCl [(h, .inr (4, [.ref q_1, .ref q_5, .ref q_9, .null, .null, .null, .null, .int 0, .int 0, .int 0, .int 0])), (q_1, .inr (8, [.int 0, .ref (u_3 1), .ref (u_3 2), .ref (u_3 3)])), (u_3 1, .inl (gI g, 5, .inl (fun _ => 0))), (u_3 2, .inl (gI g, 5, .inl (fun _ => 0))), (u_3 3, .inl (gI g, 5, .inl (fun _ => 0))), (q_5, .inr (1, [.int 0, .ref (u_7 1), .ref (u_7 2), .int 0])), (u_7 1, .inl (gI g, 7, .inl (fun _ => 0))), (u_7 2, .inl (gI g, 7, .inl (fun _ => 0))), (q_9, .inr (0, [.int 0, .ref (u_11 1), .ref (u_11 2), .ref (u_11 3), .ref (u_11 4), .ref (u_11 5), .ref (u_11 6), .ref (u_11 7), .int 0, .int 0, .int 0, .ref (u_11 8)])), (u_11 1, .inl (gI g, 10, .inl (fun _ => 0))), (u_11 2, .inl (gI g, 10, .inl (fun _ => 0))), (u_11 3, .inl (gI g, 10, .inl (fun _ => 0))), (u_11 4, .inl (gI g, 10, .inl (fun _ => 0))), (u_11 5, .inl (gI g, 10, .inl (fun _ => 0))), (u_11 6, .inl (gI g, 10, .inl (fun _ => 0))), (u_11 7, .inl (gI g, 10, .inl (fun _ => 0))), (u_11 8, .inl (gI g, 10, .inl (fun _ => 0))), (q_13, .inr (3, [.int 0, .ref (u_15 1), .ref (u_15 2), .ref (u_15 3)])), (u_15 1, .inl (gI g, 40, .inl (fun _ => 0))), (u_15 2, .inl (gI g, 40, .inl (fun _ => 0))), (u_15 3, .inl (gI g, 40, .inl (fun _ => 0)))] H := hP
  have hD : va_D A [(h, .inr (4, [.ref q_1, .ref q_5, .ref q_9, .null, .null, .null, .null, .int 0, .int 0, .int 0, .int 0])), (q_1, .inr (8, [.int 0, .ref (u_3 1), .ref (u_3 2), .ref (u_3 3)])), (u_3 1, .inl (gI g, 5, .inl (fun _ => 0))), (u_3 2, .inl (gI g, 5, .inl (fun _ => 0))), (u_3 3, .inl (gI g, 5, .inl (fun _ => 0))), (q_5, .inr (1, [.int 0, .ref (u_7 1), .ref (u_7 2), .int 0])), (u_7 1, .inl (gI g, 7, .inl (fun _ => 0))), (u_7 2, .inl (gI g, 7, .inl (fun _ => 0))), (q_9, .inr (0, [.int 0, .ref (u_11 1), .ref (u_11 2), .ref (u_11 3), .ref (u_11 4), .ref (u_11 5), .ref (u_11 6), .ref (u_11 7), .int 0, .int 0, .int 0, .ref (u_11 8)])), (u_11 1, .inl (gI g, 10, .inl (fun _ => 0))), (u_11 2, .inl (gI g, 10, .inl (fun _ => 0))), (u_11 3, .inl (gI g, 10, .inl (fun _ => 0))), (u_11 4, .inl (gI g, 10, .inl (fun _ => 0))), (u_11 5, .inl (gI g, 10, .inl (fun _ => 0))), (u_11 6, .inl (gI g, 10, .inl (fun _ => 0))), (u_11 7, .inl (gI g, 10, .inl (fun _ => 0))), (u_11 8, .inl (gI g, 10, .inl (fun _ => 0))), (q_13, .inr (3, [.int 0, .ref (u_15 1), .ref (u_15 2), .ref (u_15 3)])), (u_15 1, .inl (gI g, 40, .inl (fun _ => 0))), (u_15 2, .inl (gI g, 40, .inl (fun _ => 0))), (u_15 3, .inl (gI g, 40, .inl (fun _ => 0)))] := hD
  refine W.widen (k := 20) (n := 253) (Nat.le_of_ble_eq_true rfl) (Nat.le_of_ble_eq_true rfl) ?_
  refine va_putF (ci := 4) (v := .ref q_13) (C := RX4) (T := TX4) (N := 11) hx hb hts inlX4 tyX4 tyX4_ok nmX4 hown hKW.1 hP hD hS 0 rfl rfl 3 (by decide) (hts _ wd_3_6) (fun _ h => h) rfl hnm rfl (tyX4_ok 3 (by decide)) rfl rfl (Nat.le_of_ble_eq_true rfl) dX4_init_45 (fun H locs hP hD hS => ?_)
  have hP : va_P g.1 vwCl [(h, .inr (4, [.ref q_1, .ref q_5, .ref q_9, .ref q_13, .null, .null, .null, .int 0, .int 0, .int 0, .int 0])), (q_1, .inr (8, [.int 0, .ref (u_3 1), .ref (u_3 2), .ref (u_3 3)])), (u_3 1, .inl (gI g, 5, .inl (fun _ => 0))), (u_3 2, .inl (gI g, 5, .inl (fun _ => 0))), (u_3 3, .inl (gI g, 5, .inl (fun _ => 0))), (q_5, .inr (1, [.int 0, .ref (u_7 1), .ref (u_7 2), .int 0])), (u_7 1, .inl (gI g, 7, .inl (fun _ => 0))), (u_7 2, .inl (gI g, 7, .inl (fun _ => 0))), (q_9, .inr (0, [.int 0, .ref (u_11 1), .ref (u_11 2), .ref (u_11 3), .ref (u_11 4), .ref (u_11 5), .ref (u_11 6), .ref (u_11 7), .int 0, .int 0, .int 0, .ref (u_11 8)])), (u_11 1, .inl (gI g, 10, .inl (fun _ => 0))), (u_11 2, .inl (gI g, 10, .inl (fun _ => 0))), (u_11 3, .inl (gI g, 10, .inl (fun _ => 0))), (u_11 4, .inl (gI g, 10, .inl (fun _ => 0))), (u_11 5, .inl (gI g, 10, .inl (fun _ => 0))), (u_11 6, .inl (gI g, 10, .inl (fun _ => 0))), (u_11 7, .inl (gI g, 10, .inl (fun _ => 0))), (u_11 8, .inl (gI g, 10, .inl (fun _ => 0))), (q_13, .inr (3, [.int 0, .ref (u_15 1), .ref (u_15 2), .ref (u_15 3)])), (u_15 1, .inl (gI g, 40, .inl (fun _ => 0))), (u_15 2, .inl (gI g, 40, .inl (fun _ => 0))), (u_15 3, .inl (gI g, 40, .inl (fun _ => 0)))] H := hP
  have hD : va_D A [(h, .inr (4, [.ref q_1, .ref q_5, .ref q_9, .ref q_13, .null, .null, .null, .int 0, .int 0, .int 0, .int 0])), (q_1, .inr (8, [.int 0, .ref (u_3 1), .ref (u_3 2), .ref (u_3 3)])), (u_3 1, .inl (gI g, 5, .inl (fun _ => 0))), (u_3 2, .inl (gI g, 5, .inl (fun _ => 0))), (u_3 3, .inl (gI g, 5, .inl (fun _ => 0))), (q_5, .inr (1, [.int 0, .ref (u_7 1), .ref (u_7 2), .int 0])), (u_7 1, .inl (gI g, 7, .inl (fun _ => 0))), (u_7 2, .inl (gI g, 7, .inl (fun _ => 0))), (q_9, .inr (0, [.int 0, .ref (u_11 1), .ref (u_11 2), .ref (u_11 3), .ref (u_11 4), .ref (u_11 5), .ref (u_11 6), .ref (u_11 7), .int 0, .int 0, .int 0, .ref (u_11 8)])), (u_11 1, .inl (gI g, 10, .inl (fun _ => 0))), (u_11 2, .inl (gI g, 10, .inl (fun _ => 0))), (u_11 3, .inl (gI g, 10, .inl (fun _ => 0))), (u_11 4, .inl (gI g, 10, .inl (fun _ => 0))), (u_11 5, .inl (gI g, 10, .inl (fun _ => 0))), (u_11 6, .inl (gI g, 10, .inl (fun _ => 0))), (u_11 7, .inl (gI g, 10, .inl (fun _ => 0))), (u_11 8, .inl (gI g, 10, .inl (fun _ => 0))), (q_13, .inr (3, [.int 0, .ref (u_15 1), .ref (u_15 2), .ref (u_15 3)])), (u_15 1, .inl (gI g, 40, .inl (fun _ => 0))), (u_15 2, .inl (gI g, 40, .inl (fun _ => 0))), (u_15 3, .inl (gI g, 40, .inl (fun _ => 0)))] := hD
  refine lv_aload_n hx hb dX4_init_48 rfl (lv_at hl 0 rfl) ?_
  refine va_new (ci := 3) (fs := [.int 0, .null, .null, .null]) (C := RX3) (T := TX3) (N := 4) hx hb hts inlX3 tyX3 tyX3_ok hown (hts _ wd_3_3) (hts _ wd_3_4) (hts _ wd_3_5) hKW.1 hP hD hS hA rfl (fun j hj => by rcases (show j = 0 ∨ j = 1 ∨ j = 2 ∨ j = 3 by omega) with rfl | rfl | rfl | rfl <;> rfl) (Nat.le_of_ble_eq_true rfl) (Nat.le_of_ble_eq_true rfl) dX4_init_49 (fun q_17 H hP hD hS => ?_)
  have hP : va_P g.1 vwCl [(h, .inr (4, [.ref q_1, .ref q_5, .ref q_9, .ref q_13, .null, .null, .null, .int 0, .int 0, .int 0, .int 0])), (q_1, .inr (8, [.int 0, .ref (u_3 1), .ref (u_3 2), .ref (u_3 3)])), (u_3 1, .inl (gI g, 5, .inl (fun _ => 0))), (u_3 2, .inl (gI g, 5, .inl (fun _ => 0))), (u_3 3, .inl (gI g, 5, .inl (fun _ => 0))), (q_5, .inr (1, [.int 0, .ref (u_7 1), .ref (u_7 2), .int 0])), (u_7 1, .inl (gI g, 7, .inl (fun _ => 0))), (u_7 2, .inl (gI g, 7, .inl (fun _ => 0))), (q_9, .inr (0, [.int 0, .ref (u_11 1), .ref (u_11 2), .ref (u_11 3), .ref (u_11 4), .ref (u_11 5), .ref (u_11 6), .ref (u_11 7), .int 0, .int 0, .int 0, .ref (u_11 8)])), (u_11 1, .inl (gI g, 10, .inl (fun _ => 0))), (u_11 2, .inl (gI g, 10, .inl (fun _ => 0))), (u_11 3, .inl (gI g, 10, .inl (fun _ => 0))), (u_11 4, .inl (gI g, 10, .inl (fun _ => 0))), (u_11 5, .inl (gI g, 10, .inl (fun _ => 0))), (u_11 6, .inl (gI g, 10, .inl (fun _ => 0))), (u_11 7, .inl (gI g, 10, .inl (fun _ => 0))), (u_11 8, .inl (gI g, 10, .inl (fun _ => 0))), (q_13, .inr (3, [.int 0, .ref (u_15 1), .ref (u_15 2), .ref (u_15 3)])), (u_15 1, .inl (gI g, 40, .inl (fun _ => 0))), (u_15 2, .inl (gI g, 40, .inl (fun _ => 0))), (u_15 3, .inl (gI g, 40, .inl (fun _ => 0))), (q_17, .inr (3, [.int 0, .null, .null, .null]))] H := hP
  have hD : va_D A [(h, .inr (4, [.ref q_1, .ref q_5, .ref q_9, .ref q_13, .null, .null, .null, .int 0, .int 0, .int 0, .int 0])), (q_1, .inr (8, [.int 0, .ref (u_3 1), .ref (u_3 2), .ref (u_3 3)])), (u_3 1, .inl (gI g, 5, .inl (fun _ => 0))), (u_3 2, .inl (gI g, 5, .inl (fun _ => 0))), (u_3 3, .inl (gI g, 5, .inl (fun _ => 0))), (q_5, .inr (1, [.int 0, .ref (u_7 1), .ref (u_7 2), .int 0])), (u_7 1, .inl (gI g, 7, .inl (fun _ => 0))), (u_7 2, .inl (gI g, 7, .inl (fun _ => 0))), (q_9, .inr (0, [.int 0, .ref (u_11 1), .ref (u_11 2), .ref (u_11 3), .ref (u_11 4), .ref (u_11 5), .ref (u_11 6), .ref (u_11 7), .int 0, .int 0, .int 0, .ref (u_11 8)])), (u_11 1, .inl (gI g, 10, .inl (fun _ => 0))), (u_11 2, .inl (gI g, 10, .inl (fun _ => 0))), (u_11 3, .inl (gI g, 10, .inl (fun _ => 0))), (u_11 4, .inl (gI g, 10, .inl (fun _ => 0))), (u_11 5, .inl (gI g, 10, .inl (fun _ => 0))), (u_11 6, .inl (gI g, 10, .inl (fun _ => 0))), (u_11 7, .inl (gI g, 10, .inl (fun _ => 0))), (u_11 8, .inl (gI g, 10, .inl (fun _ => 0))), (q_13, .inr (3, [.int 0, .ref (u_15 1), .ref (u_15 2), .ref (u_15 3)])), (u_15 1, .inl (gI g, 40, .inl (fun _ => 0))), (u_15 2, .inl (gI g, 40, .inl (fun _ => 0))), (u_15 3, .inl (gI g, 40, .inl (fun _ => 0))), (q_17, .inr (3, [.int 0, .null, .null, .null]))] := hD
  refine W.widen (k := 21) (n := 257) (Nat.le_of_ble_eq_true rfl) (Nat.le_of_ble_eq_true rfl) ?_
  refine lv_dup hx hb dX4_init_52 rfl ?_
  refine k_IN [21] [0, 1, 2, 3, 4, 5, 6, 7, 8, 9, 10, 11, 12, 13, 14, 15, 16, 17, 18, 19, 20] (wr := [(h, .inr (4, [.ref q_1, .ref q_5, .ref q_9, .ref q_13, .null, .null, .null, .int 0, .int 0, .int 0, .int 0])), (q_1, .inr (8, [.int 0, .ref (u_3 1), .ref (u_3 2), .ref (u_3 3)])), (u_3 1, .inl (gI g, 5, .inl (fun _ => 0))), (u_3 2, .inl (gI g, 5, .inl (fun _ => 0))), (u_3 3, .inl (gI g, 5, .inl (fun _ => 0))), (q_5, .inr (1, [.int 0, .ref (u_7 1), .ref (u_7 2), .int 0])), (u_7 1, .inl (gI g, 7, .inl (fun _ => 0))), (u_7 2, .inl (gI g, 7, .inl (fun _ => 0))), (q_9, .inr (0, [.int 0, .ref (u_11 1), .ref (u_11 2), .ref (u_11 3), .ref (u_11 4), .ref (u_11 5), .ref (u_11 6), .ref (u_11 7), .int 0, .int 0, .int 0, .ref (u_11 8)])), (u_11 1, .inl (gI g, 10, .inl (fun _ => 0))), (u_11 2, .inl (gI g, 10, .inl (fun _ => 0))), (u_11 3, .inl (gI g, 10, .inl (fun _ => 0))), (u_11 4, .inl (gI g, 10, .inl (fun _ => 0))), (u_11 5, .inl (gI g, 10, .inl (fun _ => 0))), (u_11 6, .inl (gI g, 10, .inl (fun _ => 0))), (u_11 7, .inl (gI g, 10, .inl (fun _ => 0))), (u_11 8, .inl (gI g, 10, .inl (fun _ => 0))), (q_13, .inr (3, [.int 0, .ref (u_15 1), .ref (u_15 2), .ref (u_15 3)])), (u_15 1, .inl (gI g, 40, .inl (fun _ => 0))), (u_15 2, .inl (gI g, 40, .inl (fun _ => 0))), (u_15 3, .inl (gI g, 40, .inl (fun _ => 0)))]) hx hb hml hown hts hKW hP hD hS hA hl.1 (c_X3_init l g _ q_17 ) rfl wd_4_15 wd_3_5 nw_4 wd_4_14 yd_X3_init ⟨Nat.le_of_ble_eq_true rfl, Nat.le_of_ble_eq_true rfl⟩ rfl rfl rfl rfl rfl (by decide) rfl (Nat.le_of_ble_eq_true rfl) dX4_init_53 ⟨Nat.le_of_ble_eq_true rfl, Nat.le_of_ble_eq_true rfl⟩ (fun u_19 H locs hw_20 hP hD hS => ?_)
  have hP : va_P g.1 vwCl [(h, .inr (4, [.ref q_1, .ref q_5, .ref q_9, .ref q_13, .null, .null, .null, .int 0, .int 0, .int 0, .int 0])), (q_1, .inr (8, [.int 0, .ref (u_3 1), .ref (u_3 2), .ref (u_3 3)])), (u_3 1, .inl (gI g, 5, .inl (fun _ => 0))), (u_3 2, .inl (gI g, 5, .inl (fun _ => 0))), (u_3 3, .inl (gI g, 5, .inl (fun _ => 0))), (q_5, .inr (1, [.int 0, .ref (u_7 1), .ref (u_7 2), .int 0])), (u_7 1, .inl (gI g, 7, .inl (fun _ => 0))), (u_7 2, .inl (gI g, 7, .inl (fun _ => 0))), (q_9, .inr (0, [.int 0, .ref (u_11 1), .ref (u_11 2), .ref (u_11 3), .ref (u_11 4), .ref (u_11 5), .ref (u_11 6), .ref (u_11 7), .int 0, .int 0, .int 0, .ref (u_11 8)])), (u_11 1, .inl (gI g, 10, .inl (fun _ => 0))), (u_11 2, .inl (gI g, 10, .inl (fun _ => 0))), (u_11 3, .inl (gI g, 10, .inl (fun _ => 0))), (u_11 4, .inl (gI g, 10, .inl (fun _ => 0))), (u_11 5, .inl (gI g, 10, .inl (fun _ => 0))), (u_11 6, .inl (gI g, 10, .inl (fun _ => 0))), (u_11 7, .inl (gI g, 10, .inl (fun _ => 0))), (u_11 8, .inl (gI g, 10, .inl (fun _ => 0))), (q_13, .inr (3, [.int 0, .ref (u_15 1), .ref (u_15 2), .ref (u_15 3)])), (u_15 1, .inl (gI g, 40, .inl (fun _ => 0))), (u_15 2, .inl (gI g, 40, .inl (fun _ => 0))), (u_15 3, .inl (gI g, 40, .inl (fun _ => 0))), (q_17, .inr (3, [.int 0, .ref (u_19 1), .ref (u_19 2), .ref (u_19 3)])), (u_19 1, .inl (gI g, 40, .inl (fun _ => 0))), (u_19 2, .inl (gI g, 40, .inl (fun _ => 0))), (u_19 3, .inl (gI g, 40, .inl (fun _ => 0)))] H := hP
  have hD : va_D A [(h, .inr (4, [.ref q_1, .ref q_5, .ref q_9, .ref q_13, .null, .null, .null, .int 0, .int 0, .int 0, .int 0])), (q_1, .inr (8, [.int 0, .ref (u_3 1), .ref (u_3 2), .ref (u_3 3)])), (u_3 1, .inl (gI g, 5, .inl (fun _ => 0))), (u_3 2, .inl (gI g, 5, .inl (fun _ => 0))), (u_3 3, .inl (gI g, 5, .inl (fun _ => 0))), (q_5, .inr (1, [.int 0, .ref (u_7 1), .ref (u_7 2), .int 0])), (u_7 1, .inl (gI g, 7, .inl (fun _ => 0))), (u_7 2, .inl (gI g, 7, .inl (fun _ => 0))), (q_9, .inr (0, [.int 0, .ref (u_11 1), .ref (u_11 2), .ref (u_11 3), .ref (u_11 4), .ref (u_11 5), .ref (u_11 6), .ref (u_11 7), .int 0, .int 0, .int 0, .ref (u_11 8)])), (u_11 1, .inl (gI g, 10, .inl (fun _ => 0))), (u_11 2, .inl (gI g, 10, .inl (fun _ => 0))), (u_11 3, .inl (gI g, 10, .inl (fun _ => 0))), (u_11 4, .inl (gI g, 10, .inl (fun _ => 0))), (u_11 5, .inl (gI g, 10, .inl (fun _ => 0))), (u_11 6, .inl (gI g, 10, .inl (fun _ => 0))), (u_11 7, .inl (gI g, 10, .inl (fun _ => 0))), (u_11 8, .inl (gI g, 10, .inl (fun _ => 0))), (q_13, .inr (3, [.int 0, .ref (u_15 1), .ref (u_15 2), .ref (u_15 3)])), (u_15 1, .inl (gI g, 40, .inl (fun _ => 0))), (u_15 2, .inl (gI g, 40, .inl (fun _ => 0))), (u_15 3, .inl (gI g, 40, .inl (fun _ => 0))), (q_17, .inr (3, [.int 0, .ref (u_19 1), .ref (u_19 2), .ref (u_19 3)])), (u_19 1, .inl (gI g, 40, .inl (fun _ => 0))), (u_19 2, .inl (gI g, 40, .inl (fun _ => 0))), (u_19 3, .inl (gI g, 40, .inl (fun _ => 0)))] := hD
  refine W.widen (k := 24) (n := 377) (Nat.le_of_ble_eq_true rfl) (Nat.le_of_ble_eq_true rfl) ?_
  refine va_putF (ci := 4) (v := .ref q_17) (C := RX4) (T := TX4) (N := 11) hx hb hts inlX4 tyX4 tyX4_ok nmX4 hown hKW.1 hP hD hS 0 rfl rfl 4 (by decide) (hts _ wd_3_7) (fun _ h => h) rfl hnm rfl (tyX4_ok 4 (by decide)) rfl rfl (Nat.le_of_ble_eq_true rfl) dX4_init_56 (fun H locs hP hD hS => ?_)
  have hP : va_P g.1 vwCl [(h, .inr (4, [.ref q_1, .ref q_5, .ref q_9, .ref q_13, .ref q_17, .null, .null, .int 0, .int 0, .int 0, .int 0])), (q_1, .inr (8, [.int 0, .ref (u_3 1), .ref (u_3 2), .ref (u_3 3)])), (u_3 1, .inl (gI g, 5, .inl (fun _ => 0))), (u_3 2, .inl (gI g, 5, .inl (fun _ => 0))), (u_3 3, .inl (gI g, 5, .inl (fun _ => 0))), (q_5, .inr (1, [.int 0, .ref (u_7 1), .ref (u_7 2), .int 0])), (u_7 1, .inl (gI g, 7, .inl (fun _ => 0))), (u_7 2, .inl (gI g, 7, .inl (fun _ => 0))), (q_9, .inr (0, [.int 0, .ref (u_11 1), .ref (u_11 2), .ref (u_11 3), .ref (u_11 4), .ref (u_11 5), .ref (u_11 6), .ref (u_11 7), .int 0, .int 0, .int 0, .ref (u_11 8)])), (u_11 1, .inl (gI g, 10, .inl (fun _ => 0))), (u_11 2, .inl (gI g, 10, .inl (fun _ => 0))), (u_11 3, .inl (gI g, 10, .inl (fun _ => 0))), (u_11 4, .inl (gI g, 10, .inl (fun _ => 0))), (u_11 5, .inl (gI g, 10, .inl (fun _ => 0))), (u_11 6, .inl (gI g, 10, .inl (fun _ => 0))), (u_11 7, .inl (gI g, 10, .inl (fun _ => 0))), (u_11 8, .inl (gI g, 10, .inl (fun _ => 0))), (q_13, .inr (3, [.int 0, .ref (u_15 1), .ref (u_15 2), .ref (u_15 3)])), (u_15 1, .inl (gI g, 40, .inl (fun _ => 0))), (u_15 2, .inl (gI g, 40, .inl (fun _ => 0))), (u_15 3, .inl (gI g, 40, .inl (fun _ => 0))), (q_17, .inr (3, [.int 0, .ref (u_19 1), .ref (u_19 2), .ref (u_19 3)])), (u_19 1, .inl (gI g, 40, .inl (fun _ => 0))), (u_19 2, .inl (gI g, 40, .inl (fun _ => 0))), (u_19 3, .inl (gI g, 40, .inl (fun _ => 0)))] H := hP
  have hD : va_D A [(h, .inr (4, [.ref q_1, .ref q_5, .ref q_9, .ref q_13, .ref q_17, .null, .null, .int 0, .int 0, .int 0, .int 0])), (q_1, .inr (8, [.int 0, .ref (u_3 1), .ref (u_3 2), .ref (u_3 3)])), (u_3 1, .inl (gI g, 5, .inl (fun _ => 0))), (u_3 2, .inl (gI g, 5, .inl (fun _ => 0))), (u_3 3, .inl (gI g, 5, .inl (fun _ => 0))), (q_5, .inr (1, [.int 0, .ref (u_7 1), .ref (u_7 2), .int 0])), (u_7 1, .inl (gI g, 7, .inl (fun _ => 0))), (u_7 2, .inl (gI g, 7, .inl (fun _ => 0))), (q_9, .inr (0, [.int 0, .ref (u_11 1), .ref (u_11 2), .ref (u_11 3), .ref (u_11 4), .ref (u_11 5), .ref (u_11 6), .ref (u_11 7), .int 0, .int 0, .int 0, .ref (u_11 8)])), (u_11 1, .inl (gI g, 10, .inl (fun _ => 0))), (u_11 2, .inl (gI g, 10, .inl (fun _ => 0))), (u_11 3, .inl (gI g, 10, .inl (fun _ => 0))), (u_11 4, .inl (gI g, 10, .inl (fun _ => 0))), (u_11 5, .inl (gI g, 10, .inl (fun _ => 0))), (u_11 6, .inl (gI g, 10, .inl (fun _ => 0))), (u_11 7, .inl (gI g, 10, .inl (fun _ => 0))), (u_11 8, .inl (gI g, 10, .inl (fun _ => 0))), (q_13, .inr (3, [.int 0, .ref (u_15 1), .ref (u_15 2), .ref (u_15 3)])), (u_15 1, .inl (gI g, 40, .inl (fun _ => 0))), (u_15 2, .inl (gI g, 40, .inl (fun _ => 0))), (u_15 3, .inl (gI g, 40, .inl (fun _ => 0))), (q_17, .inr (3, [.int 0, .ref (u_19 1), .ref (u_19 2), .ref (u_19 3)])), (u_19 1, .inl (gI g, 40, .inl (fun _ => 0))), (u_19 2, .inl (gI g, 40, .inl (fun _ => 0))), (u_19 3, .inl (gI g, 40, .inl (fun _ => 0)))] := hD
  refine lv_aload_n hx hb dX4_init_59 rfl (lv_at hl 0 rfl) ?_
  refine va_new (ci := 6) (fs := [.int 0, .int 0, .null]) (C := RX6) (T := TX6) (N := 3) hx hb hts inlX6 tyX6 tyX6_ok hown (hts _ wd_3_8) (hts _ wd_3_9) (hts _ wd_3_10) hKW.1 hP hD hS hA rfl (fun j hj => by rcases (show j = 0 ∨ j = 1 ∨ j = 2 by omega) with rfl | rfl | rfl <;> rfl) (Nat.le_of_ble_eq_true rfl) (Nat.le_of_ble_eq_true rfl) dX4_init_60 (fun q_21 H hP hD hS => ?_)
  have hP : va_P g.1 vwCl [(h, .inr (4, [.ref q_1, .ref q_5, .ref q_9, .ref q_13, .ref q_17, .null, .null, .int 0, .int 0, .int 0, .int 0])), (q_1, .inr (8, [.int 0, .ref (u_3 1), .ref (u_3 2), .ref (u_3 3)])), (u_3 1, .inl (gI g, 5, .inl (fun _ => 0))), (u_3 2, .inl (gI g, 5, .inl (fun _ => 0))), (u_3 3, .inl (gI g, 5, .inl (fun _ => 0))), (q_5, .inr (1, [.int 0, .ref (u_7 1), .ref (u_7 2), .int 0])), (u_7 1, .inl (gI g, 7, .inl (fun _ => 0))), (u_7 2, .inl (gI g, 7, .inl (fun _ => 0))), (q_9, .inr (0, [.int 0, .ref (u_11 1), .ref (u_11 2), .ref (u_11 3), .ref (u_11 4), .ref (u_11 5), .ref (u_11 6), .ref (u_11 7), .int 0, .int 0, .int 0, .ref (u_11 8)])), (u_11 1, .inl (gI g, 10, .inl (fun _ => 0))), (u_11 2, .inl (gI g, 10, .inl (fun _ => 0))), (u_11 3, .inl (gI g, 10, .inl (fun _ => 0))), (u_11 4, .inl (gI g, 10, .inl (fun _ => 0))), (u_11 5, .inl (gI g, 10, .inl (fun _ => 0))), (u_11 6, .inl (gI g, 10, .inl (fun _ => 0))), (u_11 7, .inl (gI g, 10, .inl (fun _ => 0))), (u_11 8, .inl (gI g, 10, .inl (fun _ => 0))), (q_13, .inr (3, [.int 0, .ref (u_15 1), .ref (u_15 2), .ref (u_15 3)])), (u_15 1, .inl (gI g, 40, .inl (fun _ => 0))), (u_15 2, .inl (gI g, 40, .inl (fun _ => 0))), (u_15 3, .inl (gI g, 40, .inl (fun _ => 0))), (q_17, .inr (3, [.int 0, .ref (u_19 1), .ref (u_19 2), .ref (u_19 3)])), (u_19 1, .inl (gI g, 40, .inl (fun _ => 0))), (u_19 2, .inl (gI g, 40, .inl (fun _ => 0))), (u_19 3, .inl (gI g, 40, .inl (fun _ => 0))), (q_21, .inr (6, [.int 0, .int 0, .null]))] H := hP
  have hD : va_D A [(h, .inr (4, [.ref q_1, .ref q_5, .ref q_9, .ref q_13, .ref q_17, .null, .null, .int 0, .int 0, .int 0, .int 0])), (q_1, .inr (8, [.int 0, .ref (u_3 1), .ref (u_3 2), .ref (u_3 3)])), (u_3 1, .inl (gI g, 5, .inl (fun _ => 0))), (u_3 2, .inl (gI g, 5, .inl (fun _ => 0))), (u_3 3, .inl (gI g, 5, .inl (fun _ => 0))), (q_5, .inr (1, [.int 0, .ref (u_7 1), .ref (u_7 2), .int 0])), (u_7 1, .inl (gI g, 7, .inl (fun _ => 0))), (u_7 2, .inl (gI g, 7, .inl (fun _ => 0))), (q_9, .inr (0, [.int 0, .ref (u_11 1), .ref (u_11 2), .ref (u_11 3), .ref (u_11 4), .ref (u_11 5), .ref (u_11 6), .ref (u_11 7), .int 0, .int 0, .int 0, .ref (u_11 8)])), (u_11 1, .inl (gI g, 10, .inl (fun _ => 0))), (u_11 2, .inl (gI g, 10, .inl (fun _ => 0))), (u_11 3, .inl (gI g, 10, .inl (fun _ => 0))), (u_11 4, .inl (gI g, 10, .inl (fun _ => 0))), (u_11 5, .inl (gI g, 10, .inl (fun _ => 0))), (u_11 6, .inl (gI g, 10, .inl (fun _ => 0))), (u_11 7, .inl (gI g, 10, .inl (fun _ => 0))), (u_11 8, .inl (gI g, 10, .inl (fun _ => 0))), (q_13, .inr (3, [.int 0, .ref (u_15 1), .ref (u_15 2), .ref (u_15 3)])), (u_15 1, .inl (gI g, 40, .inl (fun _ => 0))), (u_15 2, .inl (gI g, 40, .inl (fun _ => 0))), (u_15 3, .inl (gI g, 40, .inl (fun _ => 0))), (q_17, .inr (3, [.int 0, .ref (u_19 1), .ref (u_19 2), .ref (u_19 3)])), (u_19 1, .inl (gI g, 40, .inl (fun _ => 0))), (u_19 2, .inl (gI g, 40, .inl (fun _ => 0))), (u_19 3, .inl (gI g, 40, .inl (fun _ => 0))), (q_21, .inr (6, [.int 0, .int 0, .null]))] := hD
  refine W.widen (k := 25) (n := 380) (Nat.le_of_ble_eq_true rfl) (Nat.le_of_ble_eq_true rfl) ?_
  refine lv_dup hx hb dX4_init_63 rfl ?_
  refine k_IN [25] [0, 1, 2, 3, 4, 5, 6, 7, 8, 9, 10, 11, 12, 13, 14, 15, 16, 17, 18, 19, 20, 21, 22, 23, 24] (wr := [(h, .inr (4, [.ref q_1, .ref q_5, .ref q_9, .ref q_13, .ref q_17, .null, .null, .int 0, .int 0, .int 0, .int 0])), (q_1, .inr (8, [.int 0, .ref (u_3 1), .ref (u_3 2), .ref (u_3 3)])), (u_3 1, .inl (gI g, 5, .inl (fun _ => 0))), (u_3 2, .inl (gI g, 5, .inl (fun _ => 0))), (u_3 3, .inl (gI g, 5, .inl (fun _ => 0))), (q_5, .inr (1, [.int 0, .ref (u_7 1), .ref (u_7 2), .int 0])), (u_7 1, .inl (gI g, 7, .inl (fun _ => 0))), (u_7 2, .inl (gI g, 7, .inl (fun _ => 0))), (q_9, .inr (0, [.int 0, .ref (u_11 1), .ref (u_11 2), .ref (u_11 3), .ref (u_11 4), .ref (u_11 5), .ref (u_11 6), .ref (u_11 7), .int 0, .int 0, .int 0, .ref (u_11 8)])), (u_11 1, .inl (gI g, 10, .inl (fun _ => 0))), (u_11 2, .inl (gI g, 10, .inl (fun _ => 0))), (u_11 3, .inl (gI g, 10, .inl (fun _ => 0))), (u_11 4, .inl (gI g, 10, .inl (fun _ => 0))), (u_11 5, .inl (gI g, 10, .inl (fun _ => 0))), (u_11 6, .inl (gI g, 10, .inl (fun _ => 0))), (u_11 7, .inl (gI g, 10, .inl (fun _ => 0))), (u_11 8, .inl (gI g, 10, .inl (fun _ => 0))), (q_13, .inr (3, [.int 0, .ref (u_15 1), .ref (u_15 2), .ref (u_15 3)])), (u_15 1, .inl (gI g, 40, .inl (fun _ => 0))), (u_15 2, .inl (gI g, 40, .inl (fun _ => 0))), (u_15 3, .inl (gI g, 40, .inl (fun _ => 0))), (q_17, .inr (3, [.int 0, .ref (u_19 1), .ref (u_19 2), .ref (u_19 3)])), (u_19 1, .inl (gI g, 40, .inl (fun _ => 0))), (u_19 2, .inl (gI g, 40, .inl (fun _ => 0))), (u_19 3, .inl (gI g, 40, .inl (fun _ => 0)))]) hx hb hml hown hts hKW hP hD hS hA hl.1 (c_X6_init l g _ q_21 ) rfl wd_4_21 wd_3_10 nw_5 wd_4_20 yd_X6_init ⟨Nat.le_of_ble_eq_true rfl, Nat.le_of_ble_eq_true rfl⟩ rfl rfl rfl rfl rfl (by decide) rfl (Nat.le_of_ble_eq_true rfl) dX4_init_64 ⟨Nat.le_of_ble_eq_true rfl, Nat.le_of_ble_eq_true rfl⟩ (fun u_23 H locs hw_24 hP hD hS => ?_)
  have hP : va_P g.1 vwCl [(h, .inr (4, [.ref q_1, .ref q_5, .ref q_9, .ref q_13, .ref q_17, .null, .null, .int 0, .int 0, .int 0, .int 0])), (q_1, .inr (8, [.int 0, .ref (u_3 1), .ref (u_3 2), .ref (u_3 3)])), (u_3 1, .inl (gI g, 5, .inl (fun _ => 0))), (u_3 2, .inl (gI g, 5, .inl (fun _ => 0))), (u_3 3, .inl (gI g, 5, .inl (fun _ => 0))), (q_5, .inr (1, [.int 0, .ref (u_7 1), .ref (u_7 2), .int 0])), (u_7 1, .inl (gI g, 7, .inl (fun _ => 0))), (u_7 2, .inl (gI g, 7, .inl (fun _ => 0))), (q_9, .inr (0, [.int 0, .ref (u_11 1), .ref (u_11 2), .ref (u_11 3), .ref (u_11 4), .ref (u_11 5), .ref (u_11 6), .ref (u_11 7), .int 0, .int 0, .int 0, .ref (u_11 8)])), (u_11 1, .inl (gI g, 10, .inl (fun _ => 0))), (u_11 2, .inl (gI g, 10, .inl (fun _ => 0))), (u_11 3, .inl (gI g, 10, .inl (fun _ => 0))), (u_11 4, .inl (gI g, 10, .inl (fun _ => 0))), (u_11 5, .inl (gI g, 10, .inl (fun _ => 0))), (u_11 6, .inl (gI g, 10, .inl (fun _ => 0))), (u_11 7, .inl (gI g, 10, .inl (fun _ => 0))), (u_11 8, .inl (gI g, 10, .inl (fun _ => 0))), (q_13, .inr (3, [.int 0, .ref (u_15 1), .ref (u_15 2), .ref (u_15 3)])), (u_15 1, .inl (gI g, 40, .inl (fun _ => 0))), (u_15 2, .inl (gI g, 40, .inl (fun _ => 0))), (u_15 3, .inl (gI g, 40, .inl (fun _ => 0))), (q_17, .inr (3, [.int 0, .ref (u_19 1), .ref (u_19 2), .ref (u_19 3)])), (u_19 1, .inl (gI g, 40, .inl (fun _ => 0))), (u_19 2, .inl (gI g, 40, .inl (fun _ => 0))), (u_19 3, .inl (gI g, 40, .inl (fun _ => 0))), (q_21, .inr (6, [.int 0, .int 0, .ref (u_23 1)])), (u_23 1, .inl (gI g, 14, .inl (fun _ => 0)))] H := hP
  have hD : va_D A [(h, .inr (4, [.ref q_1, .ref q_5, .ref q_9, .ref q_13, .ref q_17, .null, .null, .int 0, .int 0, .int 0, .int 0])), (q_1, .inr (8, [.int 0, .ref (u_3 1), .ref (u_3 2), .ref (u_3 3)])), (u_3 1, .inl (gI g, 5, .inl (fun _ => 0))), (u_3 2, .inl (gI g, 5, .inl (fun _ => 0))), (u_3 3, .inl (gI g, 5, .inl (fun _ => 0))), (q_5, .inr (1, [.int 0, .ref (u_7 1), .ref (u_7 2), .int 0])), (u_7 1, .inl (gI g, 7, .inl (fun _ => 0))), (u_7 2, .inl (gI g, 7, .inl (fun _ => 0))), (q_9, .inr (0, [.int 0, .ref (u_11 1), .ref (u_11 2), .ref (u_11 3), .ref (u_11 4), .ref (u_11 5), .ref (u_11 6), .ref (u_11 7), .int 0, .int 0, .int 0, .ref (u_11 8)])), (u_11 1, .inl (gI g, 10, .inl (fun _ => 0))), (u_11 2, .inl (gI g, 10, .inl (fun _ => 0))), (u_11 3, .inl (gI g, 10, .inl (fun _ => 0))), (u_11 4, .inl (gI g, 10, .inl (fun _ => 0))), (u_11 5, .inl (gI g, 10, .inl (fun _ => 0))), (u_11 6, .inl (gI g, 10, .inl (fun _ => 0))), (u_11 7, .inl (gI g, 10, .inl (fun _ => 0))), (u_11 8, .inl (gI g, 10, .inl (fun _ => 0))), (q_13, .inr (3, [.int 0, .ref (u_15 1), .ref (u_15 2), .ref (u_15 3)])), (u_15 1, .inl (gI g, 40, .inl (fun _ => 0))), (u_15 2, .inl (gI g, 40, .inl (fun _ => 0))), (u_15 3, .inl (gI g, 40, .inl (fun _ => 0))), (q_17, .inr (3, [.int 0, .ref (u_19 1), .ref (u_19 2), .ref (u_19 3)])), (u_19 1, .inl (gI g, 40, .inl (fun _ => 0))), (u_19 2, .inl (gI g, 40, .inl (fun _ => 0))), (u_19 3, .inl (gI g, 40, .inl (fun _ => 0))), (q_21, .inr (6, [.int 0, .int 0, .ref (u_23 1)])), (u_23 1, .inl (gI g, 14, .inl (fun _ => 0)))] := hD
  refine W.widen (k := 26) (n := 394) (Nat.le_of_ble_eq_true rfl) (Nat.le_of_ble_eq_true rfl) ?_
  refine va_putF (ci := 4) (v := .ref q_21) (C := RX4) (T := TX4) (N := 11) hx hb hts inlX4 tyX4 tyX4_ok nmX4 hown hKW.1 hP hD hS 0 rfl rfl 5 (by decide) (hts _ wd_3_11) (fun _ h => h) rfl hnm rfl (tyX4_ok 5 (by decide)) rfl rfl (Nat.le_of_ble_eq_true rfl) dX4_init_67 (fun H locs hP hD hS => ?_)
  have hP : va_P g.1 vwCl [(h, .inr (4, [.ref q_1, .ref q_5, .ref q_9, .ref q_13, .ref q_17, .ref q_21, .null, .int 0, .int 0, .int 0, .int 0])), (q_1, .inr (8, [.int 0, .ref (u_3 1), .ref (u_3 2), .ref (u_3 3)])), (u_3 1, .inl (gI g, 5, .inl (fun _ => 0))), (u_3 2, .inl (gI g, 5, .inl (fun _ => 0))), (u_3 3, .inl (gI g, 5, .inl (fun _ => 0))), (q_5, .inr (1, [.int 0, .ref (u_7 1), .ref (u_7 2), .int 0])), (u_7 1, .inl (gI g, 7, .inl (fun _ => 0))), (u_7 2, .inl (gI g, 7, .inl (fun _ => 0))), (q_9, .inr (0, [.int 0, .ref (u_11 1), .ref (u_11 2), .ref (u_11 3), .ref (u_11 4), .ref (u_11 5), .ref (u_11 6), .ref (u_11 7), .int 0, .int 0, .int 0, .ref (u_11 8)])), (u_11 1, .inl (gI g, 10, .inl (fun _ => 0))), (u_11 2, .inl (gI g, 10, .inl (fun _ => 0))), (u_11 3, .inl (gI g, 10, .inl (fun _ => 0))), (u_11 4, .inl (gI g, 10, .inl (fun _ => 0))), (u_11 5, .inl (gI g, 10, .inl (fun _ => 0))), (u_11 6, .inl (gI g, 10, .inl (fun _ => 0))), (u_11 7, .inl (gI g, 10, .inl (fun _ => 0))), (u_11 8, .inl (gI g, 10, .inl (fun _ => 0))), (q_13, .inr (3, [.int 0, .ref (u_15 1), .ref (u_15 2), .ref (u_15 3)])), (u_15 1, .inl (gI g, 40, .inl (fun _ => 0))), (u_15 2, .inl (gI g, 40, .inl (fun _ => 0))), (u_15 3, .inl (gI g, 40, .inl (fun _ => 0))), (q_17, .inr (3, [.int 0, .ref (u_19 1), .ref (u_19 2), .ref (u_19 3)])), (u_19 1, .inl (gI g, 40, .inl (fun _ => 0))), (u_19 2, .inl (gI g, 40, .inl (fun _ => 0))), (u_19 3, .inl (gI g, 40, .inl (fun _ => 0))), (q_21, .inr (6, [.int 0, .int 0, .ref (u_23 1)])), (u_23 1, .inl (gI g, 14, .inl (fun _ => 0)))] H := hP
  have hD : va_D A [(h, .inr (4, [.ref q_1, .ref q_5, .ref q_9, .ref q_13, .ref q_17, .ref q_21, .null, .int 0, .int 0, .int 0, .int 0])), (q_1, .inr (8, [.int 0, .ref (u_3 1), .ref (u_3 2), .ref (u_3 3)])), (u_3 1, .inl (gI g, 5, .inl (fun _ => 0))), (u_3 2, .inl (gI g, 5, .inl (fun _ => 0))), (u_3 3, .inl (gI g, 5, .inl (fun _ => 0))), (q_5, .inr (1, [.int 0, .ref (u_7 1), .ref (u_7 2), .int 0])), (u_7 1, .inl (gI g, 7, .inl (fun _ => 0))), (u_7 2, .inl (gI g, 7, .inl (fun _ => 0))), (q_9, .inr (0, [.int 0, .ref (u_11 1), .ref (u_11 2), .ref (u_11 3), .ref (u_11 4), .ref (u_11 5), .ref (u_11 6), .ref (u_11 7), .int 0, .int 0, .int 0, .ref (u_11 8)])), (u_11 1, .inl (gI g, 10, .inl (fun _ => 0))), (u_11 2, .inl (gI g, 10, .inl (fun _ => 0))), (u_11 3, .inl (gI g, 10, .inl (fun _ => 0))), (u_11 4, .inl (gI g, 10, .inl (fun _ => 0))), (u_11 5, .inl (gI g, 10, .inl (fun _ => 0))), (u_11 6, .inl (gI g, 10, .inl (fun _ => 0))), (u_11 7, .inl (gI g, 10, .inl (fun _ => 0))), (u_11 8, .inl (gI g, 10, .inl (fun _ => 0))), (q_13, .inr (3, [.int 0, .ref (u_15 1), .ref (u_15 2), .ref (u_15 3)])), (u_15 1, .inl (gI g, 40, .inl (fun _ => 0))), (u_15 2, .inl (gI g, 40, .inl (fun _ => 0))), (u_15 3, .inl (gI g, 40, .inl (fun _ => 0))), (q_17, .inr (3, [.int 0, .ref (u_19 1), .ref (u_19 2), .ref (u_19 3)])), (u_19 1, .inl (gI g, 40, .inl (fun _ => 0))), (u_19 2, .inl (gI g, 40, .inl (fun _ => 0))), (u_19 3, .inl (gI g, 40, .inl (fun _ => 0))), (q_21, .inr (6, [.int 0, .int 0, .ref (u_23 1)])), (u_23 1, .inl (gI g, 14, .inl (fun _ => 0)))] := hD
  refine lv_aload_n hx hb dX4_init_70 rfl (lv_at hl 0 rfl) ?_
  refine lv_bipush (v := 60) hx hb dX4_init_71 (by decide) ?_
  refine k_newi (N' := 60) hx hb (hts _ wd_3_12) hKW hP hD hS hA (by decide) (by decide) (by decide) (Nat.le_of_ble_eq_true rfl) (Nat.le_of_ble_eq_true rfl) dX4_init_73 (fun q_25 H hP hD hS => ?_)
  have hP : va_P g.1 vwCl [(h, .inr (4, [.ref q_1, .ref q_5, .ref q_9, .ref q_13, .ref q_17, .ref q_21, .null, .int 0, .int 0, .int 0, .int 0])), (q_1, .inr (8, [.int 0, .ref (u_3 1), .ref (u_3 2), .ref (u_3 3)])), (u_3 1, .inl (gI g, 5, .inl (fun _ => 0))), (u_3 2, .inl (gI g, 5, .inl (fun _ => 0))), (u_3 3, .inl (gI g, 5, .inl (fun _ => 0))), (q_5, .inr (1, [.int 0, .ref (u_7 1), .ref (u_7 2), .int 0])), (u_7 1, .inl (gI g, 7, .inl (fun _ => 0))), (u_7 2, .inl (gI g, 7, .inl (fun _ => 0))), (q_9, .inr (0, [.int 0, .ref (u_11 1), .ref (u_11 2), .ref (u_11 3), .ref (u_11 4), .ref (u_11 5), .ref (u_11 6), .ref (u_11 7), .int 0, .int 0, .int 0, .ref (u_11 8)])), (u_11 1, .inl (gI g, 10, .inl (fun _ => 0))), (u_11 2, .inl (gI g, 10, .inl (fun _ => 0))), (u_11 3, .inl (gI g, 10, .inl (fun _ => 0))), (u_11 4, .inl (gI g, 10, .inl (fun _ => 0))), (u_11 5, .inl (gI g, 10, .inl (fun _ => 0))), (u_11 6, .inl (gI g, 10, .inl (fun _ => 0))), (u_11 7, .inl (gI g, 10, .inl (fun _ => 0))), (u_11 8, .inl (gI g, 10, .inl (fun _ => 0))), (q_13, .inr (3, [.int 0, .ref (u_15 1), .ref (u_15 2), .ref (u_15 3)])), (u_15 1, .inl (gI g, 40, .inl (fun _ => 0))), (u_15 2, .inl (gI g, 40, .inl (fun _ => 0))), (u_15 3, .inl (gI g, 40, .inl (fun _ => 0))), (q_17, .inr (3, [.int 0, .ref (u_19 1), .ref (u_19 2), .ref (u_19 3)])), (u_19 1, .inl (gI g, 40, .inl (fun _ => 0))), (u_19 2, .inl (gI g, 40, .inl (fun _ => 0))), (u_19 3, .inl (gI g, 40, .inl (fun _ => 0))), (q_21, .inr (6, [.int 0, .int 0, .ref (u_23 1)])), (u_23 1, .inl (gI g, 14, .inl (fun _ => 0))), (q_25, .inl (gI g, 60, .inl (fun _ => 0)))] H := hP
  have hD : va_D A [(h, .inr (4, [.ref q_1, .ref q_5, .ref q_9, .ref q_13, .ref q_17, .ref q_21, .null, .int 0, .int 0, .int 0, .int 0])), (q_1, .inr (8, [.int 0, .ref (u_3 1), .ref (u_3 2), .ref (u_3 3)])), (u_3 1, .inl (gI g, 5, .inl (fun _ => 0))), (u_3 2, .inl (gI g, 5, .inl (fun _ => 0))), (u_3 3, .inl (gI g, 5, .inl (fun _ => 0))), (q_5, .inr (1, [.int 0, .ref (u_7 1), .ref (u_7 2), .int 0])), (u_7 1, .inl (gI g, 7, .inl (fun _ => 0))), (u_7 2, .inl (gI g, 7, .inl (fun _ => 0))), (q_9, .inr (0, [.int 0, .ref (u_11 1), .ref (u_11 2), .ref (u_11 3), .ref (u_11 4), .ref (u_11 5), .ref (u_11 6), .ref (u_11 7), .int 0, .int 0, .int 0, .ref (u_11 8)])), (u_11 1, .inl (gI g, 10, .inl (fun _ => 0))), (u_11 2, .inl (gI g, 10, .inl (fun _ => 0))), (u_11 3, .inl (gI g, 10, .inl (fun _ => 0))), (u_11 4, .inl (gI g, 10, .inl (fun _ => 0))), (u_11 5, .inl (gI g, 10, .inl (fun _ => 0))), (u_11 6, .inl (gI g, 10, .inl (fun _ => 0))), (u_11 7, .inl (gI g, 10, .inl (fun _ => 0))), (u_11 8, .inl (gI g, 10, .inl (fun _ => 0))), (q_13, .inr (3, [.int 0, .ref (u_15 1), .ref (u_15 2), .ref (u_15 3)])), (u_15 1, .inl (gI g, 40, .inl (fun _ => 0))), (u_15 2, .inl (gI g, 40, .inl (fun _ => 0))), (u_15 3, .inl (gI g, 40, .inl (fun _ => 0))), (q_17, .inr (3, [.int 0, .ref (u_19 1), .ref (u_19 2), .ref (u_19 3)])), (u_19 1, .inl (gI g, 40, .inl (fun _ => 0))), (u_19 2, .inl (gI g, 40, .inl (fun _ => 0))), (u_19 3, .inl (gI g, 40, .inl (fun _ => 0))), (q_21, .inr (6, [.int 0, .int 0, .ref (u_23 1)])), (u_23 1, .inl (gI g, 14, .inl (fun _ => 0))), (q_25, .inl (gI g, 60, .inl (fun _ => 0)))] := hD
  refine W.widen (k := 27) (n := 454) (Nat.le_of_ble_eq_true rfl) (Nat.le_of_ble_eq_true rfl) ?_
  refine va_putF (ci := 4) (v := .ref q_25) (C := RX4) (T := TX4) (N := 11) hx hb hts inlX4 tyX4 tyX4_ok nmX4 hown hKW.1 hP hD hS 0 rfl rfl 6 (by decide) (hts _ wd_3_13) (fun _ h => h) rfl hnm rfl (tyX4_ok 6 (by decide)) rfl rfl (Nat.le_of_ble_eq_true rfl) dX4_init_75 (fun H locs hP hD hS => ?_)
  have hP : va_P g.1 vwCl [(h, .inr (4, [.ref q_1, .ref q_5, .ref q_9, .ref q_13, .ref q_17, .ref q_21, .ref q_25, .int 0, .int 0, .int 0, .int 0])), (q_1, .inr (8, [.int 0, .ref (u_3 1), .ref (u_3 2), .ref (u_3 3)])), (u_3 1, .inl (gI g, 5, .inl (fun _ => 0))), (u_3 2, .inl (gI g, 5, .inl (fun _ => 0))), (u_3 3, .inl (gI g, 5, .inl (fun _ => 0))), (q_5, .inr (1, [.int 0, .ref (u_7 1), .ref (u_7 2), .int 0])), (u_7 1, .inl (gI g, 7, .inl (fun _ => 0))), (u_7 2, .inl (gI g, 7, .inl (fun _ => 0))), (q_9, .inr (0, [.int 0, .ref (u_11 1), .ref (u_11 2), .ref (u_11 3), .ref (u_11 4), .ref (u_11 5), .ref (u_11 6), .ref (u_11 7), .int 0, .int 0, .int 0, .ref (u_11 8)])), (u_11 1, .inl (gI g, 10, .inl (fun _ => 0))), (u_11 2, .inl (gI g, 10, .inl (fun _ => 0))), (u_11 3, .inl (gI g, 10, .inl (fun _ => 0))), (u_11 4, .inl (gI g, 10, .inl (fun _ => 0))), (u_11 5, .inl (gI g, 10, .inl (fun _ => 0))), (u_11 6, .inl (gI g, 10, .inl (fun _ => 0))), (u_11 7, .inl (gI g, 10, .inl (fun _ => 0))), (u_11 8, .inl (gI g, 10, .inl (fun _ => 0))), (q_13, .inr (3, [.int 0, .ref (u_15 1), .ref (u_15 2), .ref (u_15 3)])), (u_15 1, .inl (gI g, 40, .inl (fun _ => 0))), (u_15 2, .inl (gI g, 40, .inl (fun _ => 0))), (u_15 3, .inl (gI g, 40, .inl (fun _ => 0))), (q_17, .inr (3, [.int 0, .ref (u_19 1), .ref (u_19 2), .ref (u_19 3)])), (u_19 1, .inl (gI g, 40, .inl (fun _ => 0))), (u_19 2, .inl (gI g, 40, .inl (fun _ => 0))), (u_19 3, .inl (gI g, 40, .inl (fun _ => 0))), (q_21, .inr (6, [.int 0, .int 0, .ref (u_23 1)])), (u_23 1, .inl (gI g, 14, .inl (fun _ => 0))), (q_25, .inl (gI g, 60, .inl (fun _ => 0)))] H := hP
  have hD : va_D A [(h, .inr (4, [.ref q_1, .ref q_5, .ref q_9, .ref q_13, .ref q_17, .ref q_21, .ref q_25, .int 0, .int 0, .int 0, .int 0])), (q_1, .inr (8, [.int 0, .ref (u_3 1), .ref (u_3 2), .ref (u_3 3)])), (u_3 1, .inl (gI g, 5, .inl (fun _ => 0))), (u_3 2, .inl (gI g, 5, .inl (fun _ => 0))), (u_3 3, .inl (gI g, 5, .inl (fun _ => 0))), (q_5, .inr (1, [.int 0, .ref (u_7 1), .ref (u_7 2), .int 0])), (u_7 1, .inl (gI g, 7, .inl (fun _ => 0))), (u_7 2, .inl (gI g, 7, .inl (fun _ => 0))), (q_9, .inr (0, [.int 0, .ref (u_11 1), .ref (u_11 2), .ref (u_11 3), .ref (u_11 4), .ref (u_11 5), .ref (u_11 6), .ref (u_11 7), .int 0, .int 0, .int 0, .ref (u_11 8)])), (u_11 1, .inl (gI g, 10, .inl (fun _ => 0))), (u_11 2, .inl (gI g, 10, .inl (fun _ => 0))), (u_11 3, .inl (gI g, 10, .inl (fun _ => 0))), (u_11 4, .inl (gI g, 10, .inl (fun _ => 0))), (u_11 5, .inl (gI g, 10, .inl (fun _ => 0))), (u_11 6, .inl (gI g, 10, .inl (fun _ => 0))), (u_11 7, .inl (gI g, 10, .inl (fun _ => 0))), (u_11 8, .inl (gI g, 10, .inl (fun _ => 0))), (q_13, .inr (3, [.int 0, .ref (u_15 1), .ref (u_15 2), .ref (u_15 3)])), (u_15 1, .inl (gI g, 40, .inl (fun _ => 0))), (u_15 2, .inl (gI g, 40, .inl (fun _ => 0))), (u_15 3, .inl (gI g, 40, .inl (fun _ => 0))), (q_17, .inr (3, [.int 0, .ref (u_19 1), .ref (u_19 2), .ref (u_19 3)])), (u_19 1, .inl (gI g, 40, .inl (fun _ => 0))), (u_19 2, .inl (gI g, 40, .inl (fun _ => 0))), (u_19 3, .inl (gI g, 40, .inl (fun _ => 0))), (q_21, .inr (6, [.int 0, .int 0, .ref (u_23 1)])), (u_23 1, .inl (gI g, 14, .inl (fun _ => 0))), (q_25, .inl (gI g, 60, .inl (fun _ => 0)))] := hD
  refine lv_aload_n hx hb dX4_init_78 rfl (lv_at hl 0 rfl) ?_
  refine lv_bipush (v := 36) hx hb dX4_init_79 (by decide) ?_
  refine va_put (ci := 4) (v := .int 36) (C := RX4) (T := TX4) (N := 11) hx hb hts inlX4 tyX4 tyX4_ok nmX4 hown hKW.1 hP hD hS 0 rfl rfl 9 (by decide) (hts _ wd_3_14) (fun _ h => h) rfl (tyX4_ok 9 (by decide)) rfl rfl (Nat.le_of_ble_eq_true rfl) dX4_init_81 (fun H locs hP hD hS => ?_)
  have hP : va_P g.1 vwCl [(h, .inr (4, [.ref q_1, .ref q_5, .ref q_9, .ref q_13, .ref q_17, .ref q_21, .ref q_25, .int 0, .int 0, .int 36, .int 0])), (q_1, .inr (8, [.int 0, .ref (u_3 1), .ref (u_3 2), .ref (u_3 3)])), (u_3 1, .inl (gI g, 5, .inl (fun _ => 0))), (u_3 2, .inl (gI g, 5, .inl (fun _ => 0))), (u_3 3, .inl (gI g, 5, .inl (fun _ => 0))), (q_5, .inr (1, [.int 0, .ref (u_7 1), .ref (u_7 2), .int 0])), (u_7 1, .inl (gI g, 7, .inl (fun _ => 0))), (u_7 2, .inl (gI g, 7, .inl (fun _ => 0))), (q_9, .inr (0, [.int 0, .ref (u_11 1), .ref (u_11 2), .ref (u_11 3), .ref (u_11 4), .ref (u_11 5), .ref (u_11 6), .ref (u_11 7), .int 0, .int 0, .int 0, .ref (u_11 8)])), (u_11 1, .inl (gI g, 10, .inl (fun _ => 0))), (u_11 2, .inl (gI g, 10, .inl (fun _ => 0))), (u_11 3, .inl (gI g, 10, .inl (fun _ => 0))), (u_11 4, .inl (gI g, 10, .inl (fun _ => 0))), (u_11 5, .inl (gI g, 10, .inl (fun _ => 0))), (u_11 6, .inl (gI g, 10, .inl (fun _ => 0))), (u_11 7, .inl (gI g, 10, .inl (fun _ => 0))), (u_11 8, .inl (gI g, 10, .inl (fun _ => 0))), (q_13, .inr (3, [.int 0, .ref (u_15 1), .ref (u_15 2), .ref (u_15 3)])), (u_15 1, .inl (gI g, 40, .inl (fun _ => 0))), (u_15 2, .inl (gI g, 40, .inl (fun _ => 0))), (u_15 3, .inl (gI g, 40, .inl (fun _ => 0))), (q_17, .inr (3, [.int 0, .ref (u_19 1), .ref (u_19 2), .ref (u_19 3)])), (u_19 1, .inl (gI g, 40, .inl (fun _ => 0))), (u_19 2, .inl (gI g, 40, .inl (fun _ => 0))), (u_19 3, .inl (gI g, 40, .inl (fun _ => 0))), (q_21, .inr (6, [.int 0, .int 0, .ref (u_23 1)])), (u_23 1, .inl (gI g, 14, .inl (fun _ => 0))), (q_25, .inl (gI g, 60, .inl (fun _ => 0)))] H := hP
  have hD : va_D A [(h, .inr (4, [.ref q_1, .ref q_5, .ref q_9, .ref q_13, .ref q_17, .ref q_21, .ref q_25, .int 0, .int 0, .int 36, .int 0])), (q_1, .inr (8, [.int 0, .ref (u_3 1), .ref (u_3 2), .ref (u_3 3)])), (u_3 1, .inl (gI g, 5, .inl (fun _ => 0))), (u_3 2, .inl (gI g, 5, .inl (fun _ => 0))), (u_3 3, .inl (gI g, 5, .inl (fun _ => 0))), (q_5, .inr (1, [.int 0, .ref (u_7 1), .ref (u_7 2), .int 0])), (u_7 1, .inl (gI g, 7, .inl (fun _ => 0))), (u_7 2, .inl (gI g, 7, .inl (fun _ => 0))), (q_9, .inr (0, [.int 0, .ref (u_11 1), .ref (u_11 2), .ref (u_11 3), .ref (u_11 4), .ref (u_11 5), .ref (u_11 6), .ref (u_11 7), .int 0, .int 0, .int 0, .ref (u_11 8)])), (u_11 1, .inl (gI g, 10, .inl (fun _ => 0))), (u_11 2, .inl (gI g, 10, .inl (fun _ => 0))), (u_11 3, .inl (gI g, 10, .inl (fun _ => 0))), (u_11 4, .inl (gI g, 10, .inl (fun _ => 0))), (u_11 5, .inl (gI g, 10, .inl (fun _ => 0))), (u_11 6, .inl (gI g, 10, .inl (fun _ => 0))), (u_11 7, .inl (gI g, 10, .inl (fun _ => 0))), (u_11 8, .inl (gI g, 10, .inl (fun _ => 0))), (q_13, .inr (3, [.int 0, .ref (u_15 1), .ref (u_15 2), .ref (u_15 3)])), (u_15 1, .inl (gI g, 40, .inl (fun _ => 0))), (u_15 2, .inl (gI g, 40, .inl (fun _ => 0))), (u_15 3, .inl (gI g, 40, .inl (fun _ => 0))), (q_17, .inr (3, [.int 0, .ref (u_19 1), .ref (u_19 2), .ref (u_19 3)])), (u_19 1, .inl (gI g, 40, .inl (fun _ => 0))), (u_19 2, .inl (gI g, 40, .inl (fun _ => 0))), (u_19 3, .inl (gI g, 40, .inl (fun _ => 0))), (q_21, .inr (6, [.int 0, .int 0, .ref (u_23 1)])), (u_23 1, .inl (gI g, 14, .inl (fun _ => 0))), (q_25, .inl (gI g, 60, .inl (fun _ => 0)))] := hD
  refine lv_aload_n hx hb dX4_init_84 rfl (lv_at hl 0 rfl) ?_
  refine lv_bipush (v := 10) hx hb dX4_init_85 (by decide) ?_
  refine va_put (ci := 4) (v := .int 10) (C := RX4) (T := TX4) (N := 11) hx hb hts inlX4 tyX4 tyX4_ok nmX4 hown hKW.1 hP hD hS 0 rfl rfl 10 (by decide) (hts _ wd_3_15) (fun _ h => h) rfl (tyX4_ok 10 (by decide)) rfl rfl (Nat.le_of_ble_eq_true rfl) dX4_init_87 (fun H locs hP hD hS => ?_)
  have hP : va_P g.1 vwCl [(h, .inr (4, [.ref q_1, .ref q_5, .ref q_9, .ref q_13, .ref q_17, .ref q_21, .ref q_25, .int 0, .int 0, .int 36, .int 10])), (q_1, .inr (8, [.int 0, .ref (u_3 1), .ref (u_3 2), .ref (u_3 3)])), (u_3 1, .inl (gI g, 5, .inl (fun _ => 0))), (u_3 2, .inl (gI g, 5, .inl (fun _ => 0))), (u_3 3, .inl (gI g, 5, .inl (fun _ => 0))), (q_5, .inr (1, [.int 0, .ref (u_7 1), .ref (u_7 2), .int 0])), (u_7 1, .inl (gI g, 7, .inl (fun _ => 0))), (u_7 2, .inl (gI g, 7, .inl (fun _ => 0))), (q_9, .inr (0, [.int 0, .ref (u_11 1), .ref (u_11 2), .ref (u_11 3), .ref (u_11 4), .ref (u_11 5), .ref (u_11 6), .ref (u_11 7), .int 0, .int 0, .int 0, .ref (u_11 8)])), (u_11 1, .inl (gI g, 10, .inl (fun _ => 0))), (u_11 2, .inl (gI g, 10, .inl (fun _ => 0))), (u_11 3, .inl (gI g, 10, .inl (fun _ => 0))), (u_11 4, .inl (gI g, 10, .inl (fun _ => 0))), (u_11 5, .inl (gI g, 10, .inl (fun _ => 0))), (u_11 6, .inl (gI g, 10, .inl (fun _ => 0))), (u_11 7, .inl (gI g, 10, .inl (fun _ => 0))), (u_11 8, .inl (gI g, 10, .inl (fun _ => 0))), (q_13, .inr (3, [.int 0, .ref (u_15 1), .ref (u_15 2), .ref (u_15 3)])), (u_15 1, .inl (gI g, 40, .inl (fun _ => 0))), (u_15 2, .inl (gI g, 40, .inl (fun _ => 0))), (u_15 3, .inl (gI g, 40, .inl (fun _ => 0))), (q_17, .inr (3, [.int 0, .ref (u_19 1), .ref (u_19 2), .ref (u_19 3)])), (u_19 1, .inl (gI g, 40, .inl (fun _ => 0))), (u_19 2, .inl (gI g, 40, .inl (fun _ => 0))), (u_19 3, .inl (gI g, 40, .inl (fun _ => 0))), (q_21, .inr (6, [.int 0, .int 0, .ref (u_23 1)])), (u_23 1, .inl (gI g, 14, .inl (fun _ => 0))), (q_25, .inl (gI g, 60, .inl (fun _ => 0)))] H := hP
  have hD : va_D A [(h, .inr (4, [.ref q_1, .ref q_5, .ref q_9, .ref q_13, .ref q_17, .ref q_21, .ref q_25, .int 0, .int 0, .int 36, .int 10])), (q_1, .inr (8, [.int 0, .ref (u_3 1), .ref (u_3 2), .ref (u_3 3)])), (u_3 1, .inl (gI g, 5, .inl (fun _ => 0))), (u_3 2, .inl (gI g, 5, .inl (fun _ => 0))), (u_3 3, .inl (gI g, 5, .inl (fun _ => 0))), (q_5, .inr (1, [.int 0, .ref (u_7 1), .ref (u_7 2), .int 0])), (u_7 1, .inl (gI g, 7, .inl (fun _ => 0))), (u_7 2, .inl (gI g, 7, .inl (fun _ => 0))), (q_9, .inr (0, [.int 0, .ref (u_11 1), .ref (u_11 2), .ref (u_11 3), .ref (u_11 4), .ref (u_11 5), .ref (u_11 6), .ref (u_11 7), .int 0, .int 0, .int 0, .ref (u_11 8)])), (u_11 1, .inl (gI g, 10, .inl (fun _ => 0))), (u_11 2, .inl (gI g, 10, .inl (fun _ => 0))), (u_11 3, .inl (gI g, 10, .inl (fun _ => 0))), (u_11 4, .inl (gI g, 10, .inl (fun _ => 0))), (u_11 5, .inl (gI g, 10, .inl (fun _ => 0))), (u_11 6, .inl (gI g, 10, .inl (fun _ => 0))), (u_11 7, .inl (gI g, 10, .inl (fun _ => 0))), (u_11 8, .inl (gI g, 10, .inl (fun _ => 0))), (q_13, .inr (3, [.int 0, .ref (u_15 1), .ref (u_15 2), .ref (u_15 3)])), (u_15 1, .inl (gI g, 40, .inl (fun _ => 0))), (u_15 2, .inl (gI g, 40, .inl (fun _ => 0))), (u_15 3, .inl (gI g, 40, .inl (fun _ => 0))), (q_17, .inr (3, [.int 0, .ref (u_19 1), .ref (u_19 2), .ref (u_19 3)])), (u_19 1, .inl (gI g, 40, .inl (fun _ => 0))), (u_19 2, .inl (gI g, 40, .inl (fun _ => 0))), (u_19 3, .inl (gI g, 40, .inl (fun _ => 0))), (q_21, .inr (6, [.int 0, .int 0, .ref (u_23 1)])), (u_23 1, .inl (gI g, 14, .inl (fun _ => 0))), (q_25, .inl (gI g, 60, .inl (fun _ => 0)))] := hD
  exact k_vret (fun k => ([0, q_1, u_3 1, u_3 2, u_3 3, q_5, u_7 1, u_7 2, q_9, u_11 1, u_11 2, u_11 3, u_11 4, u_11 5, u_11 6, u_11 7, u_11 8, q_13, u_15 1, u_15 2, u_15 3, q_17, u_19 1, u_19 2, u_19 3, q_21, u_23 1, q_25] : List Nat).getD k 0) [0, 1, 2, 3, 4, 5, 6, 7, 8, 9, 10, 11, 12, 13, 14, 15, 16, 17, 18, 19, 20, 21, 22, 23, 24, 25, 26, 27] hx hb hr hlk hP hD hS trivial rfl rfl rfl (Nat.le_of_ble_eq_true rfl) (Nat.le_of_ble_eq_true rfl) dX4_init_90
theorem dX2_init_0 : decode cX2_init 0 = .ok (.aload_n 0, 1) := by decide +kernel
theorem dX2_init_1 : decode cX2_init 1 = .ok (.invokespecial 3, 3) := by decide +kernel
theorem dX2_init_4 : decode cX2_init 4 = .ok (.aload_n 0, 1) := by decide +kernel
theorem dX2_init_5 : decode cX2_init 5 = .ok (.bipush 16, 2) := by decide +kernel
theorem dX2_init_7 : decode cX2_init 7 = .ok (.anewarray 9, 3) := by decide +kernel
theorem dX2_init_10 : decode cX2_init 10 = .ok (.putfield 11, 3) := by decide +kernel
theorem dX2_init_13 : decode cX2_init 13 = .ok (.return_, 1) := by decide +kernel
set_option maxHeartbeats 4000000 in
set_option maxRecDepth 100000 in
theorem c_X2_init (l : Launch) (g : kG) (sz : Nat) (h : Nat) : kMv l g yX2_init cX2_init 1 none 1 1 16 [.ref h] sz [(h, .inr (2, [.int 0, .int 0, .null]))] (fun (u : (Nat → Nat)) => True) (fun (u : (Nat → Nat)) => ([(h, .inr (2, [.int 0, .int 0, .ref (u 1)])), (u 1, .inl (gN g, 16, .inr (.inr (.inr (.inr (fun _ => none))))))] : va_W)) := by
  refine kMv.of (by decide) (Nat.le_of_ble_eq_true rfl) (fun p e s m below meth c A hx hb hr hml hown hts hlk hnm hKW hP hD hS hA ls hl => ?_)
  have hown : s.vm.findClass RX2 = some m.cls := hown
  have hl : lv_has ls 1 [(0, .ref h)] := hl
  refine lv_aload_n hx hb dX2_init_0 rfl (lv_at hl 0 rfl) ?_
  refine W.objInit hx hb hown (hts _ wd_5_2) (hts _ wd_1_10) (hts _ wd_1_11) rfl (by rw [hml]; exact hl.1) rfl dX2_init_1 (Nat.le_of_ble_eq_true rfl) (Nat.le_of_ble_eq_true rfl) ?_
  refine W.eq (g2 := F0 m 4 ls []) rfl ?_
  refine lv_aload_n hx hb dX2_init_4 rfl (lv_at hl 0 rfl) ?_
  refine lv_bipush (v := 16) hx hb dX2_init_5 (by decide) ?_
  refine k_newN (N' := 16) hx hb hown (hts _ wd_5_3) hKW hP hD hS hA (by decide) (by decide) (by decide) (Nat.le_of_ble_eq_true rfl) (Nat.le_of_ble_eq_true rfl) dX2_init_7 (fun q_1 H hP hD hS => ?_)
  have hP : va_P g.1 vwCl [(h, .inr (2, [.int 0, .int 0, .null])), (q_1, .inl (gN g, 16, .inr (.inr (.inr (.inr (fun _ => none))))))] H := hP
  have hD : va_D A [(h, .inr (2, [.int 0, .int 0, .null])), (q_1, .inl (gN g, 16, .inr (.inr (.inr (.inr (fun _ => none))))))] := hD
  refine W.widen (k := 1) (n := 16) (Nat.le_of_ble_eq_true rfl) (Nat.le_of_ble_eq_true rfl) ?_
  refine va_putF (ci := 2) (v := .ref q_1) (C := RX2) (T := TX2) (N := 3) hx hb hts inlX2 tyX2 tyX2_ok nmX2 hown hKW.1 hP hD hS 0 rfl rfl 2 (by decide) (hts _ wd_5_4) (fun _ h => h) rfl hnm rfl (tyX2_ok 2 (by decide)) rfl rfl (Nat.le_of_ble_eq_true rfl) dX2_init_10 (fun H locs hP hD hS => ?_)
  have hP : va_P g.1 vwCl [(h, .inr (2, [.int 0, .int 0, .ref q_1])), (q_1, .inl (gN g, 16, .inr (.inr (.inr (.inr (fun _ => none))))))] H := hP
  have hD : va_D A [(h, .inr (2, [.int 0, .int 0, .ref q_1])), (q_1, .inl (gN g, 16, .inr (.inr (.inr (.inr (fun _ => none))))))] := hD
  exact k_vret (fun k => ([0, q_1] : List Nat).getD k 0) [0, 1] hx hb hr hlk hP hD hS trivial rfl rfl rfl (Nat.le_of_ble_eq_true rfl) (Nat.le_of_ble_eq_true rfl) dX2_init_13
theorem dX7_init_0 : decode cX7_init 0 = .ok (.aload_n 0, 1) := by decide +kernel
theorem dX7_init_1 : decode cX7_init 1 = .ok (.invokespecial 3, 3) := by decide +kernel
theorem dX7_init_4 : decode cX7_init 4 = .ok (.aload_n 0, 1) := by decide +kernel
theorem dX7_init_5 : decode cX7_init 5 = .ok (.bipush 7, 2) := by decide +kernel
theorem dX7_init_7 : decode cX7_init 7 = .ok (.newarray .int, 2) := by decide +kernel
theorem dX7_init_9 : decode cX7_init 9 = .ok (.putfield 9, 3) := by decide +kernel
theorem dX7_init_12 : decode cX7_init 12 = .ok (.aload_n 0, 1) := by decide +kernel
theorem dX7_init_13 : decode cX7_init 13 = .ok (.iconst 5, 1) := by decide +kernel
theorem dX7_init_14 : decode cX7_init 14 = .ok (.newarray .long, 2) := by decide +kernel
theorem dX7_init_16 : decode cX7_init 16 = .ok (.putfield 15, 3) := by decide +kernel
theorem dX7_init_19 : decode cX7_init 19 = .ok (.return_, 1) := by decide +kernel
set_option maxHeartbeats 4000000 in
set_option maxRecDepth 100000 in
theorem c_X7_init (l : Launch) (g : kG) (sz : Nat) (h : Nat) : kMv l g yX7_init cX7_init 1 none 1 2 12 [.ref h] sz [(h, .inr (7, [.null, .null]))] (fun (u : (Nat → Nat)) => True) (fun (u : (Nat → Nat)) => ([(h, .inr (7, [.ref (u 1), .ref (u 2)])), (u 1, .inl (gI g, 7, .inl (fun _ => 0))), (u 2, .inl (gJ g, 5, .inr (.inl (fun _ => 0))))] : va_W)) := by
  refine kMv.of (by decide) (Nat.le_of_ble_eq_true rfl) (fun p e s m below meth c A hx hb hr hml hown hts hlk hnm hKW hP hD hS hA ls hl => ?_)
  have hown : s.vm.findClass RX7 = some m.cls := hown
  have hl : lv_has ls 1 [(0, .ref h)] := hl
  refine lv_aload_n hx hb dX7_init_0 rfl (lv_at hl 0 rfl) ?_
  refine W.objInit hx hb hown (hts _ wd_5_7) (hts _ wd_1_10) (hts _ wd_1_11) rfl (by rw [hml]; exact hl.1) rfl dX7_init_1 (Nat.le_of_ble_eq_true rfl) (Nat.le_of_ble_eq_true rfl) ?_
  refine W.eq (g2 := F0 m 4 ls []) rfl ?_
  refine lv_aload_n hx hb dX7_init_4 rfl (lv_at hl 0 rfl) ?_
  refine lv_bipush (v := 7) hx hb dX7_init_5 (by decide) ?_
  refine k_newi (N' := 7) hx hb (hts _ wd_3_12) hKW hP hD hS hA (by decide) (by decide) (by decide) (Nat.le_of_ble_eq_true rfl) (Nat.le_of_ble_eq_true rfl) dX7_init_7 (fun q_1 H hP hD hS => ?_)
  have hP : va_P g.1 vwCl [(h, .inr (7, [.null, .null])), (q_1, .inl (gI g, 7, .inl (fun _ => 0)))] H := hP
  have hD : va_D A [(h, .inr (7, [.null, .null])), (q_1, .inl (gI g, 7, .inl (fun _ => 0)))] := hD
  refine W.widen (k := 1) (n := 7) (Nat.le_of_ble_eq_true rfl) (Nat.le_of_ble_eq_true rfl) ?_
  refine va_putF (ci := 7) (v := .ref q_1) (C := RX7) (T := TX7) (N := 2) hx hb hts inlX7 tyX7 tyX7_ok nmX7 hown hKW.1 hP hD hS 0 rfl rfl 0 (by decide) (hts _ wd_5_8) (fun _ h => h) rfl hnm rfl (tyX7_ok 0 (by decide)) rfl rfl (Nat.le_of_ble_eq_true rfl) dX7_init_9 (fun H locs hP hD hS => ?_)
  have hP : va_P g.1 vwCl [(h, .inr (7, [.ref q_1, .null])), (q_1, .inl (gI g, 7, .inl (fun _ => 0)))] H := hP
  have hD : va_D A [(h, .inr (7, [.ref q_1, .null])), (q_1, .inl (gI g, 7, .inl (fun _ => 0)))] := hD
  refine lv_aload_n hx hb dX7_init_12 rfl (lv_at hl 0 rfl) ?_
  refine lv_iconst (v := 5) hx hb dX7_init_13 (by decide) ?_
  refine k_newl (N' := 5) hx hb (hts _ wd_5_9) hKW hP hD hS hA (by decide) (by decide) (by decide) (Nat.le_of_ble_eq_true rfl) (Nat.le_of_ble_eq_true rfl) dX7_init_14 (fun q_2 H hP hD hS => ?_)
  have hP : va_P g.1 vwCl [(h, .inr (7, [.ref q_1, .null])), (q_1, .inl (gI g, 7, .inl (fun _ => 0))), (q_2, .inl (gJ g, 5, .inr (.inl (fun _ => 0))))] H := hP
  have hD : va_D A [(h, .inr (7, [.ref q_1, .null])), (q_1, .inl (gI g, 7, .inl (fun _ => 0))), (q_2, .inl (gJ g, 5, .inr (.inl (fun _ => 0))))] := hD
  refine W.widen (k := 2) (n := 12) (Nat.le_of_ble_eq_true rfl) (Nat.le_of_ble_eq_true rfl) ?_
  refine va_putF (ci := 7) (v := .ref q_2) (C := RX7) (T := TX7) (N := 2) hx hb hts inlX7 tyX7 tyX7_ok nmX7 hown hKW.1 hP hD hS 0 rfl rfl 1 (by decide) (hts _ wd_5_10) (fun _ h => h) rfl hnm rfl (tyX7_ok 1 (by decide)) rfl rfl (Nat.le_of_ble_eq_true rfl) dX7_init_16 (fun H locs hP hD hS => ?_)
  have hP : va_P g.1 vwCl [(h, .inr (7, [.ref q_1, .ref q_2])), (q_1, .inl (gI g, 7, .inl (fun _ => 0))), (q_2, .inl (gJ g, 5, .inr (.inl (fun _ => 0))))] H := hP
  have hD : va_D A [(h, .inr (7, [.ref q_1, .ref q_2])), (q_1, .inl (gI g, 7, .inl (fun _ => 0))), (q_2, .inl (gJ g, 5, .inr (.inl (fun _ => 0))))] := hD
  exact k_vret (fun k => ([0, q_1, q_2] : List Nat).getD k 0) [0, 1, 2] hx hb hr hlk hP hD hS trivial rfl rfl rfl (Nat.le_of_ble_eq_true rfl) (Nat.le_of_ble_eq_true rfl) dX7_init_19
theorem dX5_init_0 : decode cX5_init 0 = .ok (.aload_n 0, 1) := by decide +kernel
theorem dX5_init_1 : decode cX5_init 1 = .ok (.invokespecial 3, 3) := by decide +kernel
theorem dX5_init_4 : decode cX5_init 4 = .ok (.aload_n 0, 1) := by decide +kernel
theorem dX5_init_5 : decode cX5_init 5 = .ok (.sipush 128, 3) := by decide +kernel
theorem dX5_init_8 : decode cX5_init 8 = .ok (.newarray .int, 2) := by decide +kernel
theorem dX5_init_10 : decode cX5_init 10 = .ok (.putfield 11, 3) := by decide +kernel
theorem dX5_init_13 : decode cX5_init 13 = .ok (.aload_n 0, 1) := by decide +kernel
theorem dX5_init_14 : decode cX5_init 14 = .ok (.sipush 128, 3) := by decide +kernel
theorem dX5_init_17 : decode cX5_init 17 = .ok (.newarray .int, 2) := by decide +kernel
theorem dX5_init_19 : decode cX5_init 19 = .ok (.putfield 15, 3) := by decide +kernel
theorem dX5_init_22 : decode cX5_init 22 = .ok (.aload_n 0, 1) := by decide +kernel
theorem dX5_init_23 : decode cX5_init 23 = .ok (.sipush 128, 3) := by decide +kernel
theorem dX5_init_26 : decode cX5_init 26 = .ok (.newarray .int, 2) := by decide +kernel
theorem dX5_init_28 : decode cX5_init 28 = .ok (.putfield 18, 3) := by decide +kernel
theorem dX5_init_31 : decode cX5_init 31 = .ok (.return_, 1) := by decide +kernel
set_option maxHeartbeats 4000000 in
set_option maxRecDepth 100000 in
theorem c_X5_init (l : Launch) (g : kG) (sz : Nat) (h : Nat) : kMv l g yX5_init cX5_init 1 none 1 3 384 [.ref h] sz [(h, .inr (5, [.null, .null, .null, .int 0, .int 0]))] (fun (u : (Nat → Nat)) => True) (fun (u : (Nat → Nat)) => ([(h, .inr (5, [.ref (u 1), .ref (u 2), .ref (u 3), .int 0, .int 0])), (u 1, .inl (gI g, 128, .inl (fun _ => 0))), (u 2, .inl (gI g, 128, .inl (fun _ => 0))), (u 3, .inl (gI g, 128, .inl (fun _ => 0)))] : va_W)) := by
  refine kMv.of (by decide) (Nat.le_of_ble_eq_true rfl) (fun p e s m below meth c A hx hb hr hml hown hts hlk hnm hKW hP hD hS hA ls hl => ?_)
  have hown : s.vm.findClass RX5 = some m.cls := hown
  have hl : lv_has ls 1 [(0, .ref h)] := hl
  refine lv_aload_n hx hb dX5_init_0 rfl (lv_at hl 0 rfl) ?_
  refine W.objInit hx hb hown (hts _ wd_5_13) (hts _ wd_1_10) (hts _ wd_1_11) rfl (by rw [hml]; exact hl.1) rfl dX5_init_1 (Nat.le_of_ble_eq_true rfl) (Nat.le_of_ble_eq_true rfl) ?_
  refine W.eq (g2 := F0 m 4 ls []) rfl ?_
  refine lv_aload_n hx hb dX5_init_4 rfl (lv_at hl 0 rfl) ?_
  refine lv_sipush (v := 128) hx hb dX5_init_5 (by decide) ?_
  refine k_newi (N' := 128) hx hb (hts _ wd_3_12) hKW hP hD hS hA (by decide) (by decide) (by decide) (Nat.le_of_ble_eq_true rfl) (Nat.le_of_ble_eq_true rfl) dX5_init_8 (fun q_1 H hP hD hS => ?_)
  have hP : va_P g.1 vwCl [(h, .inr (5, [.null, .null, .null, .int 0, .int 0])), (q_1, .inl (gI g, 128, .inl (fun _ => 0)))] H := hP
  have hD : va_D A [(h, .inr (5, [.null, .null, .null, .int 0, .int 0])), (q_1, .inl (gI g, 128, .inl (fun _ => 0)))] := hD
  refine W.widen (k := 1) (n := 128) (Nat.le_of_ble_eq_true rfl) (Nat.le_of_ble_eq_true rfl) ?_
  refine va_putF (ci := 5) (v := .ref q_1) (C := RX5) (T := TX5) (N := 5) hx hb hts inlX5 tyX5 tyX5_ok nmX5 hown hKW.1 hP hD hS 0 rfl rfl 0 (by decide) (hts _ wd_5_14) (fun _ h => h) rfl hnm rfl (tyX5_ok 0 (by decide)) rfl rfl (Nat.le_of_ble_eq_true rfl) dX5_init_10 (fun H locs hP hD hS => ?_)
  have hP : va_P g.1 vwCl [(h, .inr (5, [.ref q_1, .null, .null, .int 0, .int 0])), (q_1, .inl (gI g, 128, .inl (fun _ => 0)))] H := hP
  have hD : va_D A [(h, .inr (5, [.ref q_1, .null, .null, .int 0, .int 0])), (q_1, .inl (gI g, 128, .inl (fun _ => 0)))] := hD
  refine lv_aload_n hx hb dX5_init_13 rfl (lv_at hl 0 rfl) ?_
  refine lv_sipush (v := 128) hx hb dX5_init_14 (by decide) ?_
  refine k_newi (N' := 128) hx hb (hts _ wd_3_12) hKW hP hD hS hA (by decide) (by decide) (by decide) (Nat.le_of_ble_eq_true rfl) (Nat.le_of_ble_eq_true rfl) dX5_init_17 (fun q_2 H hP hD hS => ?_)
  have hP : va_P g.1 vwCl [(h, .inr (5, [.ref q_1, .null, .null, .int 0, .int 0])), (q_1, .inl (gI g, 128, .inl (fun _ => 0))), (q_2, .inl (gI g, 128, .inl (fun _ => 0)))] H := hP
  have hD : va_D A [(h, .inr (5, [.ref q_1, .null, .null, .int 0, .int 0])), (q_1, .inl (gI g, 128, .inl (fun _ => 0))), (q_2, .inl (gI g, 128, .inl (fun _ => 0)))] := hD
  refine W.widen (k := 2) (n := 256) (Nat.le_of_ble_eq_true rfl) (Nat.le_of_ble_eq_true rfl) ?_
  refine va_putF (ci := 5) (v := .ref q_2) (C := RX5) (T := TX5) (N := 5) hx hb hts inlX5 tyX5 tyX5_ok nmX5 hown hKW.1 hP hD hS 0 rfl rfl 1 (by decide) (hts _ wd_5_15) (fun _ h => h) rfl hnm rfl (tyX5_ok 1 (by decide)) rfl rfl (Nat.le_of_ble_eq_true rfl) dX5_init_19 (fun H locs hP hD hS => ?_)
  have hP : va_P g.1 vwCl [(h, .inr (5, [.ref q_1, .ref q_2, .null, .int 0, .int 0])), (q_1, .inl (gI g, 128, .inl (fun _ => 0))), (q_2, .inl (gI g, 128, .inl (fun _ => 0)))] H := hP
  have hD : va_D A [(h, .inr (5, [.ref q_1, .ref q_2, .null, .int 0, .int 0])), (q_1, .inl (gI g, 128, .inl (fun _ => 0))), (q_2, .inl (gI g, 128, .inl (fun _ => 0)))] := hD
  refine lv_aload_n hx hb dX5_init_22 rfl (lv_at hl 0 rfl) ?_
  refine lv_sipush (v := 128) hx hb dX5_init_23 (by decide) ?_
  refine k_newi (N' := 128) hx hb (hts _ wd_3_12) hKW hP hD hS hA (by decide) (by decide) (by decide) (Nat.le_of_ble_eq_true rfl) (Nat.le_of_ble_eq_true rfl) dX5_init_26 (fun q_3 H hP hD hS => ?_)
  have hP : va_P g.1 vwCl [(h, .inr (5, [.ref q_1, .ref q_2, .null, .int 0, .int 0])), (q_1, .inl (gI g, 128, .inl (fun _ => 0))), (q_2, .inl (gI g, 128, .inl (fun _ => 0))), (q_3, .inl (gI g, 128, .inl (fun _ => 0)))] H := hP
  have hD : va_D A [(h, .inr (5, [.ref q_1, .ref q_2, .null, .int 0, .int 0])), (q_1, .inl (gI g, 128, .inl (fun _ => 0))), (q_2, .inl (gI g, 128, .inl (fun _ => 0))), (q_3, .inl (gI g, 128, .inl (fun _ => 0)))] := hD
  refine W.widen (k := 3) (n := 384) (Nat.le_of_ble_eq_true rfl) (Nat.le_of_ble_eq_true rfl) ?_
  refine va_putF (ci := 5) (v := .ref q_3) (C := RX5) (T := TX5) (N := 5) hx hb hts inlX5 tyX5 tyX5_ok nmX5 hown hKW.1 hP hD hS 0 rfl rfl 2 (by decide) (hts _ wd_5_16) (fun _ h => h) rfl hnm rfl (tyX5_ok 2 (by decide)) rfl rfl (Nat.le_of_ble_eq_true rfl) dX5_init_28 (fun H locs hP hD hS => ?_)
  have hP : va_P g.1 vwCl [(h, .inr (5, [.ref q_1, .ref q_2, .ref q_3, .int 0, .int 0])), (q_1, .inl (gI g, 128, .inl (fun _ => 0))), (q_2, .inl (gI g, 128, .inl (fun _ => 0))), (q_3, .inl (gI g, 128, .inl (fun _ => 0)))] H := hP
  have hD : va_D A [(h, .inr (5, [.ref q_1, .ref q_2, .ref q_3, .int 0, .int 0])), (q_1, .inl (gI g, 128, .inl (fun _ => 0))), (q_2, .inl (gI g, 128, .inl (fun _ => 0))), (q_3, .inl (gI g, 128, .inl (fun _ => 0)))] := hD
  exact k_vret (fun k => ([0, q_1, q_2, q_3] : List Nat).getD k 0) [0, 1, 2, 3] hx hb hr hlk hP hD hS trivial rfl rfl rfl (Nat.le_of_ble_eq_true rfl) (Nat.le_of_ble_eq_true rfl) dX5_init_31
theorem dX10_init_0 : decode cX10_init 0 = .ok (.aload_n 0, 1) := by decide +kernel
theorem dX10_init_1 : decode cX10_init 1 = .ok (.invokespecial 3, 3) := by decide +kernel
theorem dX10_init_4 : decode cX10_init 4 = .ok (.aload_n 0, 1) := by decide +kernel
theorem dX10_init_5 : decode cX10_init 5 = .ok (.bipush 60, 2) := by decide +kernel
theorem dX10_init_7 : decode cX10_init 7 = .ok (.newarray .int, 2) := by decide +kernel
theorem dX10_init_9 : decode cX10_init 9 = .ok (.putfield 9, 3) := by decide +kernel
theorem dX10_init_12 : decode cX10_init 12 = .ok (.return_, 1) := by decide +kernel
set_option maxHeartbeats 4000000 in
set_option maxRecDepth 100000 in
theorem c_X10_init (l : Launch) (g : kG) (sz : Nat) (h : Nat) : kMv l g yX10_init cX10_init 1 none 1 1 60 [.ref h] sz [(h, .inr (10, [.null]))] (fun (u : (Nat → Nat)) => True) (fun (u : (Nat → Nat)) => ([(h, .inr (10, [.ref (u 1)])), (u 1, .inl (gI g, 60, .inl (fun _ => 0)))] : va_W)) := by
  refine kMv.of (by decide) (Nat.le_of_ble_eq_true rfl) (fun p e s m below meth c A hx hb hr hml hown hts hlk hnm hKW hP hD hS hA ls hl => ?_)
  have hown : s.vm.findClass RX10 = some m.cls := hown
  have hl : lv_has ls 1 [(0, .ref h)] := hl
  refine lv_aload_n hx hb dX10_init_0 rfl (lv_at hl 0 rfl) ?_
  refine W.objInit hx hb hown (hts _ wd_5_19) (hts _ wd_1_10) (hts _ wd_1_11) rfl (by rw [hml]; exact hl.1) rfl dX10_init_1 (Nat.le_of_ble_eq_true rfl) (Nat.le_of_ble_eq_true rfl) ?_
  refine W.eq (g2 := F0 m 4 ls []) rfl ?_
  refine lv_aload_n hx hb dX10_init_4 rfl (lv_at hl 0 rfl) ?_
  refine lv_bipush (v := 60) hx hb dX10_init_5 (by decide) ?_
  refine k_newi (N' := 60) hx hb (hts _ wd_3_12) hKW hP hD hS hA (by decide) (by decide) (by decide) (Nat.le_of_ble_eq_true rfl) (Nat.le_of_ble_eq_true rfl) dX10_init_7 (fun q_1 H hP hD hS => ?_)
  have hP : va_P g.1 vwCl [(h, .inr (10, [.null])), (q_1, .inl (gI g, 60, .inl (fun _ => 0)))] H := hP
  have hD : va_D A [(h, .inr (10, [.null])), (q_1, .inl (gI g, 60, .inl (fun _ => 0)))] := hD
  refine W.widen (k := 1) (n := 60) (Nat.le_of_ble_eq_true rfl) (Nat.le_of_ble_eq_true rfl) ?_
  refine va_putF (ci := 10) (v := .ref q_1) (C := RX10) (T := TX10) (N := 1) hx hb hts inlX10 tyX10 tyX10_ok nmX10 hown hKW.1 hP hD hS 0 rfl rfl 0 (by decide) (hts _ wd_5_20) (fun _ h => h) rfl hnm rfl (tyX10_ok 0 (by decide)) rfl rfl (Nat.le_of_ble_eq_true rfl) dX10_init_9 (fun H locs hP hD hS => ?_)
  have hP : va_P g.1 vwCl [(h, .inr (10, [.ref q_1])), (q_1, .inl (gI g, 60, .inl (fun _ => 0)))] H := hP
  have hD : va_D A [(h, .inr (10, [.ref q_1])), (q_1, .inl (gI g, 60, .inl (fun _ => 0)))] := hD
  exact k_vret (fun k => ([0, q_1] : List Nat).getD k 0) [0, 1] hx hb hr hlk hP hD hS trivial rfl rfl rfl (Nat.le_of_ble_eq_true rfl) (Nat.le_of_ble_eq_true rfl) dX10_init_12
theorem dX9_init_0 : decode cX9_init 0 = .ok (.aload_n 0, 1) := by decide +kernel
theorem dX9_init_1 : decode cX9_init 1 = .ok (.invokespecial 3, 3) := by decide +kernel
theorem dX9_init_4 : decode cX9_init 4 = .ok (.aload_n 0, 1) := by decide +kernel
theorem dX9_init_5 : decode cX9_init 5 = .ok (.bipush 60, 2) := by decide +kernel
theorem dX9_init_7 : decode cX9_init 7 = .ok (.newarray .int, 2) := by decide +kernel
theorem dX9_init_9 : decode cX9_init 9 = .ok (.putfield 9, 3) := by decide +kernel
theorem dX9_init_12 : decode cX9_init 12 = .ok (.return_, 1) := by decide +kernel
set_option maxHeartbeats 4000000 in
set_option maxRecDepth 100000 in
theorem c_X9_init (l : Launch) (g : kG) (sz : Nat) (h : Nat) : kMv l g yX9_init cX9_init 1 none 1 1 60 [.ref h] sz [(h, .inr (9, [.int 0, .int 0, .null]))] (fun (u : (Nat → Nat)) => True) (fun (u : (Nat → Nat)) => ([(h, .inr (9, [.int 0, .int 0, .ref (u 1)])), (u 1, .inl (gI g, 60, .inl (fun _ => 0)))] : va_W)) := by
  refine kMv.of (by decide) (Nat.le_of_ble_eq_true rfl) (fun p e s m below meth c A hx hb hr hml hown hts hlk hnm hKW hP hD hS hA ls hl => ?_)
  have hown : s.vm.findClass RX9 = some m.cls := hown
  have hl : lv_has ls 1 [(0, .ref h)] := hl
  refine lv_aload_n hx hb dX9_init_0 rfl (lv_at hl 0 rfl) ?_
  refine W.objInit hx hb hown (hts _ wd_5_23) (hts _ wd_1_10) (hts _ wd_1_11) rfl (by rw [hml]; exact hl.1) rfl dX9_init_1 (Nat.le_of_ble_eq_true rfl) (Nat.le_of_ble_eq_true rfl) ?_
  refine W.eq (g2 := F0 m 4 ls []) rfl ?_
  refine lv_aload_n hx hb dX9_init_4 rfl (lv_at hl 0 rfl) ?_
  refine lv_bipush (v := 60) hx hb dX9_init_5 (by decide) ?_
  refine k_newi (N' := 60) hx hb (hts _ wd_3_12) hKW hP hD hS hA (by decide) (by decide) (by decide) (Nat.le_of_ble_eq_true rfl) (Nat.le_of_ble_eq_true rfl) dX9_init_7 (fun q_1 H hP hD hS => ?_)
  have hP : va_P g.1 vwCl [(h, .inr (9, [.int 0, .int 0, .null])), (q_1, .inl (gI g, 60, .inl (fun _ => 0)))] H := hP
  have hD : va_D A [(h, .inr (9, [.int 0, .int 0, .null])), (q_1, .inl (gI g, 60, .inl (fun _ => 0)))] := hD
  refine W.widen (k := 1) (n := 60) (Nat.le_of_ble_eq_true rfl) (Nat.le_of_ble_eq_true rfl) ?_
  refine va_putF (ci := 9) (v := .ref q_1) (C := RX9) (T := TX9) (N := 3) hx hb hts inlX9 tyX9 tyX9_ok nmX9 hown hKW.1 hP hD hS 0 rfl rfl 2 (by decide) (hts _ wd_6_0) (fun _ h => h) rfl hnm rfl (tyX9_ok 2 (by decide)) rfl rfl (Nat.le_of_ble_eq_true rfl) dX9_init_9 (fun H locs hP hD hS => ?_)
  have hP : va_P g.1 vwCl [(h, .inr (9, [.int 0, .int 0, .ref q_1])), (q_1, .inl (gI g, 60, .inl (fun _ => 0)))] H := hP
  have hD : va_D A [(h, .inr (9, [.int 0, .int 0, .ref q_1])), (q_1, .inl (gI g, 60, .inl (fun _ => 0)))] := hD
  exact k_vret (fun k => ([0, q_1] : List Nat).getD k 0) [0, 1] hx hb hr hlk hP hD hS trivial rfl rfl rfl (Nat.le_of_ble_eq_true rfl) (Nat.le_of_ble_eq_true rfl) dX9_init_12
theorem dX11_init_0 : decode cX11_init 0 = .ok (.aload_n 0, 1) := by decide +kernel
theorem dX11_init_1 : decode cX11_init 1 = .ok (.invokespecial 1, 3) := by decide +kernel
theorem dX11_init_4 : decode cX11_init 4 = .ok (.aload_n 0, 1) := by decide +kernel
theorem dX11_init_5 : decode cX11_init 5 = .ok (.new 7, 3) := by decide +kernel
theorem dX11_init_8 : decode cX11_init 8 = .ok (.dup, 1) := by decide +kernel
theorem dX11_init_9 : decode cX11_init 9 = .ok (.invokespecial 9, 3) := by decide +kernel
theorem dX11_init_12 : decode cX11_init 12 = .ok (.putfield 10, 3) := by decide +kernel
theorem dX11_init_15 : decode cX11_init 15 = .ok (.aload_n 0, 1) := by decide +kernel
theorem dX11_init_16 : decode cX11_init 16 = .ok (.new 16, 3) := by decide +kernel
theorem dX11_init_19 : decode cX11_init 19 = .ok (.dup, 1) := by decide +kernel
theorem dX11_init_20 : decode cX11_init 20 = .ok (.invokespecial 18, 3) := by decide +kernel
theorem dX11_init_23 : decode cX11_init 23 = .ok (.putfield 19, 3) := by decide +kernel
theorem dX11_init_26 : decode cX11_init 26 = .ok (.aload_n 0, 1) := by decide +kernel
theorem dX11_init_27 : decode cX11_init 27 = .ok (.new 23, 3) := by decide +kernel
theorem dX11_init_30 : decode cX11_init 30 = .ok (.dup, 1) := by decide +kernel
theorem dX11_init_31 : decode cX11_init 31 = .ok (.invokespecial 25, 3) := by decide +kernel
theorem dX11_init_34 : decode cX11_init 34 = .ok (.putfield 26, 3) := by decide +kernel
theorem dX11_init_37 : decode cX11_init 37 = .ok (.aload_n 0, 1) := by decide +kernel
theorem dX11_init_38 : decode cX11_init 38 = .ok (.new 30, 3) := by decide +kernel
theorem dX11_init_41 : decode cX11_init 41 = .ok (.dup, 1) := by decide +kernel
theorem dX11_init_42 : decode cX11_init 42 = .ok (.invokespecial 32, 3) := by decide +kernel
theorem dX11_init_45 : decode cX11_init 45 = .ok (.putfield 33, 3) := by decide +kernel
theorem dX11_init_48 : decode cX11_init 48 = .ok (.aload_n 0, 1) := by decide +kernel
theorem dX11_init_49 : decode cX11_init 49 = .ok (.new 37, 3) := by decide +kernel
theorem dX11_init_52 : decode cX11_init 52 = .ok (.dup, 1) := by decide +kernel
theorem dX11_init_53 : decode cX11_init 53 = .ok (.invokespecial 39, 3) := by decide +kernel
theorem dX11_init_56 : decode cX11_init 56 = .ok (.putfield 40, 3) := by decide +kernel
theorem dX11_init_59 : decode cX11_init 59 = .ok (.aload_n 0, 1) := by decide +kernel
theorem dX11_init_60 : decode cX11_init 60 = .ok (.iconst 4, 1) := by decide +kernel
theorem dX11_init_61 : decode cX11_init 61 = .ok (.anewarray 44, 3) := by decide +kernel
theorem dX11_init_64 : decode cX11_init 64 = .ok (.putfield 46, 3) := by decide +kernel
theorem dX11_init_67 : decode cX11_init 67 = .ok (.iconst 0, 1) := by decide +kernel
theorem dX11_init_68 : decode cX11_init 68 = .ok (.istore_n 1, 1) := by decide +kernel
theorem dX11_init_69 : decode cX11_init 69 = .ok (.iload_n 1, 1) := by decide +kernel
theorem dX11_init_70 : decode cX11_init 70 = .ok (.iconst 4, 1) := by decide +kernel
theorem dX11_init_71 : decode cX11_init 71 = .ok (.if_icmp .ge 22, 3) := by decide +kernel
theorem dX11_init_74 : decode cX11_init 74 = .ok (.aload_n 0, 1) := by decide +kernel
theorem dX11_init_75 : decode cX11_init 75 = .ok (.getfield 46, 3) := by decide +kernel
theorem dX11_init_78 : decode cX11_init 78 = .ok (.iload_n 1, 1) := by decide +kernel
theorem dX11_init_79 : decode cX11_init 79 = .ok (.new 44, 3) := by decide +kernel
theorem dX11_init_82 : decode cX11_init 82 = .ok (.dup, 1) := by decide +kernel
theorem dX11_init_83 : decode cX11_init 83 = .ok (.invokespecial 50, 3) := by decide +kernel
theorem dX11_init_86 : decode cX11_init 86 = .ok (.aastore, 1) := by decide +kernel
theorem dX11_init_87 : decode cX11_init 87 = .ok (.iinc 1 1, 3) := by decide +kernel
theorem dX11_init_90 : decode cX11_init 90 = .ok (.goto (-21), 3) := by decide +kernel
theorem dX11_init_93 : decode cX11_init 93 = .ok (.return_, 1) := by decide +kernel
set_option maxHeartbeats 4000000 in
set_option maxRecDepth 100000 in
theorem c_X11_init (l : Launch) (g : kG) (sz : Nat) (h : Nat) : kMv l g yX11_init cX11_init 2 none 3 48 1204 [.ref h] sz [(h, .inr (11, [.null, .null, .null, .null, .null, .null, .int 0]))] (fun (u : (Nat → Nat)) => True) (fun (u : (Nat → Nat)) => ([(h, .inr (11, [.ref (u 1), .ref (u 29), .ref (u 31), .ref (u 34), .ref (u 38), .ref (u 40), .int 0])), (u 1, .inr (4, [.ref (u 2), .ref (u 6), .ref (u 9), .ref (u 18), .ref (u 22), .ref (u 26), .ref (u 28), .int 0, .int 0, .int 36, .int 10])), (u 2, .inr (8, [.int 0, .ref (u 3), .ref (u 4), .ref (u 5)])), (u 3, .inl (gI g, 5, .inl (fun _ => 0))), (u 4, .inl (gI g, 5, .inl (fun _ => 0))), (u 5, .inl (gI g, 5, .inl (fun _ => 0))), (u 6, .inr (1, [.int 0, .ref (u 7), .ref (u 8), .int 0])), (u 7, .inl (gI g, 7, .inl (fun _ => 0))), (u 8, .inl (gI g, 7, .inl (fun _ => 0))), (u 9, .inr (0, [.int 0, .ref (u 10), .ref (u 11), .ref (u 12), .ref (u 13), .ref (u 14), .ref (u 15), .ref (u 16), .int 0, .int 0, .int 0, .ref (u 17)])), (u 10, .inl (gI g, 10, .inl (fun _ => 0))), (u 11, .inl (gI g, 10, .inl (fun _ => 0))), (u 12, .inl (gI g, 10, .inl (fun _ => 0))), (u 13, .inl (gI g, 10, .inl (fun _ => 0))), (u 14, .inl (gI g, 10, .inl (fun _ => 0))), (u 15, .inl (gI g, 10, .inl (fun _ => 0))), (u 16, .inl (gI g, 10, .inl (fun _ => 0))), (u 17, .inl (gI g, 10, .inl (fun _ => 0))), (u 18, .inr (3, [.int 0, .ref (u 19), .ref (u 20), .ref (u 21)])), (u 19, .inl (gI g, 40, .inl (fun _ => 0))), (u 20, .inl (gI g, 40, .inl (fun _ => 0))), (u 21, .inl (gI g, 40, .inl (fun _ => 0))), (u 22, .inr (3, [.int 0, .ref (u 23), .ref (u 24), .ref (u 25)])), (u 23, .inl (gI g, 40, .inl (fun _ => 0))), (u 24, .inl (gI g, 40, .inl (fun _ => 0))), (u 25, .inl (gI g, 40, .inl (fun _ => 0))), (u 26, .inr (6, [.int 0, .int 0, .ref (u 27)])), (u 27, .inl (gI g, 14, .inl (fun _ => 0))), (u 28, .inl (gI g, 60, .inl (fun _ => 0))), (u 29, .inr (2, [.int 0, .int 0, .ref (u 30)])), (u 30, .inl (gN g, 16, .inr (.inr (.inr (.inr (fun _ => none)))))), (u 31, .inr (7, [.ref (u 32), .ref (u 33)])), (u 32, .inl (gI g, 7, .inl (fun _ => 0))), (u 33, .inl (gJ g, 5, .inr (.inl (fun _ => 0)))), (u 34, .inr (5, [.ref (u 35), .ref (u 36), .ref (u 37), .int 0, .int 0])), (u 35, .inl (gI g, 128, .inl (fun _ => 0))), (u 36, .inl (gI g, 128, .inl (fun _ => 0))), (u 37, .inl (gI g, 128, .inl (fun _ => 0))), (u 38, .inr (10, [.ref (u 39)])), (u 39, .inl (gI g, 60, .inl (fun _ => 0))), (u 40, .inl (gS g, 4, .inr (.inr (.inr (.inr (va_up (va_up (va_up (va_up (fun _ => none) 0 (some (u 41))) 1 (some (u 43))) 2 (some (u 45))) 3 (some (u 47)))))))), (u 41, .inr (9, [.int 0, .int 0, .ref (u 42)])), (u 42, .inl (gI g, 60, .inl (fun _ => 0))), (u 43, .inr (9, [.int 0, .int 0, .ref (u 44)])), (u 44, .inl (gI g, 60, .inl (fun _ => 0))), (u 45, .inr (9, [.int 0, .int 0, .ref (u 46)])), (u 46, .inl (gI g, 60, .inl (fun _ => 0))), (u 47, .inr (9, [.int 0, .int 0, .ref (u 48)])), (u 48, .inl (gI g, 60, .inl (fun _ => 0)))] : va_W)) := by
  refine kMv.of (by decide) (Nat.le_of_ble_eq_true rfl) (fun p e s m below meth c A hx hb hr hml hown hts hlk hnm hKW hP hD hS hA ls hl => ?_)
  have hown : s.vm.findClass RX11 = some m.cls := hown
  have hl : lv_has ls 2 [(0, .ref h)] := hl
  refine lv_aload_n hx hb dX11_init_0 rfl (lv_at hl 0 rfl) ?_
  refine W.objInit hx hb hown (hts _ wd_1_9) (hts _ wd_1_10) (hts _ wd_1_11) rfl (by rw [hml]; exact hl.1) rfl dX11_init_1 (Nat.le_of_ble_eq_true rfl) (Nat.le_of_ble_eq_true rfl) ?_
  refine W.eq (g2 := F0 m 4 ls []) rfl ?_
  refine lv_aload_n hx hb dX11_init_4 rfl (lv_at hl 0 rfl) ?_
  refine va_new (ci := 4) (fs := [.null, .null, .null, .null, .null, .null, .null, .int 0, .int 0, .int 0, .int 0]) (C := RX4) (T := TX4) (N := 11) hx hb hts inlX4 tyX4 tyX4_ok hown (hts _ wd_1_12) (hts _ wd_1_13) (hts _ wd_1_14) hKW.1 hP hD hS hA rfl (fun j hj => by rcases (show j = 0 ∨ j = 1 ∨ j = 2 ∨ j = 3 ∨ j = 4 ∨ j = 5 ∨ j = 6 ∨ j = 7 ∨ j = 8 ∨ j = 9 ∨ j = 10 by omega) with rfl | rfl | rfl | rfl | rfl | rfl | rfl | rfl | rfl | rfl | rfl <;> rfl) (Nat.le_of_ble_eq_true rfl) (Nat.le_of_ble_eq_true rfl) dX11_init_5 (fun q_1 H hP hD hS => ?_)
  have hP : va_P g.1 vwCl [(h, .inr (11, [.null, .null, .null, .null, .null, .null, .int 0])), (q_1, .inr (4, [.null, .null, .null, .null, .null, .null, .null, .int 0, .int 0, .int 0, .int 0]))] H := hP
  have hD : va_D A [(h, .inr (11, [.null, .null, .null, .null, .null, .null, .int 0])), (q_1, .inr (4, [.null, .null, .null, .null, .null, .null, .null, .int 0, .int 0, .int 0, .int 0]))] := hD
  refine W.widen (k := 1) (n := 11) (Nat.le_of_ble_eq_true rfl) (Nat.le_of_ble_eq_true rfl) ?_
  refine lv_dup hx hb dX11_init_8 rfl ?_
  refine k_IN [1] [0] (wr := [(h, .inr (11, [.null, .null, .null, .null, .null, .null, .int 0]))]) hx hb hml hown hts hKW hP hD hS hA hl.1 (c_X4_init l g _ q_1 ) rfl wd_2_13 wd_1_14 nw_0 wd_2_12 yd_X4_init ⟨Nat.le_of_ble_eq_true rfl, Nat.le_of_ble_eq_true rfl⟩ rfl rfl rfl rfl rfl (by decide) rfl (Nat.le_of_ble_eq_true rfl) dX11_init_9 ⟨Nat.le_of_ble_eq_true rfl, Nat.le_of_ble_eq_true rfl⟩ (fun u_3 H locs hw_4 hP hD hS => ?_)
  have hP : va_P g.1 vwCl [(h, .inr (11, [.null, .null, .null, .null, .null, .null, .int 0])), (q_1, .inr (4, [.ref (u_3 1), .ref (u_3 5), .ref (u_3 8), .ref (u_3 17), .ref (u_3 21), .ref (u_3 25), .ref (u_3 27), .int 0, .int 0, .int 36, .int 10])), (u_3 1, .inr (8, [.int 0, .ref (u_3 2), .ref (u_3 3), .ref (u_3 4)])), (u_3 2, .inl (gI g, 5, .inl (fun _ => 0))), (u_3 3, .inl (gI g, 5, .inl (fun _ => 0))), (u_3 4, .inl (gI g, 5, .inl (fun _ => 0))), (u_3 5, .inr (1, [.int 0, .ref (u_3 6), .ref (u_3 7), .int 0])), (u_3 6, .inl (gI g, 7, .inl (fun _ => 0))), (u_3 7, .inl (gI g, 7, .inl (fun _ => 0))), (u_3 8, .inr (0, [.int 0, .ref (u_3 9), .ref (u_3 10), .ref (u_3 11), .ref (u_3 12), .ref (u_3 13), .ref (u_3 14), .ref (u_3 15), .int 0, .int 0, .int 0, .ref (u_3 16)])), (u_3 9, .inl (gI g, 10, .inl (fun _ => 0))), (u_3 10, .inl (gI g, 10, .inl (fun _ => 0))), (u_3 11, .inl (gI g, 10, .inl (fun _ => 0))), (u_3 12, .inl (gI g, 10, .inl (fun _ => 0))), (u_3 13, .inl (gI g, 10, .inl (fun _ => 0))), (u_3 14, .inl (gI g, 10, .inl (fun _ => 0))), (u_3 15, .inl (gI g, 10, .inl (fun _ => 0))), (u_3 16, .inl (gI g, 10, .inl (fun _ => 0))), (u_3 17, .inr (3, [.int 0, .ref (u_3 18), .ref (u_3 19), .ref (u_3 20)])), (u_3 18, .inl (gI g, 40, .inl (fun _ => 0))), (u_3 19, .inl (gI g, 40, .inl (fun _ => 0))), (u_3 20, .inl (gI g, 40, .inl (fun _ => 0))), (u_3 21, .inr (3, [.int 0, .ref (u_3 22), .ref (u_3 23), .ref (u_3 24)])), (u_3 22, .inl (gI g, 40, .inl (fun _ => 0))), (u_3 23, .inl (gI g, 40, .inl (fun _ => 0))), (u_3 24, .inl (gI g, 40, .inl (fun _ => 0))), (u_3 25, .inr (6, [.int 0, .int 0, .ref (u_3 26)])), (u_3 26, .inl (gI g, 14, .inl (fun _ => 0))), (u_3 27, .inl (gI g, 60, .inl (fun _ => 0)))] H := hP
  have hD : va_D A [(h, .inr (11, [.null, .null, .null, .null, .null, .null, .int 0])), (q_1, .inr (4, [.ref (u_3 1), .ref (u_3 5), .ref (u_3 8), .ref (u_3 17), .ref (u_3 21), .ref (u_3 25), .ref (u_3 27), .int 0, .int 0, .int 36, .int 10])), (u_3 1, .inr (8, [.int 0, .ref (u_3 2), .ref (u_3 3), .ref (u_3 4)])), (u_3 2, .inl (gI g, 5, .inl (fun _ => 0))), (u_3 3, .inl (gI g, 5, .inl (fun _ => 0))), (u_3 4, .inl (gI g, 5, .inl (fun _ => 0))), (u_3 5, .inr (1, [.int 0, .ref (u_3 6), .ref (u_3 7), .int 0])), (u_3 6, .inl (gI g, 7, .inl (fun _ => 0))), (u_3 7, .inl (gI g, 7, .inl (fun _ => 0))), (u_3 8, .inr (0, [.int 0, .ref (u_3 9), .ref (u_3 10), .ref (u_3 11), .ref (u_3 12), .ref (u_3 13), .ref (u_3 14), .ref (u_3 15), .int 0, .int 0, .int 0, .ref (u_3 16)])), (u_3 9, .inl (gI g, 10, .inl (fun _ => 0))), (u_3 10, .inl (gI g, 10, .inl (fun _ => 0))), (u_3 11, .inl (gI g, 10, .inl (fun _ => 0))), (u_3 12, .inl (gI g, 10, .inl (fun _ => 0))), (u_3 13, .inl (gI g, 10, .inl (fun _ => 0))), (u_3 14, .inl (gI g, 10, .inl (fun _ => 0))), (u_3 15, .inl (gI g, 10, .inl (fun _ => 0))), (u_3 16, .inl (gI g, 10, .inl (fun _ => 0))), (u_3 17, .inr (3, [.int 0, .ref (u_3 18), .ref (u_3 19), .ref (u_3 20)])), (u_3 18, .inl (gI g, 40, .inl (fun _ => 0))), (u_3 19, .inl (gI g, 40, .inl (fun _ => 0))), (u_3 20, .inl (gI g, 40, .inl (fun _ => 0))), (u_3 21, .inr (3, [.int 0, .ref (u_3 22), .ref (u_3 23), .ref (u_3 24)])), (u_3 22, .inl (gI g, 40, .inl (fun _ => 0))), (u_3 23, .inl (gI g, 40, .inl (fun _ => 0))), (u_3 24, .inl (gI g, 40, .inl (fun _ => 0))), (u_3 25, .inr (6, [.int 0, .int 0, .ref (u_3 26)])), (u_3 26, .inl (gI g, 14, .inl (fun _ => 0))), (u_3 27, .inl (gI g, 60, .inl (fun _ => 0)))] := hD
  refine W.widen (k := 28) (n := 465) (Nat.le_of_ble_eq_true rfl) (Nat.le_of_ble_eq_true rfl) ?_
  refine va_putF (ci := 11) (v := .ref q_1) (C := RX11) (T := TX11) (N := 7) hx hb hts inlX11 tyX11 tyX11_ok nmX11 hown hKW.1 hP hD hS 0 rfl rfl 0 (by decide) (hts _ wd_1_15) (fun _ h => h) rfl hnm rfl (tyX11_ok 0 (by decide)) rfl rfl (Nat.le_of_ble_eq_true rfl) dX11_init_12 (fun H locs hP hD hS => ?_)
  have hP : va_P g.1 vwCl [(h, .inr (11, [.ref q_1, .null, .null, .null, .null, .null, .int 0])), (q_1, .inr (4, [.ref (u_3 1), .ref (u_3 5), .ref (u_3 8), .ref (u_3 17), .ref (u_3 21), .ref (u_3 25), .ref (u_3 27), .int 0, .int 0, .int 36, .int 10])), (u_3 1, .inr (8, [.int 0, .ref (u_3 2), .ref (u_3 3), .ref (u_3 4)])), (u_3 2, .inl (gI g, 5, .inl (fun _ => 0))), (u_3 3, .inl (gI g, 5, .inl (fun _ => 0))), (u_3 4, .inl (gI g, 5, .inl (fun _ => 0))), (u_3 5, .inr (1, [.int 0, .ref (u_3 6), .ref (u_3 7), .int 0])), (u_3 6, .inl (gI g, 7, .inl (fun _ => 0))), (u_3 7, .inl (gI g, 7, .inl (fun _ => 0))), (u_3 8, .inr (0, [.int 0, .ref (u_3 9), .ref (u_3 10), .ref (u_3 11), .ref (u_3 12), .ref (u_3 13), .ref (u_3 14), .ref (u_3 15), .int 0, .int 0, .int 0, .ref (u_3 16)])), (u_3 9, .inl (gI g, 10, .inl (fun _ => 0))), (u_3 10, .inl (gI g, 10, .inl (fun _ => 0))), (u_3 11, .inl (gI g, 10, .inl (fun _ => 0))), (u_3 12, .inl (gI g, 10, .inl (fun _ => 0))), (u_3 13, .inl (gI g, 10, .inl (fun _ => 0))), (u_3 14, .inl (gI g, 10, .inl (fun _ => 0))), (u_3 15, .inl (gI g, 10, .inl (fun _ => 0))), (u_3 16, .inl (gI g, 10, .inl (fun _ => 0))), (u_3 17, .inr (3, [.int 0, .ref (u_3 18), .ref (u_3 19), .ref (u_3 20)])), (u_3 18, .inl (gI g, 40, .inl (fun _ => 0))), (u_3 19, .inl (gI g, 40, .inl (fun _ => 0))), (u_3 20, .inl (gI g, 40, .inl (fun _ => 0))), (u_3 21, .inr (3, [.int 0, .ref (u_3 22), .ref (u_3 23), .ref (u_3 24)])), (u_3 22, .inl (gI g, 40, .inl (fun _ => 0))), (u_3 23, .inl (gI g, 40, .inl (fun _ => 0))), (u_3 24, .inl (gI g, 40, .inl (fun _ => 0))), (u_3 25, .inr (6, [.int 0, .int 0, .ref (u_3 26)])), (u_3 26, .inl (gI g, 14, .inl (fun _ => 0))), (u_3 27, .inl (gI g, 60, .inl (fun _ => 0)))] H := hP
  have hD : va_D A [(h, .inr (11, [.ref q_1, .null, .null, .null, .null, .null, .int 0])), (q_1, .inr (4, [.ref (u_3 1), .ref (u_3 5), .ref (u_3 8), .ref (u_3 17), .ref (u_3 21), .ref (u_3 25), .ref (u_3 27), .int 0, .int 0, .int 36, .int 10])), (u_3 1, .inr (8, [.int 0, .ref (u_3 2), .ref (u_3 3), .ref (u_3 4)])), (u_3 2, .inl (gI g, 5, .inl (fun _ => 0))), (u_3 3, .inl (gI g, 5, .inl (fun _ => 0))), (u_3 4, .inl (gI g, 5, .inl (fun _ => 0))), (u_3 5, .inr (1, [.int 0, .ref (u_3 6), .ref (u_3 7), .int 0])), (u_3 6, .inl (gI g, 7, .inl (fun _ => 0))), (u_3 7, .inl (gI g, 7, .inl (fun _ => 0))), (u_3 8, .inr (0, [.int 0, .ref (u_3 9), .ref (u_3 10), .ref (u_3 11), .ref (u_3 12), .ref (u_3 13), .ref (u_3 14), .ref (u_3 15), .int 0, .int 0, .int 0, .ref (u_3 16)])), (u_3 9, .inl (gI g, 10, .inl (fun _ => 0))), (u_3 10, .inl (gI g, 10, .inl (fun _ => 0))), (u_3 11, .inl (gI g, 10, .inl (fun _ => 0))), (u_3 12, .inl (gI g, 10, .inl (fun _ => 0))), (u_3 13, .inl (gI g, 10, .inl (fun _ => 0))), (u_3 14, .inl (gI g, 10, .inl (fun _ => 0))), (u_3 15, .inl (gI g, 10, .inl (fun _ => 0))), (u_3 16, .inl (gI g, 10, .inl (fun _ => 0))), (u_3 17, .inr (3, [.int 0, .ref (u_3 18), .ref (u_3 19), .ref (u_3 20)])), (u_3 18, .inl (gI g, 40, .inl (fun _ => 0))), (u_3 19, .inl (gI g, 40, .inl (fun _ => 0))), (u_3 20, .inl (gI g, 40, .inl (fun _ => 0))), (u_3 21, .inr (3, [.int 0, .ref (u_3 22), .ref (u_3 23), .ref (u_3 24)])), (u_3 22, .inl (gI g, 40, .inl (fun _ => 0))), (u_3 23, .inl (gI g, 40, .inl (fun _ => 0))), (u_3 24, .inl (gI g, 40, .inl (fun _ => 0))), (u_3 25, .inr (6, [.int 0, .int 0, .ref (u_3 26)])), (u_3 26, .inl (gI g, 14, .inl (fun _ => 0))), (u_3 27, .inl (gI g, 60, .inl (fun _ => 0)))] := hD
  refine lv_aload_n hx hb dX11_init_15 rfl (lv_at hl 0 rfl) ?_
  refine va_new (ci := 2) (fs := [.int 0, .int 0, .null]) (C := RX2) (T := TX2) (N := 3) hx hb hts inlX2 tyX2 tyX2_ok hown (hts _ wd_1_16) (hts _ wd_1_17) (hts _ wd_1_18) hKW.1 hP hD hS hA rfl (fun j hj => by rcases (show j = 0 ∨ j = 1 ∨ j = 2 by omega) with rfl | rfl | rfl <;> rfl) (Nat.le_of_ble_eq_true rfl) (Nat.le_of_ble_eq_true rfl) dX11_init_16 (fun q_5 H hP hD hS => ?_)
  have hP : va_P g.1 vwCl [(h, .inr (11, [.ref q_1, .null, .null, .null, .null, .null, .int 0])), (q_1, .inr (4, [.ref (u_3 1), .ref (u_3 5), .ref (u_3 8), .ref (u_3 17), .ref (u_3 21), .ref (u_3 25), .ref (u_3 27), .int 0, .int 0, .int 36, .int 10])), (u_3 1, .inr (8, [.int 0, .ref (u_3 2), .ref (u_3 3), .ref (u_3 4)])), (u_3 2, .inl (gI g, 5, .inl (fun _ => 0))), (u_3 3, .inl (gI g, 5, .inl (fun _ => 0))), (u_3 4, .inl (gI g, 5, .inl (fun _ => 0))), (u_3 5, .inr (1, [.int 0, .ref (u_3 6), .ref (u_3 7), .int 0])), (u_3 6, .inl (gI g, 7, .inl (fun _ => 0))), (u_3 7, .inl (gI g, 7, .inl (fun _ => 0))), (u_3 8, .inr (0, [.int 0, .ref (u_3 9), .ref (u_3 10), .ref (u_3 11), .ref (u_3 12), .ref (u_3 13), .ref (u_3 14), .ref (u_3 15), .int 0, .int 0, .int 0, .ref (u_3 16)])), (u_3 9, .inl (gI g, 10, .inl (fun _ => 0))), (u_3 10, .inl (gI g, 10, .inl (fun _ => 0))), (u_3 11, .inl (gI g, 10, .inl (fun _ => 0))), (u_3 12, .inl (gI g, 10, .inl (fun _ => 0))), (u_3 13, .inl (gI g, 10, .inl (fun _ => 0))), (u_3 14, .inl (gI g, 10, .inl (fun _ => 0))), (u_3 15, .inl (gI g, 10, .inl (fun _ => 0))), (u_3 16, .inl (gI g, 10, .inl (fun _ => 0))), (u_3 17, .inr (3, [.int 0, .ref (u_3 18), .ref (u_3 19), .ref (u_3 20)])), (u_3 18, .inl (gI g, 40, .inl (fun _ => 0))), (u_3 19, .inl (gI g, 40, .inl (fun _ => 0))), (u_3 20, .inl (gI g, 40, .inl (fun _ => 0))), (u_3 21, .inr (3, [.int 0, .ref (u_3 22), .ref (u_3 23), .ref (u_3 24)])), (u_3 22, .inl (gI g, 40, .inl (fun _ => 0))), (u_3 23, .inl (gI g, 40, .inl (fun _ => 0))), (u_3 24, .inl (gI g, 40, .inl (fun _ => 0))), (u_3 25, .inr (6, [.int 0, .int 0, .ref (u_3 26)])), (u_3 26, .inl (gI g, 14, .inl (fun _ => 0))), (u_3 27, .inl (gI g, 60, .inl (fun _ => 0))), (q_5, .inr (2, [.int 0, .int 0, .null]))] H := hP
  have hD : va_D A [(h, .inr (11, [.ref q_1, .null, .null, .null, .null, .null, .int 0])), (q_1, .inr (4, [.ref (u_3 1), .ref (u_3 5), .ref (u_3 8), .ref (u_3 17), .ref (u_3 21), .ref (u_3 25), .ref (u_3 27), .int 0, .int 0, .int 36, .int 10])), (u_3 1, .inr (8, [.int 0, .ref (u_3 2), .ref (u_3 3), .ref (u_3 4)])), (u_3 2, .inl (gI g, 5, .inl (fun _ => 0))), (u_3 3, .inl (gI g, 5, .inl (fun _ => 0))), (u_3 4, .inl (gI g, 5, .inl (fun _ => 0))), (u_3 5, .inr (1, [.int 0, .ref (u_3 6), .ref (u_3 7), .int 0])), (u_3 6, .inl (gI g, 7, .inl (fun _ => 0))), (u_3 7, .inl (gI g, 7, .inl (fun _ => 0))), (u_3 8, .inr (0, [.int 0, .ref (u_3 9), .ref (u_3 10), .ref (u_3 11), .ref (u_3 12), .ref (u_3 13), .ref (u_3 14), .ref (u_3 15), .int 0, .int 0, .int 0, .ref (u_3 16)])), (u_3 9, .inl (gI g, 10, .inl (fun _ => 0))), (u_3 10, .inl (gI g, 10, .inl (fun _ => 0))), (u_3 11, .inl (gI g, 10, .inl (fun _ => 0))), (u_3 12, .inl (gI g, 10, .inl (fun _ => 0))), (u_3 13, .inl (gI g, 10, .inl (fun _ => 0))), (u_3 14, .inl (gI g, 10, .inl (fun _ => 0))), (u_3 15, .inl (gI g, 10, .inl (fun _ => 0))), (u_3 16, .inl (gI g, 10, .inl (fun _ => 0))), (u_3 17, .inr (3, [.int 0, .ref (u_3 18), .ref (u_3 19), .ref (u_3 20)])), (u_3 18, .inl (gI g, 40, .inl (fun _ => 0))), (u_3 19, .inl (gI g, 40, .inl (fun _ => 0))), (u_3 20, .inl (gI g, 40, .inl (fun _ => 0))), (u_3 21, .inr (3, [.int 0, .ref (u_3 22), .ref (u_3 23), .ref (u_3 24)])), (u_3 22, .inl (gI g, 40, .inl (fun _ => 0))), (u_3 23, .inl (gI g, 40, .inl (fun _ => 0))), (u_3 24, .inl (gI g, 40, .inl (fun _ => 0))), (u_3 25, .inr (6, [.int 0, .int 0, .ref (u_3 26)])), (u_3 26, .inl (gI g, 14, .inl (fun _ => 0))), (u_3 27, .inl (gI g, 60, .inl (fun _ => 0))), (q_5, .inr (2, [.int 0, .int 0, .null]))] := hD
  refine W.widen (k := 29) (n := 468) (Nat.le_of_ble_eq_true rfl) (Nat.le_of_ble_eq_true rfl) ?_
  refine lv_dup hx hb dX11_init_19 rfl ?_
  refine k_IN [29] [0, 1, 2, 3, 4, 5, 6, 7, 8, 9, 10, 11, 12, 13, 14, 15, 16, 17, 18, 19, 20, 21, 22, 23, 24, 25, 26, 27, 28] (wr := [(h, .inr (11, [.ref q_1, .null, .null, .null, .null, .null, .int 0])), (q_1, .inr (4, [.ref (u_3 1), .ref (u_3 5), .ref (u_3 8), .ref (u_3 17), .ref (u_3 21), .ref (u_3 25), .ref (u_3 27), .int 0, .int 0, .int 36, .int 10])), (u_3 1, .inr (8, [.int 0, .ref (u_3 2), .ref (u_3 3), .ref (u_3 4)])), (u_3 2, .inl (gI g, 5, .inl (fun _ => 0))), (u_3 3, .inl (gI g, 5, .inl (fun _ => 0))), (u_3 4, .inl (gI g, 5, .inl (fun _ => 0))), (u_3 5, .inr (1, [.int 0, .ref (u_3 6), .ref (u_3 7), .int 0])), (u_3 6, .inl (gI g, 7, .inl (fun _ => 0))), (u_3 7, .inl (gI g, 7, .inl (fun _ => 0))), (u_3 8, .inr (0, [.int 0, .ref (u_3 9), .ref (u_3 10), .ref (u_3 11), .ref (u_3 12), .ref (u_3 13), .ref (u_3 14), .ref (u_3 15), .int 0, .int 0, .int 0, .ref (u_3 16)])), (u_3 9, .inl (gI g, 10, .inl (fun _ => 0))), (u_3 10, .inl (gI g, 10, .inl (fun _ => 0))), (u_3 11, .inl (gI g, 10, .inl (fun _ => 0))), (u_3 12, .inl (gI g, 10, .inl (fun _ => 0))), (u_3 13, .inl (gI g, 10, .inl (fun _ => 0))), (u_3 14, .inl (gI g, 10, .inl (fun _ => 0))), (u_3 15, .inl (gI g, 10, .inl (fun _ => 0))), (u_3 16, .inl (gI g, 10, .inl (fun _ => 0))), (u_3 17, .inr (3, [.int 0, .ref (u_3 18), .ref (u_3 19), .ref (u_3 20)])), (u_3 18, .inl (gI g, 40, .inl (fun _ => 0))), (u_3 19, .inl (gI g, 40, .inl (fun _ => 0))), (u_3 20, .inl (gI g, 40, .inl (fun _ => 0))), (u_3 21, .inr (3, [.int 0, .ref (u_3 22), .ref (u_3 23), .ref (u_3 24)])), (u_3 22, .inl (gI g, 40, .inl (fun _ => 0))), (u_3 23, .inl (gI g, 40, .inl (fun _ => 0))), (u_3 24, .inl (gI g, 40, .inl (fun _ => 0))), (u_3 25, .inr (6, [.int 0, .int 0, .ref (u_3 26)])), (u_3 26, .inl (gI g, 14, .inl (fun _ => 0))), (u_3 27, .inl (gI g, 60, .inl (fun _ => 0)))]) hx hb hml hown hts hKW hP hD hS hA hl.1 (c_X2_init l g _ q_5 ) rfl wd_5_1 wd_1_18 nw_6 wd_5_0 yd_X2_init ⟨Nat.le_of_ble_eq_true rfl, Nat.le_of_ble_eq_true rfl⟩ rfl rfl rfl rfl rfl (by decide) rfl (Nat.le_of_ble_eq_true rfl) dX11_init_20 ⟨Nat.le_of_ble_eq_true rfl, Nat.le_of_ble_eq_true rfl⟩ (fun u_7 H locs hw_8 hP hD hS => ?_)
  have hP : va_P g.1 vwCl [(h, .inr (11, [.ref q_1, .null, .null, .null, .null, .null, .int 0])), (q_1, .inr (4, [.ref (u_3 1), .ref (u_3 5), .ref (u_3 8), .ref (u_3 17), .ref (u_3 21), .ref (u_3 25), .ref (u_3 27), .int 0, .int 0, .int 36, .int 10])), (u_3 1, .inr (8, [.int 0, .ref (u_3 2), .ref (u_3 3), .ref (u_3 4)])), (u_3 2, .inl (gI g, 5, .inl (fun _ => 0))), (u_3 3, .inl (gI g, 5, .inl (fun _ => 0))), (u_3 4, .inl (gI g, 5, .inl (fun _ => 0))), (u_3 5, .inr (1, [.int 0, .ref (u_3 6), .ref (u_3 7), .int 0])), (u_3 6, .inl (gI g, 7, .inl (fun _ => 0))), (u_3 7, .inl (gI g, 7, .inl (fun _ => 0))), (u_3 8, .inr (0, [.int 0, .ref (u_3 9), .ref (u_3 10), .ref (u_3 11), .ref (u_3 12), .ref (u_3 13), .ref (u_3 14), .ref (u_3 15), .int 0, .int 0, .int 0, .ref (u_3 16)])), (u_3 9, .inl (gI g, 10, .inl (fun _ => 0))), (u_3 10, .inl (gI g, 10, .inl (fun _ => 0))), (u_3 11, .inl (gI g, 10, .inl (fun _ => 0))), (u_3 12, .inl (gI g, 10, .inl (fun _ => 0))), (u_3 13, .inl (gI g, 10, .inl (fun _ => 0))), (u_3 14, .inl (gI g, 10, .inl (fun _ => 0))), (u_3 15, .inl (gI g, 10, .inl (fun _ => 0))), (u_3 16, .inl (gI g, 10, .inl (fun _ => 0))), (u_3 17, .inr (3, [.int 0, .ref (u_3 18), .ref (u_3 19), .ref (u_3 20)])), (u_3 18, .inl (gI g, 40, .inl (fun _ => 0))), (u_3 19, .inl (gI g, 40, .inl (fun _ => 0))), (u_3 20, .inl (gI g, 40, .inl (fun _ => 0))), (u_3 21, .inr (3, [.int 0, .ref (u_3 22), .ref (u_3 23), .ref (u_3 24)])), (u_3 22, .inl (gI g, 40, .inl (fun _ => 0))), (u_3 23, .inl (gI g, 40, .inl (fun _ => 0))), (u_3 24, .inl (gI g, 40, .inl (fun _ => 0))), (u_3 25, .inr (6, [.int 0, .int 0, .ref (u_3 26)])), (u_3 26, .inl (gI g, 14, .inl (fun _ => 0))), (u_3 27, .inl (gI g, 60, .inl (fun _ => 0))), (q_5, .inr (2, [.int 0, .int 0, .ref (u_7 1)])), (u_7 1, .inl (gN g, 16, .inr (.inr (.inr (.inr (fun _ => none))))))] H := hP
  have hD : va_D A [(h, .inr (11, [.ref q_1, .null, .null, .null, .null, .null, .int 0])), (q_1, .inr (4, [.ref (u_3 1), .ref (u_3 5), .ref (u_3 8), .ref (u_3 17), .ref (u_3 21), .ref (u_3 25), .ref (u_3 27), .int 0, .int 0, .int 36, .int 10])), (u_3 1, .inr (8, [.int 0, .ref (u_3 2), .ref (u_3 3), .ref (u_3 4)])), (u_3 2, .inl (gI g, 5, .inl (fun _ => 0))), (u_3 3, .inl (gI g, 5, .inl (fun _ => 0))), (u_3 4, .inl (gI g, 5, .inl (fun _ => 0))), (u_3 5, .inr (1, [.int 0, .ref (u_3 6), .ref (u_3 7), .int 0])), (u_3 6, .inl (gI g, 7, .inl (fun _ => 0))), (u_3 7, .inl (gI g, 7, .inl (fun _ => 0))), (u_3 8, .inr (0, [.int 0, .ref (u_3 9), .ref (u_3 10), .ref (u_3 11), .ref (u_3 12), .ref (u_3 13), .ref (u_3 14), .ref (u_3 15), .int 0, .int 0, .int 0, .ref (u_3 16)])), (u_3 9, .inl (gI g, 10, .inl (fun _ => 0))), (u_3 10, .inl (gI g, 10, .inl (fun _ => 0))), (u_3 11, .inl (gI g, 10, .inl (fun _ => 0))), (u_3 12, .inl (gI g, 10, .inl (fun _ => 0))), (u_3 13, .inl (gI g, 10, .inl (fun _ => 0))), (u_3 14, .inl (gI g, 10, .inl (fun _ => 0))), (u_3 15, .inl (gI g, 10, .inl (fun _ => 0))), (u_3 16, .inl (gI g, 10, .inl (fun _ => 0))), (u_3 17, .inr (3, [.int 0, .ref (u_3 18), .ref (u_3 19), .ref (u_3 20)])), (u_3 18, .inl (gI g, 40, .inl (fun _ => 0))), (u_3 19, .inl (gI g, 40, .inl (fun _ => 0))), (u_3 20, .inl (gI g, 40, .inl (fun _ => 0))), (u_3 21, .inr (3, [.int 0, .ref (u_3 22), .ref (u_3 23), .ref (u_3 24)])), (u_3 22, .inl (gI g, 40, .inl (fun _ => 0))), (u_3 23, .inl (gI g, 40, .inl (fun _ => 0))), (u_3 24, .inl (gI g, 40, .inl (fun _ => 0))), (u_3 25, .inr (6, [.int 0, .int 0, .ref (u_3 26)])), (u_3 26, .inl (gI g, 14, .inl (fun _ => 0))), (u_3 27, .inl (gI g, 60, .inl (fun _ => 0))), (q_5, .inr (2, [.int 0, .int 0, .ref (u_7 1)])), (u_7 1, .inl (gN g, 16, .inr (.inr (.inr (.inr (fun _ => none))))))] := hD
  refine W.widen (k := 30) (n := 484) (Nat.le_of_ble_eq_true rfl) (Nat.le_of_ble_eq_true rfl) ?_
  refine va_putF (ci := 11) (v := .ref q_5) (C := RX11) (T := TX11) (N := 7) hx hb hts inlX11 tyX11 tyX11_ok nmX11 hown hKW.1 hP hD hS 0 rfl rfl 1 (by decide) (hts _ wd_1_19) (fun _ h => h) rfl hnm rfl (tyX11_ok 1 (by decide)) rfl rfl (Nat.le_of_ble_eq_true rfl) dX11_init_23 (fun H locs hP hD hS => ?_)
  have hP : va_P g.1 vwCl [(h, .inr (11, [.ref q_1, .ref q_5, .null, .null, .null, .null, .int 0])), (q_1, .inr (4, [.ref (u_3 1), .ref (u_3 5), .ref (u_3 8), .ref (u_3 17), .ref (u_3 21), .ref (u_3 25), .ref (u_3 27), .int 0, .int 0, .int 36, .int 10])), (u_3 1, .inr (8, [.int 0, .ref (u_3 2), .ref (u_3 3), .ref (u_3 4)])), (u_3 2, .inl (gI g, 5, .inl (fun _ => 0))), (u_3 3, .inl (gI g, 5, .inl (fun _ => 0))), (u_3 4, .inl (gI g, 5, .inl (fun _ => 0))), (u_3 5, .inr (1, [.int 0, .ref (u_3 6), .ref (u_3 7), .int 0])), (u_3 6, .inl (gI g, 7, .inl (fun _ => 0))), (u_3 7, .inl (gI g, 7, .inl (fun _ => 0))), (u_3 8, .inr (0, [.int 0, .ref (u_3 9), .ref (u_3 10), .ref (u_3 11), .ref (u_3 12), .ref (u_3 13), .ref (u_3 14), .ref (u_3 15), .int 0, .int 0, .int 0, .ref (u_3 16)])), (u_3 9, .inl (gI g, 10, .inl (fun _ => 0))), (u_3 10, .inl (gI g, 10, .inl (fun _ => 0))), (u_3 11, .inl (gI g, 10, .inl (fun _ => 0))), (u_3 12, .inl (gI g, 10, .inl (fun _ => 0))), (u_3 13, .inl (gI g, 10, .inl (fun _ => 0))), (u_3 14, .inl (gI g, 10, .inl (fun _ => 0))), (u_3 15, .inl (gI g, 10, .inl (fun _ => 0))), (u_3 16, .inl (gI g, 10, .inl (fun _ => 0))), (u_3 17, .inr (3, [.int 0, .ref (u_3 18), .ref (u_3 19), .ref (u_3 20)])), (u_3 18, .inl (gI g, 40, .inl (fun _ => 0))), (u_3 19, .inl (gI g, 40, .inl (fun _ => 0))), (u_3 20, .inl (gI g, 40, .inl (fun _ => 0))), (u_3 21, .inr (3, [.int 0, .ref (u_3 22), .ref (u_3 23), .ref (u_3 24)])), (u_3 22, .inl (gI g, 40, .inl (fun _ => 0))), (u_3 23, .inl (gI g, 40, .inl (fun _ => 0))), (u_3 24, .inl (gI g, 40, .inl (fun _ => 0))), (u_3 25, .inr (6, [.int 0, .int 0, .ref (u_3 26)])), (u_3 26, .inl (gI g, 14, .inl (fun _ => 0))), (u_3 27, .inl (gI g, 60, .inl (fun _ => 0))), (q_5, .inr (2, [.int 0, .int 0, .ref (u_7 1)])), (u_7 1, .inl (gN g, 16, .inr (.inr (.inr (.inr (fun _ => none))))))] H := hP
  have hD : va_D A [(h, .inr (11, [.ref q_1, .ref q_5, .null, .null, .null, .null, .int 0])), (q_1, .inr (4, [.ref (u_3 1), .ref (u_3 5), .ref (u_3 8), .ref (u_3 17), .ref (u_3 21), .ref (u_3 25), .ref (u_3 27), .int 0, .int 0, .int 36, .int 10])), (u_3 1, .inr (8, [.int 0, .ref (u_3 2), .ref (u_3 3), .ref (u_3 4)])), (u_3 2, .inl (gI g, 5, .inl (fun _ => 0))), (u_3 3, .inl (gI g, 5, .inl (fun _ => 0))), (u_3 4, .inl (gI g, 5, .inl (fun _ => 0))), (u_3 5, .inr (1, [.int 0, .ref (u_3 6), .ref (u_3 7), .int 0])), (u_3 6, .inl (gI g, 7, .inl (fun _ => 0))), (u_3 7, .inl (gI g, 7, .inl (fun _ => 0))), (u_3 8, .inr (0, [.int 0, .ref (u_3 9), .ref (u_3 10), .ref (u_3 11), .ref (u_3 12), .ref (u_3 13), .ref (u_3 14), .ref (u_3 15), .int 0, .int 0, .int 0, .ref (u_3 16)])), (u_3 9, .inl (gI g, 10, .inl (fun _ => 0))), (u_3 10, .inl (gI g, 10, .inl (fun _ => 0))), (u_3 11, .inl (gI g, 10, .inl (fun _ => 0))), (u_3 12, .inl (gI g, 10, .inl (fun _ => 0))), (u_3 13, .inl (gI g, 10, .inl (fun _ => 0))), (u_3 14, .inl (gI g, 10, .inl (fun _ => 0))), (u_3 15, .inl (gI g, 10, .inl (fun _ => 0))), (u_3 16, .inl (gI g, 10, .inl (fun _ => 0))), (u_3 17, .inr (3, [.int 0, .ref (u_3 18), .ref (u_3 19), .ref (u_3 20)])), (u_3 18, .inl (gI g, 40, .inl (fun _ => 0))), (u_3 19, .inl (gI g, 40, .inl (fun _ => 0))), (u_3 20, .inl (gI g, 40, .inl (fun _ => 0))), (u_3 21, .inr (3, [.int 0, .ref (u_3 22), .ref (u_3 23), .ref (u_3 24)])), (u_3 22, .inl (gI g, 40, .inl (fun _ => 0))), (u_3 23, .inl (gI g, 40, .inl (fun _ => 0))), (u_3 24, .inl (gI g, 40, .inl (fun _ => 0))), (u_3 25, .inr (6, [.int 0, .int 0, .ref (u_3 26)])), (u_3 26, .inl (gI g, 14, .inl (fun _ => 0))), (u_3 27, .inl (gI g, 60, .inl (fun _ => 0))), (q_5, .inr (2, [.int 0, .int 0, .ref (u_7 1)])), (u_7 1, .inl (gN g, 16, .inr (.inr (.inr (.inr (fun _ => none))))))] := hD
  refine lv_aload_n hx hb dX11_init_26 rfl (lv_at hl 0 rfl) ?_
  refine va_new (ci := 7) (fs := [.null, .null]) (C := RX7) (T := TX7) (N := 2) hx hb hts inlX7 tyX7 tyX7_ok hown (hts _ wd_1_20) (hts _ wd_1_21) (hts _ wd_1_22) hKW.1 hP hD hS hA rfl (fun j hj => by rcases (show j = 0 ∨ j = 1 by omega) with rfl | rfl <;> rfl) (Nat.le_of_ble_eq_true rfl) (Nat.le_of_ble_eq_true rfl) dX11_init_27 (fun q_9 H hP hD hS => ?_)
  have hP : va_P g.1 vwCl [(h, .inr (11, [.ref q_1, .ref q_5, .null, .null, .null, .null, .int 0])), (q_1, .inr (4, [.ref (u_3 1), .ref (u_3 5), .ref (u_3 8), .ref (u_3 17), .ref (u_3 21), .ref (u_3 25), .ref (u_3 27), .int 0, .int 0, .int 36, .int 10])), (u_3 1, .inr (8, [.int 0, .ref (u_3 2), .ref (u_3 3), .ref (u_3 4)])), (u_3 2, .inl (gI g, 5, .inl (fun _ => 0))), (u_3 3, .inl (gI g, 5, .inl (fun _ => 0))), (u_3 4, .inl (gI g, 5, .inl (fun _ => 0))), (u_3 5, .inr (1, [.int 0, .ref (u_3 6), .ref (u_3 7), .int 0])), (u_3 6, .inl (gI g, 7, .inl (fun _ => 0))), (u_3 7, .inl (gI g, 7, .inl (fun _ => 0))), (u_3 8, .inr (0, [.int 0, .ref (u_3 9), .ref (u_3 10), .ref (u_3 11), .ref (u_3 12), .ref (u_3 13), .ref (u_3 14), .ref (u_3 15), .int 0, .int 0, .int 0, .ref (u_3 16)])), (u_3 9, .inl (gI g, 10, .inl (fun _ => 0))), (u_3 10, .inl (gI g, 10, .inl (fun _ => 0))), (u_3 11, .inl (gI g, 10, .inl (fun _ => 0))), (u_3 12, .inl (gI g, 10, .inl (fun _ => 0))), (u_3 13, .inl (gI g, 10, .inl (fun _ => 0))), (u_3 14, .inl (gI g, 10, .inl (fun _ => 0))), (u_3 15, .inl (gI g, 10, .inl (fun _ => 0))), (u_3 16, .inl (gI g, 10, .inl (fun _ => 0))), (u_3 17, .inr (3, [.int 0, .ref (u_3 18), .ref (u_3 19), .ref (u_3 20)])), (u_3 18, .inl (gI g, 40, .inl (fun _ => 0))), (u_3 19, .inl (gI g, 40, .inl (fun _ => 0))), (u_3 20, .inl (gI g, 40, .inl (fun _ => 0))), (u_3 21, .inr (3, [.int 0, .ref (u_3 22), .ref (u_3 23), .ref (u_3 24)])), (u_3 22, .inl (gI g, 40, .inl (fun _ => 0))), (u_3 23, .inl (gI g, 40, .inl (fun _ => 0))), (u_3 24, .inl (gI g, 40, .inl (fun _ => 0))), (u_3 25, .inr (6, [.int 0, .int 0, .ref (u_3 26)])), (u_3 26, .inl (gI g, 14, .inl (fun _ => 0))), (u_3 27, .inl (gI g, 60, .inl (fun _ => 0))), (q_5, .inr (2, [.int 0, .int 0, .ref (u_7 1)])), (u_7 1, .inl (gN g, 16, .inr (.inr (.inr (.inr (fun _ => none)))))), (q_9, .inr (7, [.null, .null]))] H := hP
  have hD : va_D A [(h, .inr (11, [.ref q_1, .ref q_5, .null, .null, .null, .null, .int 0])), (q_1, .inr (4, [.ref (u_3 1), .ref (u_3 5), .ref (u_3 8), .ref (u_3 17), .ref (u_3 21), .ref (u_3 25), .ref (u_3 27), .int 0, .int 0, .int 36, .int 10])), (u_3 1, .inr (8, [.int 0, .ref (u_3 2), .ref (u_3 3), .ref (u_3 4)])), (u_3 2, .inl (gI g, 5, .inl (fun _ => 0))), (u_3 3, .inl (gI g, 5, .inl (fun _ => 0))), (u_3 4, .inl (gI g, 5, .inl (fun _ => 0))), (u_3 5, .inr (1, [.int 0, .ref (u_3 6), .ref (u_3 7), .int 0])), (u_3 6, .inl (gI g, 7, .inl (fun _ => 0))), (u_3 7, .inl (gI g, 7, .inl (fun _ => 0))), (u_3 8, .inr (0, [.int 0, .ref (u_3 9), .ref (u_3 10), .ref (u_3 11), .ref (u_3 12), .ref (u_3 13), .ref (u_3 14), .ref (u_3 15), .int 0, .int 0, .int 0, .ref (u_3 16)])), (u_3 9, .inl (gI g, 10, .inl (fun _ => 0))), (u_3 10, .inl (gI g, 10, .inl (fun _ => 0))), (u_3 11, .inl (gI g, 10, .inl (fun _ => 0))), (u_3 12, .inl (gI g, 10, .inl (fun _ => 0))), (u_3 13, .inl (gI g, 10, .inl (fun _ => 0))), (u_3 14, .inl (gI g, 10, .inl (fun _ => 0))), (u_3 15, .inl (gI g, 10, .inl (fun _ => 0))), (u_3 16, .inl (gI g, 10, .inl (fun _ => 0))), (u_3 17, .inr (3, [.int 0, .ref (u_3 18), .ref (u_3 19), .ref (u_3 20)])), (u_3 18, .inl (gI g, 40, .inl (fun _ => 0))), (u_3 19, .inl (gI g, 40, .inl (fun _ => 0))), (u_3 20, .inl (gI g, 40, .inl (fun _ => 0))), (u_3 21, .inr (3, [.int 0, .ref (u_3 22), .ref (u_3 23), .ref (u_3 24)])), (u_3 22, .inl (gI g, 40, .inl (fun _ => 0))), (u_3 23, .inl (gI g, 40, .inl (fun _ => 0))), (u_3 24, .inl (gI g, 40, .inl (fun _ => 0))), (u_3 25, .inr (6, [.int 0, .int 0, .ref (u_3 26)])), (u_3 26, .inl (gI g, 14, .inl (fun _ => 0))), (u_3 27, .inl (gI g, 60, .inl (fun _ => 0))), (q_5, .inr (2, [.int 0, .int 0, .ref (u_7 1)])), (u_7 1, .inl (gN g, 16, .inr (.inr (.inr (.inr (fun _ => none)))))), (q_9, .inr (7, [.null, .null]))] := hD
  refine W.widen (k := 31) (n := 486) (Nat.le_of_ble_eq_true rfl) (Nat.le_of_ble_eq_true rfl) ?_
  refine lv_dup hx hb dX11_init_30 rfl ?_
  refine k_IN [31] [0, 1, 2, 3, 4, 5, 6, 7, 8, 9, 10, 11, 12, 13, 14, 15, 16, 17, 18, 19, 20, 21, 22, 23, 24, 25, 26, 27, 28, 29, 30] (wr := [(h, .inr (11, [.ref q_1, .ref q_5, .null, .null, .null, .null, .int 0])), (q_1, .inr (4, [.ref (u_3 1), .ref (u_3 5), .ref (u_3 8), .ref (u_3 17), .ref (u_3 21), .ref (u_3 25), .ref (u_3 27), .int 0, .int 0, .int 36, .int 10])), (u_3 1, .inr (8, [.int 0, .ref (u_3 2), .ref (u_3 3), .ref (u_3 4)])), (u_3 2, .inl (gI g, 5, .inl (fun _ => 0))), (u_3 3, .inl (gI g, 5, .inl (fun _ => 0))), (u_3 4, .inl (gI g, 5, .inl (fun _ => 0))), (u_3 5, .inr (1, [.int 0, .ref (u_3 6), .ref (u_3 7), .int 0])), (u_3 6, .inl (gI g, 7, .inl (fun _ => 0))), (u_3 7, .inl (gI g, 7, .inl (fun _ => 0))), (u_3 8, .inr (0, [.int 0, .ref (u_3 9), .ref (u_3 10), .ref (u_3 11), .ref (u_3 12), .ref (u_3 13), .ref (u_3 14), .ref (u_3 15), .int 0, .int 0, .int 0, .ref (u_3 16)])), (u_3 9, .inl (gI g, 10, .inl (fun _ => 0))), (u_3 10, .inl (gI g, 10, .inl (fun _ => 0))), (u_3 11, .inl (gI g, 10, .inl (fun _ => 0))), (u_3 12, .inl (gI g, 10, .inl (fun _ => 0))), (u_3 13, .inl (gI g, 10, .inl (fun _ => 0))), (u_3 14, .inl (gI g, 10, .inl (fun _ => 0))), (u_3 15, .inl (gI g, 10, .inl (fun _ => 0))), (u_3 16, .inl (gI g, 10, .inl (fun _ => 0))), (u_3 17, .inr (3, [.int 0, .ref (u_3 18), .ref (u_3 19), .ref (u_3 20)])), (u_3 18, .inl (gI g, 40, .inl (fun _ => 0))), (u_3 19, .inl (gI g, 40, .inl (fun _ => 0))), (u_3 20, .inl (gI g, 40, .inl (fun _ => 0))), (u_3 21, .inr (3, [.int 0, .ref (u_3 22), .ref (u_3 23), .ref (u_3 24)])), (u_3 22, .inl (gI g, 40, .inl (fun _ => 0))), (u_3 23, .inl (gI g, 40, .inl (fun _ => 0))), (u_3 24, .inl (gI g, 40, .inl (fun _ => 0))), (u_3 25, .inr (6, [.int 0, .int 0, .ref (u_3 26)])), (u_3 26, .inl (gI g, 14, .inl (fun _ => 0))), (u_3 27, .inl (gI g, 60, .inl (fun _ => 0))), (q_5, .inr (2, [.int 0, .int 0, .ref (u_7 1)])), (u_7 1, .inl (gN g, 16, .inr (.inr (.inr (.inr (fun _ => none))))))]) hx hb hml hown hts hKW hP hD hS hA hl.1 (c_X7_init l g _ q_9 ) rfl wd_5_6 wd_1_22 nw_7 wd_5_5 yd_X7_init ⟨Nat.le_of_ble_eq_true rfl, Nat.le_of_ble_eq_true rfl⟩ rfl rfl rfl rfl rfl (by decide) rfl (Nat.le_of_ble_eq_true rfl) dX11_init_31 ⟨Nat.le_of_ble_eq_true rfl, Nat.le_of_ble_eq_true rfl⟩ (fun u_11 H locs hw_12 hP hD hS => ?_)
  have hP : va_P g.1 vwCl [(h, .inr (11, [.ref q_1, .ref q_5, .null, .null, .null, .null, .int 0])), (q_1, .inr (4, [.ref (u_3 1), .ref (u_3 5), .ref (u_3 8), .ref (u_3 17), .ref (u_3 21), .ref (u_3 25), .ref (u_3 27), .int 0, .int 0, .int 36, .int 10])), (u_3 1, .inr (8, [.int 0, .ref (u_3 2), .ref (u_3 3), .ref (u_3 4)])), (u_3 2, .inl (gI g, 5, .inl (fun _ => 0))), (u_3 3, .inl (gI g, 5, .inl (fun _ => 0))), (u_3 4, .inl (gI g, 5, .inl (fun _ => 0))), (u_3 5, .inr (1, [.int 0, .ref (u_3 6), .ref (u_3 7), .int 0])), (u_3 6, .inl (gI g, 7, .inl (fun _ => 0))), (u_3 7, .inl (gI g, 7, .inl (fun _ => 0))), (u_3 8, .inr (0, [.int 0, .ref (u_3 9), .ref (u_3 10), .ref (u_3 11), .ref (u_3 12), .ref (u_3 13), .ref (u_3 14), .ref (u_3 15), .int 0, .int 0, .int 0, .ref (u_3 16)])), (u_3 9, .inl (gI g, 10, .inl (fun _ => 0))), (u_3 10, .inl (gI g, 10, .inl (fun _ => 0))), (u_3 11, .inl (gI g, 10, .inl (fun _ => 0))), (u_3 12, .inl (gI g, 10, .inl (fun _ => 0))), (u_3 13, .inl (gI g, 10, .inl (fun _ => 0))), (u_3 14, .inl (gI g, 10, .inl (fun _ => 0))), (u_3 15, .inl (gI g, 10, .inl (fun _ => 0))), (u_3 16, .inl (gI g, 10, .inl (fun _ => 0))), (u_3 17, .inr (3, [.int 0, .ref (u_3 18), .ref (u_3 19), .ref (u_3 20)])), (u_3 18, .inl (gI g, 40, .inl (fun _ => 0))), (u_3 19, .inl (gI g, 40, .inl (fun _ => 0))), (u_3 20, .inl (gI g, 40, .inl (fun _ => 0))), (u_3 21, .inr (3, [.int 0, .ref (u_3 22), .ref (u_3 23), .ref (u_3 24)])), (u_3 22, .inl (gI g, 40, .inl (fun _ => 0))), (u_3 23, .inl (gI g, 40, .inl (fun _ => 0))), (u_3 24, .inl (gI g, 40, .inl (fun _ => 0))), (u_3 25, .inr (6, [.int 0, .int 0, .ref (u_3 26)])), (u_3 26, .inl (gI g, 14, .inl (fun _ => 0))), (u_3 27, .inl (gI g, 60, .inl (fun _ => 0))), (q_5, .inr (2, [.int 0, .int 0, .ref (u_7 1)])), (u_7 1, .inl (gN g, 16, .inr (.inr (.inr (.inr (fun _ => none)))))), (q_9, .inr (7, [.ref (u_11 1), .ref (u_11 2)])), (u_11 1, .inl (gI g, 7, .inl (fun _ => 0))), (u_11 2, .inl (gJ g, 5, .inr (.inl (fun _ => 0))))] H := hP
  have hD : va_D A [(h, .inr (11, [.ref q_1, .ref q_5, .null, .null, .null, .null, .int 0])), (q_1, .inr (4, [.ref (u_3 1), .ref (u_3 5), .ref (u_3 8), .ref (u_3 17), .ref (u_3 21), .ref (u_3 25), .ref (u_3 27), .int 0, .int 0, .int 36, .int 10])), (u_3 1, .inr (8, [.int 0, .ref (u_3 2), .ref (u_3 3), .ref (u_3 4)])), (u_3 2, .inl (gI g, 5, .inl (fun _ => 0))), (u_3 3, .inl (gI g, 5, .inl (fun _ => 0))), (u_3 4, .inl (gI g, 5, .inl (fun _ => 0))), (u_3 5, .inr (1, [.int 0, .ref (u_3 6), .ref (u_3 7), .int 0])), (u_3 6, .inl (gI g, 7, .inl (fun _ => 0))), (u_3 7, .inl (gI g, 7, .inl (fun _ => 0))), (u_3 8, .inr (0, [.int 0, .ref (u_3 9), .ref (u_3 10), .ref (u_3 11), .ref (u_3 12), .ref (u_3 13), .ref (u_3 14), .ref (u_3 15), .int 0, .int 0, .int 0, .ref (u_3 16)])), (u_3 9, .inl (gI g, 10, .inl (fun _ => 0))), (u_3 10, .inl (gI g, 10, .inl (fun _ => 0))), (u_3 11, .inl (gI g, 10, .inl (fun _ => 0))), (u_3 12, .inl (gI g, 10, .inl (fun _ => 0))), (u_3 13, .inl (gI g, 10, .inl (fun _ => 0))), (u_3 14, .inl (gI g, 10, .inl (fun _ => 0))), (u_3 15, .inl (gI g, 10, .inl (fun _ => 0))), (u_3 16, .inl (gI g, 10, .inl (fun _ => 0))), (u_3 17, .inr (3, [.int 0, .ref (u_3 18), .ref (u_3 19), .ref (u_3 20)])), (u_3 18, .inl (gI g, 40, .inl (fun _ => 0))), (u_3 19, .inl (gI g, 40, .inl (fun _ => 0))), (u_3 20, .inl (gI g, 40, .inl (fun _ => 0))), (u_3 21, .inr (3, [.int 0, .ref (u_3 22), .ref (u_3 23), .ref (u_3 24)])), (u_3 22, .inl (gI g, 40, .inl (fun _ => 0))), (u_3 23, .inl (gI g, 40, .inl (fun _ => 0))), (u_3 24, .inl (gI g, 40, .inl (fun _ => 0))), (u_3 25, .inr (6, [.int 0, .int 0, .ref (u_3 26)])), (u_3 26, .inl (gI g, 14, .inl (fun _ => 0))), (u_3 27, .inl (gI g, 60, .inl (fun _ => 0))), (q_5, .inr (2, [.int 0, .int 0, .ref (u_7 1)])), (u_7 1, .inl (gN g, 16, .inr (.inr (.inr (.inr (fun _ => none)))))), (q_9, .inr (7, [.ref (u_11 1), .ref (u_11 2)])), (u_11 1, .inl (gI g, 7, .inl (fun _ => 0))), (u_11 2, .inl (gJ g, 5, .inr (.inl (fun _ => 0))))] := hD
  refine W.widen (k := 33) (n := 498) (Nat.le_of_ble_eq_true rfl) (Nat.le_of_ble_eq_true rfl) ?_
  refine va_putF (ci := 11) (v := .ref q_9) (C := RX11) (T := TX11) (N := 7) hx hb hts inlX11 tyX11 tyX11_ok nmX11 hown hKW.1 hP hD hS 0 rfl rfl 2 (by decide) (hts _ wd_1_23) (fun _ h => h) rfl hnm rfl (tyX11_ok 2 (by decide)) rfl rfl (Nat.le_of_ble_eq_true rfl) dX11_init_34 (fun H locs hP hD hS => ?_)
  have hP : va_P g.1 vwCl [(h, .inr (11, [.ref q_1, .ref q_5, .ref q_9, .null, .null, .null, .int 0])), (q_1, .inr (4, [.ref (u_3 1), .ref (u_3 5), .ref (u_3 8), .ref (u_3 17), .ref (u_3 21), .ref (u_3 25), .ref (u_3 27), .int 0, .int 0, .int 36, .int 10])), (u_3 1, .inr (8, [.int 0, .ref (u_3 2), .ref (u_3 3), .ref (u_3 4)])), (u_3 2, .inl (gI g, 5, .inl (fun _ => 0))), (u_3 3, .inl (gI g, 5, .inl (fun _ => 0))), (u_3 4, .inl (gI g, 5, .inl (fun _ => 0))), (u_3 5, .inr (1, [.int 0, .ref (u_3 6), .ref (u_3 7), .int 0])), (u_3 6, .inl (gI g, 7, .inl (fun _ => 0))), (u_3 7, .inl (gI g, 7, .inl (fun _ => 0))), (u_3 8, .inr (0, [.int 0, .ref (u_3 9), .ref (u_3 10), .ref (u_3 11), .ref (u_3 12), .ref (u_3 13), .ref (u_3 14), .ref (u_3 15), .int 0, .int 0, .int 0, .ref (u_3 16)])), (u_3 9, .inl (gI g, 10, .inl (fun _ => 0))), (u_3 10, .inl (gI g, 10, .inl (fun _ => 0))), (u_3 11, .inl (gI g, 10, .inl (fun _ => 0))), (u_3 12, .inl (gI g, 10, .inl (fun _ => 0))), (u_3 13, .inl (gI g, 10, .inl (fun _ => 0))), (u_3 14, .inl (gI g, 10, .inl (fun _ => 0))), (u_3 15, .inl (gI g, 10, .inl (fun _ => 0))), (u_3 16, .inl (gI g, 10, .inl (fun _ => 0))), (u_3 17, .inr (3, [.int 0, .ref (u_3 18), .ref (u_3 19), .ref (u_3 20)])), (u_3 18, .inl (gI g, 40, .inl (fun _ => 0))), (u_3 19, .inl (gI g, 40, .inl (fun _ => 0))), (u_3 20, .inl (gI g, 40, .inl (fun _ => 0))), (u_3 21, .inr (3, [.int 0, .ref (u_3 22), .ref (u_3 23), .ref (u_3 24)])), (u_3 22, .inl (gI g, 40, .inl (fun _ => 0))), (u_3 23, .inl (gI g, 40, .inl (fun _ => 0))), (u_3 24, .inl (gI g, 40, .inl (fun _ => 0))), (u_3 25, .inr (6, [.int 0, .int 0, .ref (u_3 26)])), (u_3 26, .inl (gI g, 14, .inl (fun _ => 0))), (u_3 27, .inl (gI g, 60, .inl (fun _ => 0))), (q_5, .inr (2, [.int 0, .int 0, .ref (u_7 1)])), (u_7 1, .inl (gN g, 16, .inr (.inr (.inr (.inr (fun _ => none)))))), (q_9, .inr (7, [.ref (u_11 1), .ref (u_11 2)])), (u_11 1, .inl (gI g, 7, .inl (fun _ => 0))), (u_11 2, .inl (gJ g, 5, .inr (.inl (fun _ => 0))))] H := hP
  have hD : va_D A [(h, .inr (11, [.ref q_1, .ref q_5, .ref q_9, .null, .null, .null, .int 0])), (q_1, .inr (4, [.ref (u_3 1), .ref (u_3 5), .ref (u_3 8), .ref (u_3 17), .ref (u_3 21), .ref (u_3 25), .ref (u_3 27), .int 0, .int 0, .int 36, .int 10])), (u_3 1, .inr (8, [.int 0, .ref (u_3 2), .ref (u_3 3), .ref (u_3 4)])), (u_3 2, .inl (gI g, 5, .inl (fun _ => 0))), (u_3 3, .inl (gI g, 5, .inl (fun _ => 0))), (u_3 4, .inl (gI g, 5, .inl (fun _ => 0))), (u_3 5, .inr (1, [.int 0, .ref (u_3 6), .ref (u_3 7), .int 0])), (u_3 6, .inl (gI g, 7, .inl (fun _ => 0))), (u_3 7, .inl (gI g, 7, .inl (fun _ => 0))), (u_3 8, .inr (0, [.int 0, .ref (u_3 9), .ref (u_3 10), .ref (u_3 11), .ref (u_3 12), .ref (u_3 13), .ref (u_3 14), .ref (u_3 15), .int 0, .int 0, .int 0, .ref (u_3 16)])), (u_3 9, .inl (gI g, 10, .inl (fun _ => 0))), (u_3 10, .inl (gI g, 10, .inl (fun _ => 0))), (u_3 11, .inl (gI g, 10, .inl (fun _ => 0))), (u_3 12, .inl (gI g, 10, .inl (fun _ => 0))), (u_3 13, .inl (gI g, 10, .inl (fun _ => 0))), (u_3 14, .inl (gI g, 10, .inl (fun _ => 0))), (u_3 15, .inl (gI g, 10, .inl (fun _ => 0))), (u_3 16, .inl (gI g, 10, .inl (fun _ => 0))), (u_3 17, .inr (3, [.int 0, .ref (u_3 18), .ref (u_3 19), .ref (u_3 20)])), (u_3 18, .inl (gI g, 40, .inl (fun _ => 0))), (u_3 19, .inl (gI g, 40, .inl (fun _ => 0))), (u_3 20, .inl (gI g, 40, .inl (fun _ => 0))), (u_3 21, .inr (3, [.int 0, .ref (u_3 22), .ref (u_3 23), .ref (u_3 24)])), (u_3 22, .inl (gI g, 40, .inl (fun _ => 0))), (u_3 23, .inl (gI g, 40, .inl (fun _ => 0))), (u_3 24, .inl (gI g, 40, .inl (fun _ => 0))), (u_3 25, .inr (6, [.int 0, .int 0, .ref (u_3 26)])), (u_3 26, .inl (gI g, 14, .inl (fun _ => 0))), (u_3 27, .inl (gI g, 60, .inl (fun _ => 0))), (q_5, .inr (2, [.int 0, .int 0, .ref (u_7 1)])), (u_7 1, .inl (gN g, 16, .inr (.inr (.inr (.inr (fun _ => none)))))), (q_9, .inr (7, [.ref (u_11 1), .ref (u_11 2)])), (u_11 1, .inl (gI g, 7, .inl (fun _ => 0))), (u_11 2, .inl (gJ g, 5, .inr (.inl (fun _ => 0))))] := hD
  refine lv_aload_n hx hb dX11_init_37 rfl (lv_at hl 0 rfl) ?_
  refine va_new (ci := 5) (fs := [.null, .null, .null, .int 0, .int 0]) (C := RX5) (T := TX5) (N := 5) hx hb hts inlX5 tyX5 tyX5_ok hown (hts _ wd_2_0) (hts _ wd_2_1) (hts _ wd_2_2) hKW.1 hP hD hS hA rfl (fun j hj => by rcases (show j = 0 ∨ j = 1 ∨ j = 2 ∨ j = 3 ∨ j = 4 by omega) with rfl | rfl | rfl | rfl | rfl <;> rfl) (Nat.le_of_ble_eq_true rfl) (Nat.le_of_ble_eq_true rfl) dX11_init_38 (fun q_13 H hP hD hS => ?_)
  have hP : va_P g.1 vwCl [(h, .inr (11, [.ref q_1, .ref q_5, .ref q_9, .null, .null, .null, .int 0])), (q_1, .inr (4, [.ref (u_3 1), .ref (u_3 5), .ref (u_3 8), .ref (u_3 17), .ref (u_3 21), .ref (u_3 25), .ref (u_3 27), .int 0, .int 0, .int 36, .int 10])), (u_3 1, .inr (8, [.int 0, .ref (u_3 2), .ref (u_3 3), .ref (u_3 4)])), (u_3 2, .inl (gI g, 5, .inl (fun _ => 0))), (u_3 3, .inl (gI g, 5, .inl (fun _ => 0))), (u_3 4, .inl (gI g, 5, .inl (fun _ => 0))), (u_3 5, .inr (1, [.int 0, .ref (u_3 6), .ref (u_3 7), .int 0])), (u_3 6, .inl (gI g, 7, .inl (fun _ => 0))), (u_3 7, .inl (gI g, 7, .inl (fun _ => 0))), (u_3 8, .inr (0, [.int 0, .ref (u_3 9), .ref (u_3 10), .ref (u_3 11), .ref (u_3 12), .ref (u_3 13), .ref (u_3 14), .ref (u_3 15), .int 0, .int 0, .int 0, .ref (u_3 16)])), (u_3 9, .inl (gI g, 10, .inl (fun _ => 0))), (u_3 10, .inl (gI g, 10, .inl (fun _ => 0))), (u_3 11, .inl (gI g, 10, .inl (fun _ => 0))), (u_3 12, .inl (gI g, 10, .inl (fun _ => 0))), (u_3 13, .inl (gI g, 10, .inl (fun _ => 0))), (u_3 14, .inl (gI g, 10, .inl (fun _ => 0))), (u_3 15, .inl (gI g, 10, .inl (fun _ => 0))), (u_3 16, .inl (gI g, 10, .inl (fun _ => 0))), (u_3 17, .inr (3, [.int 0, .ref (u_3 18), .ref (u_3 19), .ref (u_3 20)])), (u_3 18, .inl (gI g, 40, .inl (fun _ => 0))), (u_3 19, .inl (gI g, 40, .inl (fun _ => 0))), (u_3 20, .inl (gI g, 40, .inl (fun _ => 0))), (u_3 21, .inr (3, [.int 0, .ref (u_3 22), .ref (u_3 23), .ref (u_3 24)])), (u_3 22, .inl (gI g, 40, .inl (fun _ => 0))), (u_3 23, .inl (gI g, 40, .inl (fun _ => 0))), (u_3 24, .inl (gI g, 40, .inl (fun _ => 0))), (u_3 25, .inr (6, [.int 0, .int 0, .ref (u_3 26)])), (u_3 26, .inl (gI g, 14, .inl (fun _ => 0))), (u_3 27, .inl (gI g, 60, .inl (fun _ => 0))), (q_5, .inr (2, [.int 0, .int 0, .ref (u_7 1)])), (u_7 1, .inl (gN g, 16, .inr (.inr (.inr (.inr (fun _ => none)))))), (q_9, .inr (7, [.ref (u_11 1), .ref (u_11 2)])), (u_11 1, .inl (gI g, 7, .inl (fun _ => 0))), (u_11 2, .inl (gJ g, 5, .inr (.inl (fun _ => 0)))), (q_13, .inr (5, [.null, .null, .null, .int 0, .int 0]))] H := hP
  have hD : va_D A [(h, .inr (11, [.ref q_1, .ref q_5, .ref q_9, .null, .null, .null, .int 0])), (q_1, .inr (4, [.ref (u_3 1), .ref (u_3 5), .ref (u_3 8), .ref (u_3 17), .ref (u_3 21), .ref (u_3 25), .ref (u_3 27), .int 0, .int 0, .int 36, .int 10])), (u_3 1, .inr (8, [.int 0, .ref (u_3 2), .ref (u_3 3), .ref (u_3 4)])), (u_3 2, .inl (gI g, 5, .inl (fun _ => 0))), (u_3 3, .inl (gI g, 5, .inl (fun _ => 0))), (u_3 4, .inl (gI g, 5, .inl (fun _ => 0))), (u_3 5, .inr (1, [.int 0, .ref (u_3 6), .ref (u_3 7), .int 0])), (u_3 6, .inl (gI g, 7, .inl (fun _ => 0))), (u_3 7, .inl (gI g, 7, .inl (fun _ => 0))), (u_3 8, .inr (0, [.int 0, .ref (u_3 9), .ref (u_3 10), .ref (u_3 11), .ref (u_3 12), .ref (u_3 13), .ref (u_3 14), .ref (u_3 15), .int 0, .int 0, .int 0, .ref (u_3 16)])), (u_3 9, .inl (gI g, 10, .inl (fun _ => 0))), (u_3 10, .inl (gI g, 10, .inl (fun _ => 0))), (u_3 11, .inl (gI g, 10, .inl (fun _ => 0))), (u_3 12, .inl (gI g, 10, .inl (fun _ => 0))), (u_3 13, .inl (gI g, 10, .inl (fun _ => 0))), (u_3 14, .inl (gI g, 10, .inl (fun _ => 0))), (u_3 15, .inl (gI g, 10, .inl (fun _ => 0))), (u_3 16, .inl (gI g, 10, .inl (fun _ => 0))), (u_3 17, .inr (3, [.int 0, .ref (u_3 18), .ref (u_3 19), .ref (u_3 20)])), (u_3 18, .inl (gI g, 40, .inl (fun _ => 0))), (u_3 19, .inl (gI g, 40, .inl (fun _ => 0))), (u_3 20, .inl (gI g, 40, .inl (fun _ => 0))), (u_3 21, .inr (3, [.int 0, .ref (u_3 22), .ref (u_3 23), .ref (u_3 24)])), (u_3 22, .inl (gI g, 40, .inl (fun _ => 0))), (u_3 23, .inl (gI g, 40, .inl (fun _ => 0))), (u_3 24, .inl (gI g, 40, .inl (fun _ => 0))), (u_3 25, .inr (6, [.int 0, .int 0, .ref (u_3 26)])), (u_3 26, .inl (gI g, 14, .inl (fun _ => 0))), (u_3 27, .inl (gI g, 60, .inl (fun _ => 0))), (q_5, .inr (2, [.int 0, .int 0, .ref (u_7 1)])), (u_7 1, .inl (gN g, 16, .inr (.inr (.inr (.inr (fun _ => none)))))), (q_9, .inr (7, [.ref (u_11 1), .ref (u_11 2)])), (u_11 1, .inl (gI g, 7, .inl (fun _ => 0))), (u_11 2, .inl (gJ g, 5, .inr (.inl (fun _ => 0)))), (q_13, .inr (5, [.null, .null, .null, .int 0, .int 0]))] := hD
  refine W.widen (k := 34) (n := 503) (Nat.le_of_ble_eq_true rfl) (Nat.le_of_ble_eq_true rfl) ?_
  refine lv_dup hx hb dX11_init_41 rfl ?_
  refine k_IN [34] [0, 1, 2, 3, 4, 5, 6, 7, 8, 9, 10, 11, 12, 13, 14, 15, 16, 17, 18, 19, 20, 21, 22, 23, 24, 25, 26, 27, 28, 29, 30, 31, 32, 33] (wr := [(h, .inr (11, [.ref q_1, .ref q_5, .ref q_9, .null, .null, .null, .int 0])), (q_1, .inr (4, [.ref (u_3 1), .ref (u_3 5), .ref (u_3 8), .ref (u_3 17), .ref (u_3 21), .ref (u_3 25), .ref (u_3 27), .int 0, .int 0, .int 36, .int 10])), (u_3 1, .inr (8, [.int 0, .ref (u_3 2), .ref (u_3 3), .ref (u_3 4)])), (u_3 2, .inl (gI g, 5, .inl (fun _ => 0))), (u_3 3, .inl (gI g, 5, .inl (fun _ => 0))), (u_3 4, .inl (gI g, 5, .inl (fun _ => 0))), (u_3 5, .inr (1, [.int 0, .ref (u_3 6), .ref (u_3 7), .int 0])), (u_3 6, .inl (gI g, 7, .inl (fun _ => 0))), (u_3 7, .inl (gI g, 7, .inl (fun _ => 0))), (u_3 8, .inr (0, [.int 0, .ref (u_3 9), .ref (u_3 10), .ref (u_3 11), .ref (u_3 12), .ref (u_3 13), .ref (u_3 14), .ref (u_3 15), .int 0, .int 0, .int 0, .ref (u_3 16)])), (u_3 9, .inl (gI g, 10, .inl (fun _ => 0))), (u_3 10, .inl (gI g, 10, .inl (fun _ => 0))), (u_3 11, .inl (gI g, 10, .inl (fun _ => 0))), (u_3 12, .inl (gI g, 10, .inl (fun _ => 0))), (u_3 13, .inl (gI g, 10, .inl (fun _ => 0))), (u_3 14, .inl (gI g, 10, .inl (fun _ => 0))), (u_3 15, .inl (gI g, 10, .inl (fun _ => 0))), (u_3 16, .inl (gI g, 10, .inl (fun _ => 0))), (u_3 17, .inr (3, [.int 0, .ref (u_3 18), .ref (u_3 19), .ref (u_3 20)])), (u_3 18, .inl (gI g, 40, .inl (fun _ => 0))), (u_3 19, .inl (gI g, 40, .inl (fun _ => 0))), (u_3 20, .inl (gI g, 40, .inl (fun _ => 0))), (u_3 21, .inr (3, [.int 0, .ref (u_3 22), .ref (u_3 23), .ref (u_3 24)])), (u_3 22, .inl (gI g, 40, .inl (fun _ => 0))), (u_3 23, .inl (gI g, 40, .inl (fun _ => 0))), (u_3 24, .inl (gI g, 40, .inl (fun _ => 0))), (u_3 25, .inr (6, [.int 0, .int 0, .ref (u_3 26)])), (u_3 26, .inl (gI g, 14, .inl (fun _ => 0))), (u_3 27, .inl (gI g, 60, .inl (fun _ => 0))), (q_5, .inr (2, [.int 0, .int 0, .ref (u_7 1)])), (u_7 1, .inl (gN g, 16, .inr (.inr (.inr (.inr (fun _ => none)))))), (q_9, .inr (7, [.ref (u_11 1), .ref (u_11 2)])), (u_11 1, .inl (gI g, 7, .inl (fun _ => 0))), (u_11 2, .inl (gJ g, 5, .inr (.inl (fun _ => 0))))]) hx hb hml hown hts hKW hP hD hS hA hl.1 (c_X5_init l g _ q_13 ) rfl wd_5_12 wd_2_2 nw_8 wd_5_11 yd_X5_init ⟨Nat.le_of_ble_eq_true rfl, Nat.le_of_ble_eq_true rfl⟩ rfl rfl rfl rfl rfl (by decide) rfl (Nat.le_of_ble_eq_true rfl) dX11_init_42 ⟨Nat.le_of_ble_eq_true rfl, Nat.le_of_ble_eq_true rfl⟩ (fun u_15 H locs hw_16 hP hD hS => ?_)
  have hP : va_P g.1 vwCl [(h, .inr (11, [.ref q_1, .ref q_5, .ref q_9, .null, .null, .null, .int 0])), (q_1, .inr (4, [.ref (u_3 1), .ref (u_3 5), .ref (u_3 8), .ref (u_3 17), .ref (u_3 21), .ref (u_3 25), .ref (u_3 27), .int 0, .int 0, .int 36, .int 10])), (u_3 1, .inr (8, [.int 0, .ref (u_3 2), .ref (u_3 3), .ref (u_3 4)])), (u_3 2, .inl (gI g, 5, .inl (fun _ => 0))), (u_3 3, .inl (gI g, 5, .inl (fun _ => 0))), (u_3 4, .inl (gI g, 5, .inl (fun _ => 0))), (u_3 5, .inr (1, [.int 0, .ref (u_3 6), .ref (u_3 7), .int 0])), (u_3 6, .inl (gI g, 7, .inl (fun _ => 0))), (u_3 7, .inl (gI g, 7, .inl (fun _ => 0))), (u_3 8, .inr (0, [.int 0, .ref (u_3 9), .ref (u_3 10), .ref (u_3 11), .ref (u_3 12), .ref (u_3 13), .ref (u_3 14), .ref (u_3 15), .int 0, .int 0, .int 0, .ref (u_3 16)])), (u_3 9, .inl (gI g, 10, .inl (fun _ => 0))), (u_3 10, .inl (gI g, 10, .inl (fun _ => 0))), (u_3 11, .inl (gI g, 10, .inl (fun _ => 0))), (u_3 12, .inl (gI g, 10, .inl (fun _ => 0))), (u_3 13, .inl (gI g, 10, .inl (fun _ => 0))), (u_3 14, .inl (gI g, 10, .inl (fun _ => 0))), (u_3 15, .inl (gI g, 10, .inl (fun _ => 0))), (u_3 16, .inl (gI g, 10, .inl (fun _ => 0))), (u_3 17, .inr (3, [.int 0, .ref (u_3 18), .ref (u_3 19), .ref (u_3 20)])), (u_3 18, .inl (gI g, 40, .inl (fun _ => 0))), (u_3 19, .inl (gI g, 40, .inl (fun _ => 0))), (u_3 20, .inl (gI g, 40, .inl (fun _ => 0))), (u_3 21, .inr (3, [.int 0, .ref (u_3 22), .ref (u_3 23), .ref (u_3 24)])), (u_3 22, .inl (gI g, 40, .inl (fun _ => 0))), (u_3 23, .inl (gI g, 40, .inl (fun _ => 0))), (u_3 24, .inl (gI g, 40, .inl (fun _ => 0))), (u_3 25, .inr (6, [.int 0, .int 0, .ref (u_3 26)])), (u_3 26, .inl (gI g, 14, .inl (fun _ => 0))), (u_3 27, .inl (gI g, 60, .inl (fun _ => 0))), (q_5, .inr (2, [.int 0, .int 0, .ref (u_7 1)])), (u_7 1, .inl (gN g, 16, .inr (.inr (.inr (.inr (fun _ => none)))))), (q_9, .inr (7, [.ref (u_11 1), .ref (u_11 2)])), (u_11 1, .inl (gI g, 7, .inl (fun _ => 0))), (u_11 2, .inl (gJ g, 5, .inr (.inl (fun _ => 0)))), (q_13, .inr (5, [.ref (u_15 1), .ref (u_15 2), .ref (u_15 3), .int 0, .int 0])), (u_15 1, .inl (gI g, 128, .inl (fun _ => 0))), (u_15 2, .inl (gI g, 128, .inl (fun _ => 0))), (u_15 3, .inl (gI g, 128, .inl (fun _ => 0)))] H := hP
  have hD : va_D A [(h, .inr (11, [.ref q_1, .ref q_5, .ref q_9, .null, .null, .null, .int 0])), (q_1, .inr (4, [.ref (u_3 1), .ref (u_3 5), .ref (u_3 8), .ref (u_3 17), .ref (u_3 21), .ref (u_3 25), .ref (u_3 27), .int 0, .int 0, .int 36, .int 10])), (u_3 1, .inr (8, [.int 0, .ref (u_3 2), .ref (u_3 3), .ref (u_3 4)])), (u_3 2, .inl (gI g, 5, .inl (fun _ => 0))), (u_3 3, .inl (gI g, 5, .inl (fun _ => 0))), (u_3 4, .inl (gI g, 5, .inl (fun _ => 0))), (u_3 5, .inr (1, [.int 0, .ref (u_3 6), .ref (u_3 7), .int 0])), (u_3 6, .inl (gI g, 7, .inl (fun _ => 0))), (u_3 7, .inl (gI g, 7, .inl (fun _ => 0))), (u_3 8, .inr (0, [.int 0, .ref (u_3 9), .ref (u_3 10), .ref (u_3 11), .ref (u_3 12), .ref (u_3 13), .ref (u_3 14), .ref (u_3 15), .int 0, .int 0, .int 0, .ref (u_3 16)])), (u_3 9, .inl (gI g, 10, .inl (fun _ => 0))), (u_3 10, .inl (gI g, 10, .inl (fun _ => 0))), (u_3 11, .inl (gI g, 10, .inl (fun _ => 0))), (u_3 12, .inl (gI g, 10, .inl (fun _ => 0))), (u_3 13, .inl (gI g, 10, .inl (fun _ => 0))), (u_3 14, .inl (gI g, 10, .inl (fun _ => 0))), (u_3 15, .inl (gI g, 10, .inl (fun _ => 0))), (u_3 16, .inl (gI g, 10, .inl (fun _ => 0))), (u_3 17, .inr (3, [.int 0, .ref (u_3 18), .ref (u_3 19), .ref (u_3 20)])), (u_3 18, .inl (gI g, 40, .inl (fun _ => 0))), (u_3 19, .inl (gI g, 40, .inl (fun _ => 0))), (u_3 20, .inl (gI g, 40, .inl (fun _ => 0))), (u_3 21, .inr (3, [.int 0, .ref (u_3 22), .ref (u_3 23), .ref (u_3 24)])), (u_3 22, .inl (gI g, 40, .inl (fun _ => 0))), (u_3 23, .inl (gI g, 40, .inl (fun _ => 0))), (u_3 24, .inl (gI g, 40, .inl (fun _ => 0))), (u_3 25, .inr (6, [.int 0, .int 0, .ref (u_3 26)])), (u_3 26, .inl (gI g, 14, .inl (fun _ => 0))), (u_3 27, .inl (gI g, 60, .inl (fun _ => 0))), (q_5, .inr (2, [.int 0, .int 0, .ref (u_7 1)])), (u_7 1, .inl (gN g, 16, .inr (.inr (.inr (.inr (fun _ => none)))))), (q_9, .inr (7, [.ref (u_11 1), .ref (u_11 2)])), (u_11 1, .inl (gI g, 7, .inl (fun _ => 0))), (u_11 2, .inl (gJ g, 5, .inr (.inl (fun _ => 0)))), (q_13, .inr (5, [.ref (u_15 1), .ref (u_15 2), .ref (u_15 3), .int 0, .int 0])), (u_15 1, .inl (gI g, 128, .inl (fun _ => 0))), (u_15 2, .inl (gI g, 128, .inl (fun _ => 0))), (u_15 3, .inl (gI g, 128, .inl (fun _ => 0)))] := hD
  refine W.widen (k := 37) (n := 887) (Nat.le_of_ble_eq_true rfl) (Nat.le_of_ble_eq_true rfl) ?_
  refine va_putF (ci := 11) (v := .ref q_13) (C := RX11) (T := TX11) (N := 7) hx hb hts inlX11 tyX11 tyX11_ok nmX11 hown hKW.1 hP hD hS 0 rfl rfl 3 (by decide) (hts _ wd_2_3) (fun _ h => h) rfl hnm rfl (tyX11_ok 3 (by decide)) rfl rfl (Nat.le_of_ble_eq_true rfl) dX11_init_45 (fun H locs hP hD hS => ?_)
  have hP : va_P g.1 vwCl [(h, .inr (11, [.ref q_1, .ref q_5, .ref q_9, .ref q_13, .null, .null, .int 0])), (q_1, .inr (4, [.ref (u_3 1), .ref (u_3 5), .ref (u_3 8), .ref (u_3 17), .ref (u_3 21), .ref (u_3 25), .ref (u_3 27), .int 0, .int 0, .int 36, .int 10])), (u_3 1, .inr (8, [.int 0, .ref (u_3 2), .ref (u_3 3), .ref (u_3 4)])), (u_3 2, .inl (gI g, 5, .inl (fun _ => 0))), (u_3 3, .inl (gI g, 5, .inl (fun _ => 0))), (u_3 4, .inl (gI g, 5, .inl (fun _ => 0))), (u_3 5, .inr (1, [.int 0, .ref (u_3 6), .ref (u_3 7), .int 0])), (u_3 6, .inl (gI g, 7, .inl (fun _ => 0))), (u_3 7, .inl (gI g, 7, .inl (fun _ => 0))), (u_3 8, .inr (0, [.int 0, .ref (u_3 9), .ref (u_3 10), .ref (u_3 11), .ref (u_3 12), .ref (u_3 13), .ref (u_3 14), .ref (u_3 15), .int 0, .int 0, .int 0, .ref (u_3 16)])), (u_3 9, .inl (gI g, 10, .inl (fun _ => 0))), (u_3 10, .inl (gI g, 10, .inl (fun _ => 0))), (u_3 11, .inl (gI g, 10, .inl (fun _ => 0))), (u_3 12, .inl (gI g, 10, .inl (fun _ => 0))), (u_3 13, .inl (gI g, 10, .inl (fun _ => 0))), (u_3 14, .inl (gI g, 10, .inl (fun _ => 0))), (u_3 15, .inl (gI g, 10, .inl (fun _ => 0))), (u_3 16, .inl (gI g, 10, .inl (fun _ => 0))), (u_3 17, .inr (3, [.int 0, .ref (u_3 18), .ref (u_3 19), .ref (u_3 20)])), (u_3 18, .inl (gI g, 40, .inl (fun _ => 0))), (u_3 19, .inl (gI g, 40, .inl (fun _ => 0))), (u_3 20, .inl (gI g, 40, .inl (fun _ => 0))), (u_3 21, .inr (3, [.int 0, .ref (u_3 22), .ref (u_3 23), .ref (u_3 24)])), (u_3 22, .inl (gI g, 40, .inl (fun _ => 0))), (u_3 23, .inl (gI g, 40, .inl (fun _ => 0))), (u_3 24, .inl (gI g, 40, .inl (fun _ => 0))), (u_3 25, .inr (6, [.int 0, .int 0, .ref (u_3 26)])), (u_3 26, .inl (gI g, 14, .inl (fun _ => 0))), (u_3 27, .inl (gI g, 60, .inl (fun _ => 0))), (q_5, .inr (2, [.int 0, .int 0, .ref (u_7 1)])), (u_7 1, .inl (gN g, 16, .inr (.inr (.inr (.inr (fun _ => none)))))), (q_9, .inr (7, [.ref (u_11 1), .ref (u_11 2)])), (u_11 1, .inl (gI g, 7, .inl (fun _ => 0))), (u_11 2, .inl (gJ g, 5, .inr (.inl (fun _ => 0)))), (q_13, .inr (5, [.ref (u_15 1), .ref (u_15 2), .ref (u_15 3), .int 0, .int 0])), (u_15 1, .inl (gI g, 128, .inl (fun _ => 0))), (u_15 2, .inl (gI g, 128, .inl (fun _ => 0))), (u_15 3, .inl (gI g, 128, .inl (fun _ => 0)))] H := hP
  have hD : va_D A [(h, .inr (11, [.ref q_1, .ref q_5, .ref q_9, .ref q_13, .null, .null, .int 0])), (q_1, .inr (4, [.ref (u_3 1), .ref (u_3 5), .ref (u_3 8), .ref (u_3 17), .ref (u_3 21), .ref (u_3 25), .ref (u_3 27), .int 0, .int 0, .int 36, .int 10])), (u_3 1, .inr (8, [.int 0, .ref (u_3 2), .ref (u_3 3), .ref (u_3 4)])), (u_3 2, .inl (gI g, 5, .inl (fun _ => 0))), (u_3 3, .inl (gI g, 5, .inl (fun _ => 0))), (u_3 4, .inl (gI g, 5, .inl (fun _ => 0))), (u_3 5, .inr (1, [.int 0, .ref (u_3 6), .ref (u_3 7), .int 0])), (u_3 6, .inl (gI g, 7, .inl (fun _ => 0))), (u_3 7, .inl (gI g, 7, .inl (fun _ => 0))), (u_3 8, .inr (0, [.int 0, .ref (u_3 9), .ref (u_3 10), .ref (u_3 11), .ref (u_3 12), .ref (u_3 13), .ref (u_3 14), .ref (u_3 15), .int 0, .int 0, .int 0, .ref (u_3 16)])), (u_3 9, .inl (gI g, 10, .inl (fun _ => 0))), (u_3 10, .inl (gI g, 10, .inl (fun _ => 0))), (u_3 11, .inl (gI g, 10, .inl (fun _ => 0))), (u_3 12, .inl (gI g, 10, .inl (fun _ => 0))), (u_3 13, .inl (gI g, 10, .inl (fun _ => 0))), (u_3 14, .inl (gI g, 10, .inl (fun _ => 0))), (u_3 15, .inl (gI g, 10, .inl (fun _ => 0))), (u_3 16, .inl (gI g, 10, .inl (fun _ => 0))), (u_3 17, .inr (3, [.int 0, .ref (u_3 18), .ref (u_3 19), .ref (u_3 20)])), (u_3 18, .inl (gI g, 40, .inl (fun _ => 0))), (u_3 19, .inl (gI g, 40, .inl (fun _ => 0))), (u_3 20, .inl (gI g, 40, .inl (fun _ => 0))), (u_3 21, .inr (3, [.int 0, .ref (u_3 22), .ref (u_3 23), .ref (u_3 24)])), (u_3 22, .inl (gI g, 40, .inl (fun _ => 0))), (u_3 23, .inl (gI g, 40, .inl (fun _ => 0))), (u_3 24, .inl (gI g, 40, .inl (fun _ => 0))), (u_3 25, .inr (6, [.int 0, .int 0, .ref (u_3 26)])), (u_3 26, .inl (gI g, 14, .inl (fun _ => 0))), (u_3 27, .inl (gI g, 60, .inl (fun _ => 0))), (q_5, .inr (2, [.int 0, .int 0, .ref (u_7 1)])), (u_7 1, .inl (gN g, 16, .inr (.inr (.inr (.inr (fun _ => none)))))), (q_9, .inr (7, [.ref (u_11 1), .ref (u_11 2)])), (u_11 1, .inl (gI g, 7, .inl (fun _ => 0))), (u_11 2, .inl (gJ g, 5, .inr (.inl (fun _ => 0)))), (q_13, .inr (5, [.ref (u_15 1), .ref (u_15 2), .ref (u_15 3), .int 0, .int 0])), (u_15 1, .inl (gI g, 128, .inl (fun _ => 0))), (u_15 2, .inl (gI g, 128, .inl (fun _ => 0))), (u_15 3, .inl (gI g, 128, .inl (fun _ => 0)))] := hD
  refine lv_aload_n hx hb dX11_init_48 rfl (lv_at hl 0 rfl) ?_
  refine va_new (ci := 10) (fs := [.null]) (C := RX10) (T := TX10) (N := 1) hx hb hts inlX10 tyX10 tyX10_ok hown (hts _ wd_2_4) (hts _ wd_2_5) (hts _ wd_2_6) hKW.1 hP hD hS hA rfl (fun j hj => by rcases (show j = 0 by omega) with rfl <;> rfl) (Nat.le_of_ble_eq_true rfl) (Nat.le_of_ble_eq_true rfl) dX11_init_49 (fun q_17 H hP hD hS => ?_)
  have hP : va_P g.1 vwCl [(h, .inr (11, [.ref q_1, .ref q_5, .ref q_9, .ref q_13, .null, .null, .int 0])), (q_1, .inr (4, [.ref (u_3 1), .ref (u_3 5), .ref (u_3 8), .ref (u_3 17), .ref (u_3 21), .ref (u_3 25), .ref (u_3 27), .int 0, .int 0, .int 36, .int 10])), (u_3 1, .inr (8, [.int 0, .ref (u_3 2), .ref (u_3 3), .ref (u_3 4)])), (u_3 2, .inl (gI g, 5, .inl (fun _ => 0))), (u_3 3, .inl (gI g, 5, .inl (fun _ => 0))), (u_3 4, .inl (gI g, 5, .inl (fun _ => 0))), (u_3 5, .inr (1, [.int 0, .ref (u_3 6), .ref (u_3 7), .int 0])), (u_3 6, .inl (gI g, 7, .inl (fun _ => 0))), (u_3 7, .inl (gI g, 7, .inl (fun _ => 0))), (u_3 8, .inr (0, [.int 0, .ref (u_3 9), .ref (u_3 10), .ref (u_3 11), .ref (u_3 12), .ref (u_3 13), .ref (u_3 14), .ref (u_3 15), .int 0, .int 0, .int 0, .ref (u_3 16)])), (u_3 9, .inl (gI g, 10, .inl (fun _ => 0))), (u_3 10, .inl (gI g, 10, .inl (fun _ => 0))), (u_3 11, .inl (gI g, 10, .inl (fun _ => 0))), (u_3 12, .inl (gI g, 10, .inl (fun _ => 0))), (u_3 13, .inl (gI g, 10, .inl (fun _ => 0))), (u_3 14, .inl (gI g, 10, .inl (fun _ => 0))), (u_3 15, .inl (gI g, 10, .inl (fun _ => 0))), (u_3 16, .inl (gI g, 10, .inl (fun _ => 0))), (u_3 17, .inr (3, [.int 0, .ref (u_3 18), .ref (u_3 19), .ref (u_3 20)])), (u_3 18, .inl (gI g, 40, .inl (fun _ => 0))), (u_3 19, .inl (gI g, 40, .inl (fun _ => 0))), (u_3 20, .inl (gI g, 40, .inl (fun _ => 0))), (u_3 21, .inr (3, [.int 0, .ref (u_3 22), .ref (u_3 23), .ref (u_3 24)])), (u_3 22, .inl (gI g, 40, .inl (fun _ => 0))), (u_3 23, .inl (gI g, 40, .inl (fun _ => 0))), (u_3 24, .inl (gI g, 40, .inl (fun _ => 0))), (u_3 25, .inr (6, [.int 0, .int 0, .ref (u_3 26)])), (u_3 26, .inl (gI g, 14, .inl (fun _ => 0))), (u_3 27, .inl (gI g, 60, .inl (fun _ => 0))), (q_5, .inr (2, [.int 0, .int 0, .ref (u_7 1)])), (u_7 1, .inl (gN g, 16, .inr (.inr (.inr (.inr (fun _ => none)))))), (q_9, .inr (7, [.ref (u_11 1), .ref (u_11 2)])), (u_11 1, .inl (gI g, 7, .inl (fun _ => 0))), (u_11 2, .inl (gJ g, 5, .inr (.inl (fun _ => 0)))), (q_13, .inr (5, [.ref (u_15 1), .ref (u_15 2), .ref (u_15 3), .int 0, .int 0])), (u_15 1, .inl (gI g, 128, .inl (fun _ => 0))), (u_15 2, .inl (gI g, 128, .inl (fun _ => 0))), (u_15 3, .inl (gI g, 128, .inl (fun _ => 0))), (q_17, .inr (10, [.null]))] H := hP
  have hD : va_D A [(h, .inr (11, [.ref q_1, .ref q_5, .ref q_9, .ref q_13, .null, .null, .int 0])), (q_1, .inr (4, [.ref (u_3 1), .ref (u_3 5), .ref (u_3 8), .ref (u_3 17), .ref (u_3 21), .ref (u_3 25), .ref (u_3 27), .int 0, .int 0, .int 36, .int 10])), (u_3 1, .inr (8, [.int 0, .ref (u_3 2), .ref (u_3 3), .ref (u_3 4)])), (u_3 2, .inl (gI g, 5, .inl (fun _ => 0))), (u_3 3, .inl (gI g, 5, .inl (fun _ => 0))), (u_3 4, .inl (gI g, 5, .inl (fun _ => 0))), (u_3 5, .inr (1, [.int 0, .ref (u_3 6), .ref (u_3 7), .int 0])), (u_3 6, .inl (gI g, 7, .inl (fun _ => 0))), (u_3 7, .inl (gI g, 7, .inl (fun _ => 0))), (u_3 8, .inr (0, [.int 0, .ref (u_3 9), .ref (u_3 10), .ref (u_3 11), .ref (u_3 12), .ref (u_3 13), .ref (u_3 14), .ref (u_3 15), .int 0, .int 0, .int 0, .ref (u_3 16)])), (u_3 9, .inl (gI g, 10, .inl (fun _ => 0))), (u_3 10, .inl (gI g, 10, .inl (fun _ => 0))), (u_3 11, .inl (gI g, 10, .inl (fun _ => 0))), (u_3 12, .inl (gI g, 10, .inl (fun _ => 0))), (u_3 13, .inl (gI g, 10, .inl (fun _ => 0))), (u_3 14, .inl (gI g, 10, .inl (fun _ => 0))), (u_3 15, .inl (gI g, 10, .inl (fun _ => 0))), (u_3 16, .inl (gI g, 10, .inl (fun _ => 0))), (u_3 17, .inr (3, [.int 0, .ref (u_3 18), .ref (u_3 19), .ref (u_3 20)])), (u_3 18, .inl (gI g, 40, .inl (fun _ => 0))), (u_3 19, .inl (gI g, 40, .inl (fun _ => 0))), (u_3 20, .inl (gI g, 40, .inl (fun _ => 0))), (u_3 21, .inr (3, [.int 0, .ref (u_3 22), .ref (u_3 23), .ref (u_3 24)])), (u_3 22, .inl (gI g, 40, .inl (fun _ => 0))), (u_3 23, .inl (gI g, 40, .inl (fun _ => 0))), (u_3 24, .inl (gI g, 40, .inl (fun _ => 0))), (u_3 25, .inr (6, [.int 0, .int 0, .ref (u_3 26)])), (u_3 26, .inl (gI g, 14, .inl (fun _ => 0))), (u_3 27, .inl (gI g, 60, .inl (fun _ => 0))), (q_5, .inr (2, [.int 0, .int 0, .ref (u_7 1)])), (u_7 1, .inl (gN g, 16, .inr (.inr (.inr (.inr (fun _ => none)))))), (q_9, .inr (7, [.ref (u_11 1), .ref (u_11 2)])), (u_11 1, .inl (gI g, 7, .inl (fun _ => 0))), (u_11 2, .inl (gJ g, 5, .inr (.inl (fun _ => 0)))), (q_13, .inr (5, [.ref (u_15 1), .ref (u_15 2), .ref (u_15 3), .int 0, .int 0])), (u_15 1, .inl (gI g, 128, .inl (fun _ => 0))), (u_15 2, .inl (gI g, 128, .inl (fun _ => 0))), (u_15 3, .inl (gI g, 128, .inl (fun _ => 0))), (q_17, .inr (10, [.null]))] := hD
  refine W.widen (k := 38) (n := 888) (Nat.le_of_ble_eq_true rfl) (Nat.le_of_ble_eq_true rfl) ?_
  refine lv_dup hx hb dX11_init_52 rfl ?_
  refine k_IN [38] [0, 1, 2, 3, 4, 5, 6, 7, 8, 9, 10, 11, 12, 13, 14, 15, 16, 17, 18, 19, 20, 21, 22, 23, 24, 25, 26, 27, 28, 29, 30, 31, 32, 33, 34, 35, 36, 37] (wr := [(h, .inr (11, [.ref q_1, .ref q_5, .ref q_9, .ref q_13, .null, .null, .int 0])), (q_1, .inr (4, [.ref (u_3 1), .ref (u_3 5), .ref (u_3 8), .ref (u_3 17), .ref (u_3 21), .ref (u_3 25), .ref (u_3 27), .int 0, .int 0, .int 36, .int 10])), (u_3 1, .inr (8, [.int 0, .ref (u_3 2), .ref (u_3 3), .ref (u_3 4)])), (u_3 2, .inl (gI g, 5, .inl (fun _ => 0))), (u_3 3, .inl (gI g, 5, .inl (fun _ => 0))), (u_3 4, .inl (gI g, 5, .inl (fun _ => 0))), (u_3 5, .inr (1, [.int 0, .ref (u_3 6), .ref (u_3 7), .int 0])), (u_3 6, .inl (gI g, 7, .inl (fun _ => 0))), (u_3 7, .inl (gI g, 7, .inl (fun _ => 0))), (u_3 8, .inr (0, [.int 0, .ref (u_3 9), .ref (u_3 10), .ref (u_3 11), .ref (u_3 12), .ref (u_3 13), .ref (u_3 14), .ref (u_3 15), .int 0, .int 0, .int 0, .ref (u_3 16)])), (u_3 9, .inl (gI g, 10, .inl (fun _ => 0))), (u_3 10, .inl (gI g, 10, .inl (fun _ => 0))), (u_3 11, .inl (gI g, 10, .inl (fun _ => 0))), (u_3 12, .inl (gI g, 10, .inl (fun _ => 0))), (u_3 13, .inl (gI g, 10, .inl (fun _ => 0))), (u_3 14, .inl (gI g, 10, .inl (fun _ => 0))), (u_3 15, .inl (gI g, 10, .inl (fun _ => 0))), (u_3 16, .inl (gI g, 10, .inl (fun _ => 0))), (u_3 17, .inr (3, [.int 0, .ref (u_3 18), .ref (u_3 19), .ref (u_3 20)])), (u_3 18, .inl (gI g, 40, .inl (fun _ => 0))), (u_3 19, .inl (gI g, 40, .inl (fun _ => 0))), (u_3 20, .inl (gI g, 40, .inl (fun _ => 0))), (u_3 21, .inr (3, [.int 0, .ref (u_3 22), .ref (u_3 23), .ref (u_3 24)])), (u_3 22, .inl (gI g, 40, .inl (fun _ => 0))), (u_3 23, .inl (gI g, 40, .inl (fun _ => 0))), (u_3 24, .inl (gI g, 40, .inl (fun _ => 0))), (u_3 25, .inr (6, [.int 0, .int 0, .ref (u_3 26)])), (u_3 26, .inl (gI g, 14, .inl (fun _ => 0))), (u_3 27, .inl (gI g, 60, .inl (fun _ => 0))), (q_5, .inr (2, [.int 0, .int 0, .ref (u_7 1)])), (u_7 1, .inl (gN g, 16, .inr (.inr (.inr (.inr (fun _ => none)))))), (q_9, .inr (7, [.ref (u_11 1), .ref (u_11 2)])), (u_11 1, .inl (gI g, 7, .inl (fun _ => 0))), (u_11 2, .inl (gJ g, 5, .inr (.inl (fun _ => 0)))), (q_13, .inr (5, [.ref (u_15 1), .ref (u_15 2), .ref (u_15 3), .int 0, .int 0])), (u_15 1, .inl (gI g, 128, .inl (fun _ => 0))), (u_15 2, .inl (gI g, 128, .inl (fun _ => 0))), (u_15 3, .inl (gI g, 128, .inl (fun _ => 0)))]) hx hb hml hown hts hKW hP hD hS hA hl.1 (c_X10_init l g _ q_17 ) rfl wd_5_18 wd_2_6 nw_9 wd_5_17 yd_X10_init ⟨Nat.le_of_ble_eq_true rfl, Nat.le_of_ble_eq_true rfl⟩ rfl rfl rfl rfl rfl (by decide) rfl (Nat.le_of_ble_eq_true rfl) dX11_init_53 ⟨Nat.le_of_ble_eq_true rfl, Nat.le_of_ble_eq_true rfl⟩ (fun u_19 H locs hw_20 hP hD hS => ?_)
  have hP : va_P g.1 vwCl [(h, .inr (11, [.ref q_1, .ref q_5, .ref q_9, .ref q_13, .null, .null, .int 0])), (q_1, .inr (4, [.ref (u_3 1), .ref (u_3 5), .ref (u_3 8), .ref (u_3 17), .ref (u_3 21), .ref (u_3 25), .ref (u_3 27), .int 0, .int 0, .int 36, .int 10])), (u_3 1, .inr (8, [.int 0, .ref (u_3 2), .ref (u_3 3), .ref (u_3 4)])), (u_3 2, .inl (gI g, 5, .inl (fun _ => 0))), (u_3 3, .inl (gI g, 5, .inl (fun _ => 0))), (u_3 4, .inl (gI g, 5, .inl (fun _ => 0))), (u_3 5, .inr (1, [.int 0, .ref (u_3 6), .ref (u_3 7), .int 0])), (u_3 6, .inl (gI g, 7, .inl (fun _ => 0))), (u_3 7, .inl (gI g, 7, .inl (fun _ => 0))), (u_3 8, .inr (0, [.int 0, .ref (u_3 9), .ref (u_3 10), .ref (u_3 11), .ref (u_3 12), .ref (u_3 13), .ref (u_3 14), .ref (u_3 15), .int 0, .int 0, .int 0, .ref (u_3 16)])), (u_3 9, .inl (gI g, 10, .inl (fun _ => 0))), (u_3 10, .inl (gI g, 10, .inl (fun _ => 0))), (u_3 11, .inl (gI g, 10, .inl (fun _ => 0))), (u_3 12, .inl (gI g, 10, .inl (fun _ => 0))), (u_3 13, .inl (gI g, 10, .inl (fun _ => 0))), (u_3 14, .inl (gI g, 10, .inl (fun _ => 0))), (u_3 15, .inl (gI g, 10, .inl (fun _ => 0))), (u_3 16, .inl (gI g, 10, .inl (fun _ => 0))), (u_3 17, .inr (3, [.int 0, .ref (u_3 18), .ref (u_3 19), .ref (u_3 20)])), (u_3 18, .inl (gI g, 40, .inl (fun _ => 0))), (u_3 19, .inl (gI g, 40, .inl (fun _ => 0))), (u_3 20, .inl (gI g, 40, .inl (fun _ => 0))), (u_3 21, .inr (3, [.int 0, .ref (u_3 22), .ref (u_3 23), .ref (u_3 24)])), (u_3 22, .inl (gI g, 40, .inl (fun _ => 0))), (u_3 23, .inl (gI g, 40, .inl (fun _ => 0))), (u_3 24, .inl (gI g, 40, .inl (fun _ => 0))), (u_3 25, .inr (6, [.int 0, .int 0, .ref (u_3 26)])), (u_3 26, .inl (gI g, 14, .inl (fun _ => 0))), (u_3 27, .inl (gI g, 60, .inl (fun _ => 0))), (q_5, .inr (2, [.int 0, .int 0, .ref (u_7 1)])), (u_7 1, .inl (gN g, 16, .inr (.inr (.inr (.inr (fun _ => none)))))), (q_9, .inr (7, [.ref (u_11 1), .ref (u_11 2)])), (u_11 1, .inl (gI g, 7, .inl (fun _ => 0))), (u_11 2, .inl (gJ g, 5, .inr (.inl (fun _ => 0)))), (q_13, .inr (5, [.ref (u_15 1), .ref (u_15 2), .ref (u_15 3), .int 0, .int 0])), (u_15 1, .inl (gI g, 128, .inl (fun _ => 0))), (u_15 2, .inl (gI g, 128, .inl (fun _ => 0))), (u_15 3, .inl (gI g, 128, .inl (fun _ => 0))), (q_17, .inr (10, [.ref (u_19 1)])), (u_19 1, .inl (gI g, 60, .inl (fun _ => 0)))] H := hP
  have hD : va_D A [(h, .inr (11, [.ref q_1, .ref q_5, .ref q_9, .ref q_13, .null, .null, .int 0])), (q_1, .inr (4, [.ref (u_3 1), .ref (u_3 5), .ref (u_3 8), .ref (u_3 17), .ref (u_3 21), .ref (u_3 25), .ref (u_3 27), .int 0, .int 0, .int 36, .int 10])), (u_3 1, .inr (8, [.int 0, .ref (u_3 2), .ref (u_3 3), .ref (u_3 4)])), (u_3 2, .inl (gI g, 5, .inl (fun _ => 0))), (u_3 3, .inl (gI g, 5, .inl (fun _ => 0))), (u_3 4, .inl (gI g, 5, .inl (fun _ => 0))), (u_3 5, .inr (1, [.int 0, .ref (u_3 6), .ref (u_3 7), .int 0])), (u_3 6, .inl (gI g, 7, .inl (fun _ => 0))), (u_3 7, .inl (gI g, 7, .inl (fun _ => 0))), (u_3 8, .inr (0, [.int 0, .ref (u_3 9), .ref (u_3 10), .ref (u_3 11), .ref (u_3 12), .ref (u_3 13), .ref (u_3 14), .ref (u_3 15), .int 0, .int 0, .int 0, .ref (u_3 16)])), (u_3 9, .inl (gI g, 10, .inl (fun _ => 0))), (u_3 10, .inl (gI g, 10, .inl (fun _ => 0))), (u_3 11, .inl (gI g, 10, .inl (fun _ => 0))), (u_3 12, .inl (gI g, 10, .inl (fun _ => 0))), (u_3 13, .inl (gI g, 10, .inl (fun _ => 0))), (u_3 14, .inl (gI g, 10, .inl (fun _ => 0))), (u_3 15, .inl (gI g, 10, .inl (fun _ => 0))), (u_3 16, .inl (gI g, 10, .inl (fun _ => 0))), (u_3 17, .inr (3, [.int 0, .ref (u_3 18), .ref (u_3 19), .ref (u_3 20)])), (u_3 18, .inl (gI g, 40, .inl (fun _ => 0))), (u_3 19, .inl (gI g, 40, .inl (fun _ => 0))), (u_3 20, .inl (gI g, 40, .inl (fun _ => 0))), (u_3 21, .inr (3, [.int 0, .ref (u_3 22), .ref (u_3 23), .ref (u_3 24)])), (u_3 22, .inl (gI g, 40, .inl (fun _ => 0))), (u_3 23, .inl (gI g, 40, .inl (fun _ => 0))), (u_3 24, .inl (gI g, 40, .inl (fun _ => 0))), (u_3 25, .inr (6, [.int 0, .int 0, .ref (u_3 26)])), (u_3 26, .inl (gI g, 14, .inl (fun _ => 0))), (u_3 27, .inl (gI g, 60, .inl (fun _ => 0))), (q_5, .inr (2, [.int 0, .int 0, .ref (u_7 1)])), (u_7 1, .inl (gN g, 16, .inr (.inr (.inr (.inr (fun _ => none)))))), (q_9, .inr (7, [.ref (u_11 1), .ref (u_11 2)])), (u_11 1, .inl (gI g, 7, .inl (fun _ => 0))), (u_11 2, .inl (gJ g, 5, .inr (.inl (fun _ => 0)))), (q_13, .inr (5, [.ref (u_15 1), .ref (u_15 2), .ref (u_15 3), .int 0, .int 0])), (u_15 1, .inl (gI g, 128, .inl (fun _ => 0))), (u_15 2, .inl (gI g, 128, .inl (fun _ => 0))), (u_15 3, .inl (gI g, 128, .inl (fun _ => 0))), (q_17, .inr (10, [.ref (u_19 1)])), (u_19 1, .inl (gI g, 60, .inl (fun _ => 0)))] := hD
  refine W.widen (k := 39) (n := 948) (Nat.le_of_ble_eq_true rfl) (Nat.le_of_ble_eq_true rfl) ?_
  refine va_putF (ci := 11) (v := .ref q_17) (C := RX11) (T := TX11) (N := 7) hx hb hts inlX11 tyX11 tyX11_ok nmX11 hown hKW.1 hP hD hS 0 rfl rfl 4 (by decide) (hts _ wd_2_7) (fun _ h => h) rfl hnm rfl (tyX11_ok 4 (by decide)) rfl rfl (Nat.le_of_ble_eq_true rfl) dX11_init_56 (fun H locs hP hD hS => ?_)
  have hP : va_P g.1 vwCl [(h, .inr (11, [.ref q_1, .ref q_5, .ref q_9, .ref q_13, .ref q_17, .null, .int 0])), (q_1, .inr (4, [.ref (u_3 1), .ref (u_3 5), .ref (u_3 8), .ref (u_3 17), .ref (u_3 21), .ref (u_3 25), .ref (u_3 27), .int 0, .int 0, .int 36, .int 10])), (u_3 1, .inr (8, [.int 0, .ref (u_3 2), .ref (u_3 3), .ref (u_3 4)])), (u_3 2, .inl (gI g, 5, .inl (fun _ => 0))), (u_3 3, .inl (gI g, 5, .inl (fun _ => 0))), (u_3 4, .inl (gI g, 5, .inl (fun _ => 0))), (u_3 5, .inr (1, [.int 0, .ref (u_3 6), .ref (u_3 7), .int 0])), (u_3 6, .inl (gI g, 7, .inl (fun _ => 0))), (u_3 7, .inl (gI g, 7, .inl (fun _ => 0))), (u_3 8, .inr (0, [.int 0, .ref (u_3 9), .ref (u_3 10), .ref (u_3 11), .ref (u_3 12), .ref (u_3 13), .ref (u_3 14), .ref (u_3 15), .int 0, .int 0, .int 0, .ref (u_3 16)])), (u_3 9, .inl (gI g, 10, .inl (fun _ => 0))), (u_3 10, .inl (gI g, 10, .inl (fun _ => 0))), (u_3 11, .inl (gI g, 10, .inl (fun _ => 0))), (u_3 12, .inl (gI g, 10, .inl (fun _ => 0))), (u_3 13, .inl (gI g, 10, .inl (fun _ => 0))), (u_3 14, .inl (gI g, 10, .inl (fun _ => 0))), (u_3 15, .inl (gI g, 10, .inl (fun _ => 0))), (u_3 16, .inl (gI g, 10, .inl (fun _ => 0))), (u_3 17, .inr (3, [.int 0, .ref (u_3 18), .ref (u_3 19), .ref (u_3 20)])), (u_3 18, .inl (gI g, 40, .inl (fun _ => 0))), (u_3 19, .inl (gI g, 40, .inl (fun _ => 0))), (u_3 20, .inl (gI g, 40, .inl (fun _ => 0))), (u_3 21, .inr (3, [.int 0, .ref (u_3 22), .ref (u_3 23), .ref (u_3 24)])), (u_3 22, .inl (gI g, 40, .inl (fun _ => 0))), (u_3 23, .inl (gI g, 40, .inl (fun _ => 0))), (u_3 24, .inl (gI g, 40, .inl (fun _ => 0))), (u_3 25, .inr (6, [.int 0, .int 0, .ref (u_3 26)])), (u_3 26, .inl (gI g, 14, .inl (fun _ => 0))), (u_3 27, .inl (gI g, 60, .inl (fun _ => 0))), (q_5, .inr (2, [.int 0, .int 0, .ref (u_7 1)])), (u_7 1, .inl (gN g, 16, .inr (.inr (.inr (.inr (fun _ => none)))))), (q_9, .inr (7, [.ref (u_11 1), .ref (u_11 2)])), (u_11 1, .inl (gI g, 7, .inl (fun _ => 0))), (u_11 2, .inl (gJ g, 5, .inr (.inl (fun _ => 0)))), (q_13, .inr (5, [.ref (u_15 1), .ref (u_15 2), .ref (u_15 3), .int 0, .int 0])), (u_15 1, .inl (gI g, 128, .inl (fun _ => 0))), (u_15 2, .inl (gI g, 128, .inl (fun _ => 0))), (u_15 3, .inl (gI g, 128, .inl (fun _ => 0))), (q_17, .inr (10, [.ref (u_19 1)])), (u_19 1, .inl (gI g, 60, .inl (fun _ => 0)))] H := hP
  have hD : va_D A [(h, .inr (11, [.ref q_1, .ref q_5, .ref q_9, .ref q_13, .ref q_17, .null, .int 0])), (q_1, .inr (4, [.ref (u_3 1), .ref (u_3 5), .ref (u_3 8), .ref (u_3 17), .ref (u_3 21), .ref (u_3 25), .ref (u_3 27), .int 0, .int 0, .int 36, .int 10])), (u_3 1, .inr (8, [.int 0, .ref (u_3 2), .ref (u_3 3), .ref (u_3 4)])), (u_3 2, .inl (gI g, 5, .inl (fun _ => 0))), (u_3 3, .inl (gI g, 5, .inl (fun _ => 0))), (u_3 4, .inl (gI g, 5, .inl (fun _ => 0))), (u_3 5, .inr (1, [.int 0, .ref (u_3 6), .ref (u_3 7), .int 0])), (u_3 6, .inl (gI g, 7, .inl (fun _ => 0))), (u_3 7, .inl (gI g, 7, .inl (fun _ => 0))), (u_3 8, .inr (0, [.int 0, .ref (u_3 9), .ref (u_3 10), .ref (u_3 11), .ref (u_3 12), .ref (u_3 13), .ref (u_3 14), .ref (u_3 15), .int 0, .int 0, .int 0, .ref (u_3 16)])), (u_3 9, .inl (gI g, 10, .inl (fun _ => 0))), (u_3 10, .inl (gI g, 10, .inl (fun _ => 0))), (u_3 11, .inl (gI g, 10, .inl (fun _ => 0))), (u_3 12, .inl (gI g, 10, .inl (fun _ => 0))), (u_3 13, .inl (gI g, 10, .inl (fun _ => 0))), (u_3 14, .inl (gI g, 10, .inl (fun _ => 0))), (u_3 15, .inl (gI g, 10, .inl (fun _ => 0))), (u_3 16, .inl (gI g, 10, .inl (fun _ => 0))), (u_3 17, .inr (3, [.int 0, .ref (u_3 18), .ref (u_3 19), .ref (u_3 20)])), (u_3 18, .inl (gI g, 40, .inl (fun _ => 0))), (u_3 19, .inl (gI g, 40, .inl (fun _ => 0))), (u_3 20, .inl (gI g, 40, .inl (fun _ => 0))), (u_3 21, .inr (3, [.int 0, .ref (u_3 22), .ref (u_3 23), .ref (u_3 24)])), (u_3 22, .inl (gI g, 40, .inl (fun _ => 0))), (u_3 23, .inl (gI g, 40, .inl (fun _ => 0))), (u_3 24, .inl (gI g, 40, .inl (fun _ => 0))), (u_3 25, .inr (6, [.int 0, .int 0, .ref (u_3 26)])), (u_3 26, .inl (gI g, 14, .inl (fun _ => 0))), (u_3 27, .inl (gI g, 60, .inl (fun _ => 0))), (q_5, .inr (2, [.int 0, .int 0, .ref (u_7 1)])), (u_7 1, .inl (gN g, 16, .inr (.inr (.inr (.inr (fun _ => none)))))), (q_9, .inr (7, [.ref (u_11 1), .ref (u_11 2)])), (u_11 1, .inl (gI g, 7, .inl (fun _ => 0))), (u_11 2, .inl (gJ g, 5, .inr (.inl (fun _ => 0)))), (q_13, .inr (5, [.ref (u_15 1), .ref (u_15 2), .ref (u_15 3), .int 0, .int 0])), (u_15 1, .inl (gI g, 128, .inl (fun _ => 0))), (u_15 2, .inl (gI g, 128, .inl (fun _ => 0))), (u_15 3, .inl (gI g, 128, .inl (fun _ => 0))), (q_17, .inr (10, [.ref (u_19 1)])), (u_19 1, .inl (gI g, 60, .inl (fun _ => 0)))] := hD
  refine lv_aload_n hx hb dX11_init_59 rfl (lv_at hl 0 rfl) ?_
  refine lv_iconst (v := 4) hx hb dX11_init_60 (by decide) ?_
  refine k_newS (N' := 4) hx hb hown (hts _ wd_2_8) hKW hP hD hS hA (by decide) (by decide) (by decide) (Nat.le_of_ble_eq_true rfl) (Nat.le_of_ble_eq_true rfl) dX11_init_61 (fun q_21 H hP hD hS => ?_)
  have hP : va_P g.1 vwCl [(h, .inr (11, [.ref q_1, .ref q_5, .ref q_9, .ref q_13, .ref q_17, .null, .int 0])), (q_1, .inr (4, [.ref (u_3 1), .ref (u_3 5), .ref (u_3 8), .ref (u_3 17), .ref (u_3 21), .ref (u_3 25), .ref (u_3 27), .int 0, .int 0, .int 36, .int 10])), (u_3 1, .inr (8, [.int 0, .ref (u_3 2), .ref (u_3 3), .ref (u_3 4)])), (u_3 2, .inl (gI g, 5, .inl (fun _ => 0))), (u_3 3, .inl (gI g, 5, .inl (fun _ => 0))), (u_3 4, .inl (gI g, 5, .inl (fun _ => 0))), (u_3 5, .inr (1, [.int 0, .ref (u_3 6), .ref (u_3 7), .int 0])), (u_3 6, .inl (gI g, 7, .inl (fun _ => 0))), (u_3 7, .inl (gI g, 7, .inl (fun _ => 0))), (u_3 8, .inr (0, [.int 0, .ref (u_3 9), .ref (u_3 10), .ref (u_3 11), .ref (u_3 12), .ref (u_3 13), .ref (u_3 14), .ref (u_3 15), .int 0, .int 0, .int 0, .ref (u_3 16)])), (u_3 9, .inl (gI g, 10, .inl (fun _ => 0))), (u_3 10, .inl (gI g, 10, .inl (fun _ => 0))), (u_3 11, .inl (gI g, 10, .inl (fun _ => 0))), (u_3 12, .inl (gI g, 10, .inl (fun _ => 0))), (u_3 13, .inl (gI g, 10, .inl (fun _ => 0))), (u_3 14, .inl (gI g, 10, .inl (fun _ => 0))), (u_3 15, .inl (gI g, 10, .inl (fun _ => 0))), (u_3 16, .inl (gI g, 10, .inl (fun _ => 0))), (u_3 17, .inr (3, [.int 0, .ref (u_3 18), .ref (u_3 19), .ref (u_3 20)])), (u_3 18, .inl (gI g, 40, .inl (fun _ => 0))), (u_3 19, .inl (gI g, 40, .inl (fun _ => 0))), (u_3 20, .inl (gI g, 40, .inl (fun _ => 0))), (u_3 21, .inr (3, [.int 0, .ref (u_3 22), .ref (u_3 23), .ref (u_3 24)])), (u_3 22, .inl (gI g, 40, .inl (fun _ => 0))), (u_3 23, .inl (gI g, 40, .inl (fun _ => 0))), (u_3 24, .inl (gI g, 40, .inl (fun _ => 0))), (u_3 25, .inr (6, [.int 0, .int 0, .ref (u_3 26)])), (u_3 26, .inl (gI g, 14, .inl (fun _ => 0))), (u_3 27, .inl (gI g, 60, .inl (fun _ => 0))), (q_5, .inr (2, [.int 0, .int 0, .ref (u_7 1)])), (u_7 1, .inl (gN g, 16, .inr (.inr (.inr (.inr (fun _ => none)))))), (q_9, .inr (7, [.ref (u_11 1), .ref (u_11 2)])), (u_11 1, .inl (gI g, 7, .inl (fun _ => 0))), (u_11 2, .inl (gJ g, 5, .inr (.inl (fun _ => 0)))), (q_13, .inr (5, [.ref (u_15 1), .ref (u_15 2), .ref (u_15 3), .int 0, .int 0])), (u_15 1, .inl (gI g, 128, .inl (fun _ => 0))), (u_15 2, .inl (gI g, 128, .inl (fun _ => 0))), (u_15 3, .inl (gI g, 128, .inl (fun _ => 0))), (q_17, .inr (10, [.ref (u_19 1)])), (u_19 1, .inl (gI g, 60, .inl (fun _ => 0))), (q_21, .inl (gS g, 4, .inr (.inr (.inr (.inr (fun _ => none))))))] H := hP
  have hD : va_D A [(h, .inr (11, [.ref q_1, .ref q_5, .ref q_9, .ref q_13, .ref q_17, .null, .int 0])), (q_1, .inr (4, [.ref (u_3 1), .ref (u_3 5), .ref (u_3 8), .ref (u_3 17), .ref (u_3 21), .ref (u_3 25), .ref (u_3 27), .int 0, .int 0, .int 36, .int 10])), (u_3 1, .inr (8, [.int 0, .ref (u_3 2), .ref (u_3 3), .ref (u_3 4)])), (u_3 2, .inl (gI g, 5, .inl (fun _ => 0))), (u_3 3, .inl (gI g, 5, .inl (fun _ => 0))), (u_3 4, .inl (gI g, 5, .inl (fun _ => 0))), (u_3 5, .inr (1, [.int 0, .ref (u_3 6), .ref (u_3 7), .int 0])), (u_3 6, .inl (gI g, 7, .inl (fun _ => 0))), (u_3 7, .inl (gI g, 7, .inl (fun _ => 0))), (u_3 8, .inr (0, [.int 0, .ref (u_3 9), .ref (u_3 10), .ref (u_3 11), .ref (u_3 12), .ref (u_3 13), .ref (u_3 14), .ref (u_3 15), .int 0, .int 0, .int 0, .ref (u_3 16)])), (u_3 9, .inl (gI g, 10, .inl (fun _ => 0))), (u_3 10, .inl (gI g, 10, .inl (fun _ => 0))), (u_3 11, .inl (gI g, 10, .inl (fun _ => 0))), (u_3 12, .inl (gI g, 10, .inl (fun _ => 0))), (u_3 13, .inl (gI g, 10, .inl (fun _ => 0))), (u_3 14, .inl (gI g, 10, .inl (fun _ => 0))), (u_3 15, .inl (gI g, 10, .inl (fun _ => 0))), (u_3 16, .inl (gI g, 10, .inl (fun _ => 0))), (u_3 17, .inr (3, [.int 0, .ref (u_3 18), .ref (u_3 19), .ref (u_3 20)])), (u_3 18, .inl (gI g, 40, .inl (fun _ => 0))), (u_3 19, .inl (gI g, 40, .inl (fun _ => 0))), (u_3 20, .inl (gI g, 40, .inl (fun _ => 0))), (u_3 21, .inr (3, [.int 0, .ref (u_3 22), .ref (u_3 23), .ref (u_3 24)])), (u_3 22, .inl (gI g, 40, .inl (fun _ => 0))), (u_3 23, .inl (gI g, 40, .inl (fun _ => 0))), (u_3 24, .inl (gI g, 40, .inl (fun _ => 0))), (u_3 25, .inr (6, [.int 0, .int 0, .ref (u_3 26)])), (u_3 26, .inl (gI g, 14, .inl (fun _ => 0))), (u_3 27, .inl (gI g, 60, .inl (fun _ => 0))), (q_5, .inr (2, [.int 0, .int 0, .ref (u_7 1)])), (u_7 1, .inl (gN g, 16, .inr (.inr (.inr (.inr (fun _ => none)))))), (q_9, .inr (7, [.ref (u_11 1), .ref (u_11 2)])), (u_11 1, .inl (gI g, 7, .inl (fun _ => 0))), (u_11 2, .inl (gJ g, 5, .inr (.inl (fun _ => 0)))), (q_13, .inr (5, [.ref (u_15 1), .ref (u_15 2), .ref (u_15 3), .int 0, .int 0])), (u_15 1, .inl (gI g, 128, .inl (fun _ => 0))), (u_15 2, .inl (gI g, 128, .inl (fun _ => 0))), (u_15 3, .inl (gI g, 128, .inl (fun _ => 0))), (q_17, .inr (10, [.ref (u_19 1)])), (u_19 1, .inl (gI g, 60, .inl (fun _ => 0))), (q_21, .inl (gS g, 4, .inr (.inr (.inr (.inr (fun _ => none))))))] := hD
  refine W.widen (k := 40) (n := 952) (Nat.le_of_ble_eq_true rfl) (Nat.le_of_ble_eq_true rfl) ?_
  refine va_putF (ci := 11) (v := .ref q_21) (C := RX11) (T := TX11) (N := 7) hx hb hts inlX11 tyX11 tyX11_ok nmX11 hown hKW.1 hP hD hS 0 rfl rfl 5 (by decide) (hts _ wd_2_9) (fun _ h => h) rfl hnm rfl (tyX11_ok 5 (by decide)) rfl rfl (Nat.le_of_ble_eq_true rfl) dX11_init_64 (fun H locs hP hD hS => ?_)
  have hP : va_P g.1 vwCl [(h, .inr (11, [.ref q_1, .ref q_5, .ref q_9, .ref q_13, .ref q_17, .ref q_21, .int 0])), (q_1, .inr (4, [.ref (u_3 1), .ref (u_3 5), .ref (u_3 8), .ref (u_3 17), .ref (u_3 21), .ref (u_3 25), .ref (u_3 27), .int 0, .int 0, .int 36, .int 10])), (u_3 1, .inr (8, [.int 0, .ref (u_3 2), .ref (u_3 3), .ref (u_3 4)])), (u_3 2, .inl (gI g, 5, .inl (fun _ => 0))), (u_3 3, .inl (gI g, 5, .inl (fun _ => 0))), (u_3 4, .inl (gI g, 5, .inl (fun _ => 0))), (u_3 5, .inr (1, [.int 0, .ref (u_3 6), .ref (u_3 7), .int 0])), (u_3 6, .inl (gI g, 7, .inl (fun _ => 0))), (u_3 7, .inl (gI g, 7, .inl (fun _ => 0))), (u_3 8, .inr (0, [.int 0, .ref (u_3 9), .ref (u_3 10), .ref (u_3 11), .ref (u_3 12), .ref (u_3 13), .ref (u_3 14), .ref (u_3 15), .int 0, .int 0, .int 0, .ref (u_3 16)])), (u_3 9, .inl (gI g, 10, .inl (fun _ => 0))), (u_3 10, .inl (gI g, 10, .inl (fun _ => 0))), (u_3 11, .inl (gI g, 10, .inl (fun _ => 0))), (u_3 12, .inl (gI g, 10, .inl (fun _ => 0))), (u_3 13, .inl (gI g, 10, .inl (fun _ => 0))), (u_3 14, .inl (gI g, 10, .inl (fun _ => 0))), (u_3 15, .inl (gI g, 10, .inl (fun _ => 0))), (u_3 16, .inl (gI g, 10, .inl (fun _ => 0))), (u_3 17, .inr (3, [.int 0, .ref (u_3 18), .ref (u_3 19), .ref (u_3 20)])), (u_3 18, .inl (gI g, 40, .inl (fun _ => 0))), (u_3 19, .inl (gI g, 40, .inl (fun _ => 0))), (u_3 20, .inl (gI g, 40, .inl (fun _ => 0))), (u_3 21, .inr (3, [.int 0, .ref (u_3 22), .ref (u_3 23), .ref (u_3 24)])), (u_3 22, .inl (gI g, 40, .inl (fun _ => 0))), (u_3 23, .inl (gI g, 40, .inl (fun _ => 0))), (u_3 24, .inl (gI g, 40, .inl (fun _ => 0))), (u_3 25, .inr (6, [.int 0, .int 0, .ref (u_3 26)])), (u_3 26, .inl (gI g, 14, .inl (fun _ => 0))), (u_3 27, .inl (gI g, 60, .inl (fun _ => 0))), (q_5, .inr (2, [.int 0, .int 0, .ref (u_7 1)])), (u_7 1, .inl (gN g, 16, .inr (.inr (.inr (.inr (fun _ => none)))))), (q_9, .inr (7, [.ref (u_11 1), .ref (u_11 2)])), (u_11 1, .inl (gI g, 7, .inl (fun _ => 0))), (u_11 2, .inl (gJ g, 5, .inr (.inl (fun _ => 0)))), (q_13, .inr (5, [.ref (u_15 1), .ref (u_15 2), .ref (u_15 3), .int 0, .int 0])), (u_15 1, .inl (gI g, 128, .inl (fun _ => 0))), (u_15 2, .inl (gI g, 128, .inl (fun _ => 0))), (u_15 3, .inl (gI g, 128, .inl (fun _ => 0))), (q_17, .inr (10, [.ref (u_19 1)])), (u_19 1, .inl (gI g, 60, .inl (fun _ => 0))), (q_21, .inl (gS g, 4, .inr (.inr (.inr (.inr (fun _ => none))))))] H := hP
  have hD : va_D A [(h, .inr (11, [.ref q_1, .ref q_5, .ref q_9, .ref q_13, .ref q_17, .ref q_21, .int 0])), (q_1, .inr (4, [.ref (u_3 1), .ref (u_3 5), .ref (u_3 8), .ref (u_3 17), .ref (u_3 21), .ref (u_3 25), .ref (u_3 27), .int 0, .int 0, .int 36, .int 10])), (u_3 1, .inr (8, [.int 0, .ref (u_3 2), .ref (u_3 3), .ref (u_3 4)])), (u_3 2, .inl (gI g, 5, .inl (fun _ => 0))), (u_3 3, .inl (gI g, 5, .inl (fun _ => 0))), (u_3 4, .inl (gI g, 5, .inl (fun _ => 0))), (u_3 5, .inr (1, [.int 0, .ref (u_3 6), .ref (u_3 7), .int 0])), (u_3 6, .inl (gI g, 7, .inl (fun _ => 0))), (u_3 7, .inl (gI g, 7, .inl (fun _ => 0))), (u_3 8, .inr (0, [.int 0, .ref (u_3 9), .ref (u_3 10), .ref (u_3 11), .ref (u_3 12), .ref (u_3 13), .ref (u_3 14), .ref (u_3 15), .int 0, .int 0, .int 0, .ref (u_3 16)])), (u_3 9, .inl (gI g, 10, .inl (fun _ => 0))), (u_3 10, .inl (gI g, 10, .inl (fun _ => 0))), (u_3 11, .inl (gI g, 10, .inl (fun _ => 0))), (u_3 12, .inl (gI g, 10, .inl (fun _ => 0))), (u_3 13, .inl (gI g, 10, .inl (fun _ => 0))), (u_3 14, .inl (gI g, 10, .inl (fun _ => 0))), (u_3 15, .inl (gI g, 10, .inl (fun _ => 0))), (u_3 16, .inl (gI g, 10, .inl (fun _ => 0))), (u_3 17, .inr (3, [.int 0, .ref (u_3 18), .ref (u_3 19), .ref (u_3 20)])), (u_3 18, .inl (gI g, 40, .inl (fun _ => 0))), (u_3 19, .inl (gI g, 40, .inl (fun _ => 0))), (u_3 20, .inl (gI g, 40, .inl (fun _ => 0))), (u_3 21, .inr (3, [.int 0, .ref (u_3 22), .ref (u_3 23), .ref (u_3 24)])), (u_3 22, .inl (gI g, 40, .inl (fun _ => 0))), (u_3 23, .inl (gI g, 40, .inl (fun _ => 0))), (u_3 24, .inl (gI g, 40, .inl (fun _ => 0))), (u_3 25, .inr (6, [.int 0, .int 0, .ref (u_3 26)])), (u_3 26, .inl (gI g, 14, .inl (fun _ => 0))), (u_3 27, .inl (gI g, 60, .inl (fun _ => 0))), (q_5, .inr (2, [.int 0, .int 0, .ref (u_7 1)])), (u_7 1, .inl (gN g, 16, .inr (.inr (.inr (.inr (fun _ => none)))))), (q_9, .inr (7, [.ref (u_11 1), .ref (u_11 2)])), (u_11 1, .inl (gI g, 7, .inl (fun _ => 0))), (u_11 2, .inl (gJ g, 5, .inr (.inl (fun _ => 0)))), (q_13, .inr (5, [.ref (u_15 1), .ref (u_15 2), .ref (u_15 3), .int 0, .int 0])), (u_15 1, .inl (gI g, 128, .inl (fun _ => 0))), (u_15 2, .inl (gI g, 128, .inl (fun _ => 0))), (u_15 3, .inl (gI g, 128, .inl (fun _ => 0))), (q_17, .inr (10, [.ref (u_19 1)])), (u_19 1, .inl (gI g, 60, .inl (fun _ => 0))), (q_21, .inl (gS g, 4, .inr (.inr (.inr (.inr (fun _ => none))))))] := hD
  refine lv_iconst (v := 0) hx hb dX11_init_67 (by decide) ?_
  refine lv_istore_n (lv' := [(1, .int 0), (0, .ref h)]) hx hb dX11_init_68 rfl hl (by decide) rfl (fun ls hl => ?_)
  refine lv_iload_n hx hb dX11_init_69 rfl (lv_at hl 0 rfl) ?_
  refine lv_iconst (v := 4) hx hb dX11_init_70 (by decide) ?_
  refine lv_icmp_ge (tgt := 93) hx hb dX11_init_71 (by decide) (fun c => absurd c (by decide)) (fun _ => ?_)
  refine lv_aload_n hx hb dX11_init_74 rfl (lv_at hl 1 rfl) ?_
  refine va_get (ci := 11) (C := RX11) (T := TX11) (N := 7) hx hb hts inlX11 hown hKW.1 hP 0 rfl rfl 5 (by decide) (hts _ wd_2_9) (fun _ h => h) rfl dX11_init_75 ?_
  refine lv_iload_n hx hb dX11_init_78 rfl (lv_at hl 0 rfl) ?_
  refine va_new (ci := 9) (fs := [.int 0, .int 0, .null]) (C := RX9) (T := TX9) (N := 3) hx hb hts inlX9 tyX9 tyX9_ok hown (hts _ wd_2_8) (hts _ wd_2_10) (hts _ wd_2_11) hKW.1 hP hD hS hA rfl (fun j hj => by rcases (show j = 0 ∨ j = 1 ∨ j = 2 by omega) with rfl | rfl | rfl <;> rfl) (Nat.le_of_ble_eq_true rfl) (Nat.le_of_ble_eq_true rfl) dX11_init_79 (fun q_22 H hP hD hS => ?_)
  have hP : va_P g.1 vwCl [(h, .inr (11, [.ref q_1, .ref q_5, .ref q_9, .ref q_13, .ref q_17, .ref q_21, .int 0])), (q_1, .inr (4, [.ref (u_3 1), .ref (u_3 5), .ref (u_3 8), .ref (u_3 17), .ref (u_3 21), .ref (u_3 25), .ref (u_3 27), .int 0, .int 0, .int 36, .int 10])), (u_3 1, .inr (8, [.int 0, .ref (u_3 2), .ref (u_3 3), .ref (u_3 4)])), (u_3 2, .inl (gI g, 5, .inl (fun _ => 0))), (u_3 3, .inl (gI g, 5, .inl (fun _ => 0))), (u_3 4, .inl (gI g, 5, .inl (fun _ => 0))), (u_3 5, .inr (1, [.int 0, .ref (u_3 6), .ref (u_3 7), .int 0])), (u_3 6, .inl (gI g, 7, .inl (fun _ => 0))), (u_3 7, .inl (gI g, 7, .inl (fun _ => 0))), (u_3 8, .inr (0, [.int 0, .ref (u_3 9), .ref (u_3 10), .ref (u_3 11), .ref (u_3 12), .ref (u_3 13), .ref (u_3 14), .ref (u_3 15), .int 0, .int 0, .int 0, .ref (u_3 16)])), (u_3 9, .inl (gI g, 10, .inl (fun _ => 0))), (u_3 10, .inl (gI g, 10, .inl (fun _ => 0))), (u_3 11, .inl (gI g, 10, .inl (fun _ => 0))), (u_3 12, .inl (gI g, 10, .inl (fun _ => 0))), (u_3 13, .inl (gI g, 10, .inl (fun _ => 0))), (u_3 14, .inl (gI g, 10, .inl (fun _ => 0))), (u_3 15, .inl (gI g, 10, .inl (fun _ => 0))), (u_3 16, .inl (gI g, 10, .inl (fun _ => 0))), (u_3 17, .inr (3, [.int 0, .ref (u_3 18), .ref (u_3 19), .ref (u_3 20)])), (u_3 18, .inl (gI g, 40, .inl (fun _ => 0))), (u_3 19, .inl (gI g, 40, .inl (fun _ => 0))), (u_3 20, .inl (gI g, 40, .inl (fun _ => 0))), (u_3 21, .inr (3, [.int 0, .ref (u_3 22), .ref (u_3 23), .ref (u_3 24)])), (u_3 22, .inl (gI g, 40, .inl (fun _ => 0))), (u_3 23, .inl (gI g, 40, .inl (fun _ => 0))), (u_3 24, .inl (gI g, 40, .inl (fun _ => 0))), (u_3 25, .inr (6, [.int 0, .int 0, .ref (u_3 26)])), (u_3 26, .inl (gI g, 14, .inl (fun _ => 0))), (u_3 27, .inl (gI g, 60, .inl (fun _ => 0))), (q_5, .inr (2, [.int 0, .int 0, .ref (u_7 1)])), (u_7 1, .inl (gN g, 16, .inr (.inr (.inr (.inr (fun _ => none)))))), (q_9, .inr (7, [.ref (u_11 1), .ref (u_11 2)])), (u_11 1, .inl (gI g, 7, .inl (fun _ => 0))), (u_11 2, .inl (gJ g, 5, .inr (.inl (fun _ => 0)))), (q_13, .inr (5, [.ref (u_15 1), .ref (u_15 2), .ref (u_15 3), .int 0, .int 0])), (u_15 1, .inl (gI g, 128, .inl (fun _ => 0))), (u_15 2, .inl (gI g, 128, .inl (fun _ => 0))), (u_15 3, .inl (gI g, 128, .inl (fun _ => 0))), (q_17, .inr (10, [.ref (u_19 1)])), (u_19 1, .inl (gI g, 60, .inl (fun _ => 0))), (q_21, .inl (gS g, 4, .inr (.inr (.inr (.inr (fun _ => none)))))), (q_22, .inr (9, [.int 0, .int 0, .null]))] H := hP
  have hD : va_D A [(h, .inr (11, [.ref q_1, .ref q_5, .ref q_9, .ref q_13, .ref q_17, .ref q_21, .int 0])), (q_1, .inr (4, [.ref (u_3 1), .ref (u_3 5), .ref (u_3 8), .ref (u_3 17), .ref (u_3 21), .ref (u_3 25), .ref (u_3 27), .int 0, .int 0, .int 36, .int 10])), (u_3 1, .inr (8, [.int 0, .ref (u_3 2), .ref (u_3 3), .ref (u_3 4)])), (u_3 2, .inl (gI g, 5, .inl (fun _ => 0))), (u_3 3, .inl (gI g, 5, .inl (fun _ => 0))), (u_3 4, .inl (gI g, 5, .inl (fun _ => 0))), (u_3 5, .inr (1, [.int 0, .ref (u_3 6), .ref (u_3 7), .int 0])), (u_3 6, .inl (gI g, 7, .inl (fun _ => 0))), (u_3 7, .inl (gI g, 7, .inl (fun _ => 0))), (u_3 8, .inr (0, [.int 0, .ref (u_3 9), .ref (u_3 10), .ref (u_3 11), .ref (u_3 12), .ref (u_3 13), .ref (u_3 14), .ref (u_3 15), .int 0, .int 0, .int 0, .ref (u_3 16)])), (u_3 9, .inl (gI g, 10, .inl (fun _ => 0))), (u_3 10, .inl (gI g, 10, .inl (fun _ => 0))), (u_3 11, .inl (gI g, 10, .inl (fun _ => 0))), (u_3 12, .inl (gI g, 10, .inl (fun _ => 0))), (u_3 13, .inl (gI g, 10, .inl (fun _ => 0))), (u_3 14, .inl (gI g, 10, .inl (fun _ => 0))), (u_3 15, .inl (gI g, 10, .inl (fun _ => 0))), (u_3 16, .inl (gI g, 10, .inl (fun _ => 0))), (u_3 17, .inr (3, [.int 0, .ref (u_3 18), .ref (u_3 19), .ref (u_3 20)])), (u_3 18, .inl (gI g, 40, .inl (fun _ => 0))), (u_3 19, .inl (gI g, 40, .inl (fun _ => 0))), (u_3 20, .inl (gI g, 40, .inl (fun _ => 0))), (u_3 21, .inr (3, [.int 0, .ref (u_3 22), .ref (u_3 23), .ref (u_3 24)])), (u_3 22, .inl (gI g, 40, .inl (fun _ => 0))), (u_3 23, .inl (gI g, 40, .inl (fun _ => 0))), (u_3 24, .inl (gI g, 40, .inl (fun _ => 0))), (u_3 25, .inr (6, [.int 0, .int 0, .ref (u_3 26)])), (u_3 26, .inl (gI g, 14, .inl (fun _ => 0))), (u_3 27, .inl (gI g, 60, .inl (fun _ => 0))), (q_5, .inr (2, [.int 0, .int 0, .ref (u_7 1)])), (u_7 1, .inl (gN g, 16, .inr (.inr (.inr (.inr (fun _ => none)))))), (q_9, .inr (7, [.ref (u_11 1), .ref (u_11 2)])), (u_11 1, .inl (gI g, 7, .inl (fun _ => 0))), (u_11 2, .inl (gJ g, 5, .inr (.inl (fun _ => 0)))), (q_13, .inr (5, [.ref (u_15 1), .ref (u_15 2), .ref (u_15 3), .int 0, .int 0])), (u_15 1, .inl (gI g, 128, .inl (fun _ => 0))), (u_15 2, .inl (gI g, 128, .inl (fun _ => 0))), (u_15 3, .inl (gI g, 128, .inl (fun _ => 0))), (q_17, .inr (10, [.ref (u_19 1)])), (u_19 1, .inl (gI g, 60, .inl (fun _ => 0))), (q_21, .inl (gS g, 4, .inr (.inr (.inr (.inr (fun _ => none)))))), (q_22, .inr (9, [.int 0, .int 0, .null]))] := hD
  refine W.widen (k := 41) (n := 955) (Nat.le_of_ble_eq_true rfl) (Nat.le_of_ble_eq_true rfl) ?_
  refine lv_dup hx hb dX11_init_82 rfl ?_
  refine k_IN [41] [0, 1, 2, 3, 4, 5, 6, 7, 8, 9, 10, 11, 12, 13, 14, 15, 16, 17, 18, 19, 20, 21, 22, 23, 24, 25, 26, 27, 28, 29, 30, 31, 32, 33, 34, 35, 36, 37, 38, 39, 40] (wr := [(h, .inr (11, [.ref q_1, .ref q_5, .ref q_9, .ref q_13, .ref q_17, .ref q_21, .int 0])), (q_1, .inr (4, [.ref (u_3 1), .ref (u_3 5), .ref (u_3 8), .ref (u_3 17), .ref (u_3 21), .ref (u_3 25), .ref (u_3 27), .int 0, .int 0, .int 36, .int 10])), (u_3 1, .inr (8, [.int 0, .ref (u_3 2), .ref (u_3 3), .ref (u_3 4)])), (u_3 2, .inl (gI g, 5, .inl (fun _ => 0))), (u_3 3, .inl (gI g, 5, .inl (fun _ => 0))), (u_3 4, .inl (gI g, 5, .inl (fun _ => 0))), (u_3 5, .inr (1, [.int 0, .ref (u_3 6), .ref (u_3 7), .int 0])), (u_3 6, .inl (gI g, 7, .inl (fun _ => 0))), (u_3 7, .inl (gI g, 7, .inl (fun _ => 0))), (u_3 8, .inr (0, [.int 0, .ref (u_3 9), .ref (u_3 10), .ref (u_3 11), .ref (u_3 12), .ref (u_3 13), .ref (u_3 14), .ref (u_3 15), .int 0, .int 0, .int 0, .ref (u_3 16)])), (u_3 9, .inl (gI g, 10, .inl (fun _ => 0))), (u_3 10, .inl (gI g, 10, .inl (fun _ => 0))), (u_3 11, .inl (gI g, 10, .inl (fun _ => 0))), (u_3 12, .inl (gI g, 10, .inl (fun _ => 0))), (u_3 13, .inl (gI g, 10, .inl (fun _ => 0))), (u_3 14, .inl (gI g, 10, .inl (fun _ => 0))), (u_3 15, .inl (gI g, 10, .inl (fun _ => 0))), (u_3 16, .inl (gI g, 10, .inl (fun _ => 0))), (u_3 17, .inr (3, [.int 0, .ref (u_3 18), .ref (u_3 19), .ref (u_3 20)])), (u_3 18, .inl (gI g, 40, .inl (fun _ => 0))), (u_3 19, .inl (gI g, 40, .inl (fun _ => 0))), (u_3 20, .inl (gI g, 40, .inl (fun _ => 0))), (u_3 21, .inr (3, [.int 0, .ref (u_3 22), .ref (u_3 23), .ref (u_3 24)])), (u_3 22, .inl (gI g, 40, .inl (fun _ => 0))), (u_3 23, .inl (gI g, 40, .inl (fun _ => 0))), (u_3 24, .inl (gI g, 40, .inl (fun _ => 0))), (u_3 25, .inr (6, [.int 0, .int 0, .ref (u_3 26)])), (u_3 26, .inl (gI g, 14, .inl (fun _ => 0))), (u_3 27, .inl (gI g, 60, .inl (fun _ => 0))), (q_5, .inr (2, [.int 0, .int 0, .ref (u_7 1)])), (u_7 1, .inl (gN g, 16, .inr (.inr (.inr (.inr (fun _ => none)))))), (q_9, .inr (7, [.ref (u_11 1), .ref (u_11 2)])), (u_11 1, .inl (gI g, 7, .inl (fun _ => 0))), (u_11 2, .inl (gJ g, 5, .inr (.inl (fun _ => 0)))), (q_13, .inr (5, [.ref (u_15 1), .ref (u_15 2), .ref (u_15 3), .int 0, .int 0])), (u_15 1, .inl (gI g, 128, .inl (fun _ => 0))), (u_15 2, .inl (gI g, 128, .inl (fun _ => 0))), (u_15 3, .inl (gI g, 128, .inl (fun _ => 0))), (q_17, .inr (10, [.ref (u_19 1)])), (u_19 1, .inl (gI g, 60, .inl (fun _ => 0))), (q_21, .inl (gS g, 4, .inr (.inr (.inr (.inr (fun _ => none))))))]) hx hb hml hown hts hKW hP hD hS hA hl.1 (c_X9_init l g _ q_22 ) rfl wd_5_22 wd_2_11 nw_10 wd_5_21 yd_X9_init ⟨Nat.le_of_ble_eq_true rfl, Nat.le_of_ble_eq_true rfl⟩ rfl rfl rfl rfl rfl (by decide) rfl (Nat.le_of_ble_eq_true rfl) dX11_init_83 ⟨Nat.le_of_ble_eq_true rfl, Nat.le_of_ble_eq_true rfl⟩ (fun u_24 H locs hw_25 hP hD hS => ?_)
  have hP : va_P g.1 vwCl [(h, .inr (11, [.ref q_1, .ref q_5, .ref q_9, .ref q_13, .ref q_17, .ref q_21, .int 0])), (q_1, .inr (4, [.ref (u_3 1), .ref (u_3 5), .ref (u_3 8), .ref (u_3 17), .ref (u_3 21), .ref (u_3 25), .ref (u_3 27), .int 0, .int 0, .int 36, .int 10])), (u_3 1, .inr (8, [.int 0, .ref (u_3 2), .ref (u_3 3), .ref (u_3 4)])), (u_3 2, .inl (gI g, 5, .inl (fun _ => 0))), (u_3 3, .inl (gI g, 5, .inl (fun _ => 0))), (u_3 4, .inl (gI g, 5, .inl (fun _ => 0))), (u_3 5, .inr (1, [.int 0, .ref (u_3 6), .ref (u_3 7), .int 0])), (u_3 6, .inl (gI g, 7, .inl (fun _ => 0))), (u_3 7, .inl (gI g, 7, .inl (fun _ => 0))), (u_3 8, .inr (0, [.int 0, .ref (u_3 9), .ref (u_3 10), .ref (u_3 11), .ref (u_3 12), .ref (u_3 13), .ref (u_3 14), .ref (u_3 15), .int 0, .int 0, .int 0, .ref (u_3 16)])), (u_3 9, .inl (gI g, 10, .inl (fun _ => 0))), (u_3 10, .inl (gI g, 10, .inl (fun _ => 0))), (u_3 11, .inl (gI g, 10, .inl (fun _ => 0))), (u_3 12, .inl (gI g, 10, .inl (fun _ => 0))), (u_3 13, .inl (gI g, 10, .inl (fun _ => 0))), (u_3 14, .inl (gI g, 10, .inl (fun _ => 0))), (u_3 15, .inl (gI g, 10, .inl (fun _ => 0))), (u_3 16, .inl (gI g, 10, .inl (fun _ => 0))), (u_3 17, .inr (3, [.int 0, .ref (u_3 18), .ref (u_3 19), .ref (u_3 20)])), (u_3 18, .inl (gI g, 40, .inl (fun _ => 0))), (u_3 19, .inl (gI g, 40, .inl (fun _ => 0))), (u_3 20, .inl (gI g, 40, .inl (fun _ => 0))), (u_3 21, .inr (3, [.int 0, .ref (u_3 22), .ref (u_3 23), .ref (u_3 24)])), (u_3 22, .inl (gI g, 40, .inl (fun _ => 0))), (u_3 23, .inl (gI g, 40, .inl (fun _ => 0))), (u_3 24, .inl (gI g, 40, .inl (fun _ => 0))), (u_3 25, .inr (6, [.int 0, .int 0, .ref (u_3 26)])), (u_3 26, .inl (gI g, 14, .inl (fun _ => 0))), (u_3 27, .inl (gI g, 60, .inl (fun _ => 0))), (q_5, .inr (2, [.int 0, .int 0, .ref (u_7 1)])), (u_7 1, .inl (gN g, 16, .inr (.inr (.inr (.inr (fun _ => none)))))), (q_9, .inr (7, [.ref (u_11 1), .ref (u_11 2)])), (u_11 1, .inl (gI g, 7, .inl (fun _ => 0))), (u_11 2, .inl (gJ g, 5, .inr (.inl (fun _ => 0)))), (q_13, .inr (5, [.ref (u_15 1), .ref (u_15 2), .ref (u_15 3), .int 0, .int 0])), (u_15 1, .inl (gI g, 128, .inl (fun _ => 0))), (u_15 2, .inl (gI g, 128, .inl (fun _ => 0))), (u_15 3, .inl (gI g, 128, .inl (fun _ => 0))), (q_17, .inr (10, [.ref (u_19 1)])), (u_19 1, .inl (gI g, 60, .inl (fun _ => 0))), (q_21, .inl (gS g, 4, .inr (.inr (.inr (.inr (fun _ => none)))))), (q_22, .inr (9, [.int 0, .int 0, .ref (u_24 1)])), (u_24 1, .inl (gI g, 60, .inl (fun _ => 0)))] H := hP
  have hD : va_D A [(h, .inr (11, [.ref q_1, .ref q_5, .ref q_9, .ref q_13, .ref q_17, .ref q_21, .int 0])), (q_1, .inr (4, [.ref (u_3 1), .ref (u_3 5), .ref (u_3 8), .ref (u_3 17), .ref (u_3 21), .ref (u_3 25), .ref (u_3 27), .int 0, .int 0, .int 36, .int 10])), (u_3 1, .inr (8, [.int 0, .ref (u_3 2), .ref (u_3 3), .ref (u_3 4)])), (u_3 2, .inl (gI g, 5, .inl (fun _ => 0))), (u_3 3, .inl (gI g, 5, .inl (fun _ => 0))), (u_3 4, .inl (gI g, 5, .inl (fun _ => 0))), (u_3 5, .inr (1, [.int 0, .ref (u_3 6), .ref (u_3 7), .int 0])), (u_3 6, .inl (gI g, 7, .inl (fun _ => 0))), (u_3 7, .inl (gI g, 7, .inl (fun _ => 0))), (u_3 8, .inr (0, [.int 0, .ref (u_3 9), .ref (u_3 10), .ref (u_3 11), .ref (u_3 12), .ref (u_3 13), .ref (u_3 14), .ref (u_3 15), .int 0, .int 0, .int 0, .ref (u_3 16)])), (u_3 9, .inl (gI g, 10, .inl (fun _ => 0))), (u_3 10, .inl (gI g, 10, .inl (fun _ => 0))), (u_3 11, .inl (gI g, 10, .inl (fun _ => 0))), (u_3 12, .inl (gI g, 10, .inl (fun _ => 0))), (u_3 13, .inl (gI g, 10, .inl (fun _ => 0))), (u_3 14, .inl (gI g, 10, .inl (fun _ => 0))), (u_3 15, .inl (gI g, 10, .inl (fun _ => 0))), (u_3 16, .inl (gI g, 10, .inl (fun _ => 0))), (u_3 17, .inr (3, [.int 0, .ref (u_3 18), .ref (u_3 19), .ref (u_3 20)])), (u_3 18, .inl (gI g, 40, .inl (fun _ => 0))), (u_3 19, .inl (gI g, 40, .inl (fun _ => 0))), (u_3 20, .inl (gI g, 40, .inl (fun _ => 0))), (u_3 21, .inr (3, [.int 0, .ref (u_3 22), .ref (u_3 23), .ref (u_3 24)])), (u_3 22, .inl (gI g, 40, .inl (fun _ => 0))), (u_3 23, .inl (gI g, 40, .inl (fun _ => 0))), (u_3 24, .inl (gI g, 40, .inl (fun _ => 0))), (u_3 25, .inr (6, [.int 0, .int 0, .ref (u_3 26)])), (u_3 26, .inl (gI g, 14, .inl (fun _ => 0))), (u_3 27, .inl (gI g, 60, .inl (fun _ => 0))), (q_5, .inr (2, [.int 0, .int 0, .ref (u_7 1)])), (u_7 1, .inl (gN g, 16, .inr (.inr (.inr (.inr (fun _ => none)))))), (q_9, .inr (7, [.ref (u_11 1), .ref (u_11 2)])), (u_11 1, .inl (gI g, 7, .inl (fun _ => 0))), (u_11 2, .inl (gJ g, 5, .inr (.inl (fun _ => 0)))), (q_13, .inr (5, [.ref (u_15 1), .ref (u_15 2), .ref (u_15 3), .int 0, .int 0])), (u_15 1, .inl (gI g, 128, .inl (fun _ => 0))), (u_15 2, .inl (gI g, 128, .inl (fun _ => 0))), (u_15 3, .inl (gI g, 128, .inl (fun _ => 0))), (q_17, .inr (10, [.ref (u_19 1)])), (u_19 1, .inl (gI g, 60, .inl (fun _ => 0))), (q_21, .inl (gS g, 4, .inr (.inr (.inr (.inr (fun _ => none)))))), (q_22, .inr (9, [.int 0, .int 0, .ref (u_24 1)])), (u_24 1, .inl (gI g, 60, .inl (fun _ => 0)))] := hD
  refine W.widen (k := 42) (n := 1015) (Nat.le_of_ble_eq_true rfl) (Nat.le_of_ble_eq_true rfl) ?_
  refine va_astq hx hb hKW.1 hP hD hS 40 4 41 9 rfl rfl rfl rfl (show ¬ _ by decide) dX11_init_86 (fun H locs hP hD hS => ?_)
  have hP : va_P g.1 vwCl [(h, .inr (11, [.ref q_1, .ref q_5, .ref q_9, .ref q_13, .ref q_17, .ref q_21, .int 0])), (q_1, .inr (4, [.ref (u_3 1), .ref (u_3 5), .ref (u_3 8), .ref (u_3 17), .ref (u_3 21), .ref (u_3 25), .ref (u_3 27), .int 0, .int 0, .int 36, .int 10])), (u_3 1, .inr (8, [.int 0, .ref (u_3 2), .ref (u_3 3), .ref (u_3 4)])), (u_3 2, .inl (gI g, 5, .inl (fun _ => 0))), (u_3 3, .inl (gI g, 5, .inl (fun _ => 0))), (u_3 4, .inl (gI g, 5, .inl (fun _ => 0))), (u_3 5, .inr (1, [.int 0, .ref (u_3 6), .ref (u_3 7), .int 0])), (u_3 6, .inl (gI g, 7, .inl (fun _ => 0))), (u_3 7, .inl (gI g, 7, .inl (fun _ => 0))), (u_3 8, .inr (0, [.int 0, .ref (u_3 9), .ref (u_3 10), .ref (u_3 11), .ref (u_3 12), .ref (u_3 13), .ref (u_3 14), .ref (u_3 15), .int 0, .int 0, .int 0, .ref (u_3 16)])), (u_3 9, .inl (gI g, 10, .inl (fun _ => 0))), (u_3 10, .inl (gI g, 10, .inl (fun _ => 0))), (u_3 11, .inl (gI g, 10, .inl (fun _ => 0))), (u_3 12, .inl (gI g, 10, .inl (fun _ => 0))), (u_3 13, .inl (gI g, 10, .inl (fun _ => 0))), (u_3 14, .inl (gI g, 10, .inl (fun _ => 0))), (u_3 15, .inl (gI g, 10, .inl (fun _ => 0))), (u_3 16, .inl (gI g, 10, .inl (fun _ => 0))), (u_3 17, .inr (3, [.int 0, .ref (u_3 18), .ref (u_3 19), .ref (u_3 20)])), (u_3 18, .inl (gI g, 40, .inl (fun _ => 0))), (u_3 19, .inl (gI g, 40, .inl (fun _ => 0))), (u_3 20, .inl (gI g, 40, .inl (fun _ => 0))), (u_3 21, .inr (3, [.int 0, .ref (u_3 22), .ref (u_3 23), .ref (u_3 24)])), (u_3 22, .inl (gI g, 40, .inl (fun _ => 0))), (u_3 23, .inl (gI g, 40, .inl (fun _ => 0))), (u_3 24, .inl (gI g, 40, .inl (fun _ => 0))), (u_3 25, .inr (6, [.int 0, .int 0, .ref (u_3 26)])), (u_3 26, .inl (gI g, 14, .inl (fun _ => 0))), (u_3 27, .inl (gI g, 60, .inl (fun _ => 0))), (q_5, .inr (2, [.int 0, .int 0, .ref (u_7 1)])), (u_7 1, .inl (gN g, 16, .inr (.inr (.inr (.inr (fun _ => none)))))), (q_9, .inr (7, [.ref (u_11 1), .ref (u_11 2)])), (u_11 1, .inl (gI g, 7, .inl (fun _ => 0))), (u_11 2, .inl (gJ g, 5, .inr (.inl (fun _ => 0)))), (q_13, .inr (5, [.ref (u_15 1), .ref (u_15 2), .ref (u_15 3), .int 0, .int 0])), (u_15 1, .inl (gI g, 128, .inl (fun _ => 0))), (u_15 2, .inl (gI g, 128, .inl (fun _ => 0))), (u_15 3, .inl (gI g, 128, .inl (fun _ => 0))), (q_17, .inr (10, [.ref (u_19 1)])), (u_19 1, .inl (gI g, 60, .inl (fun _ => 0))), (q_21, .inl (gS g, 4, .inr (.inr (.inr (.inr (va_up (fun _ => none) 0 (some q_22))))))), (q_22, .inr (9, [.int 0, .int 0, .ref (u_24 1)])), (u_24 1, .inl (gI g, 60, .inl (fun _ => 0)))] H := hP
  have hD : va_D A [(h, .inr (11, [.ref q_1, .ref q_5, .ref q_9, .ref q_13, .ref q_17, .ref q_21, .int 0])), (q_1, .inr (4, [.ref (u_3 1), .ref (u_3 5), .ref (u_3 8), .ref (u_3 17), .ref (u_3 21), .ref (u_3 25), .ref (u_3 27), .int 0, .int 0, .int 36, .int 10])), (u_3 1, .inr (8, [.int 0, .ref (u_3 2), .ref (u_3 3), .ref (u_3 4)])), (u_3 2, .inl (gI g, 5, .inl (fun _ => 0))), (u_3 3, .inl (gI g, 5, .inl (fun _ => 0))), (u_3 4, .inl (gI g, 5, .inl (fun _ => 0))), (u_3 5, .inr (1, [.int 0, .ref (u_3 6), .ref (u_3 7), .int 0])), (u_3 6, .inl (gI g, 7, .inl (fun _ => 0))), (u_3 7, .inl (gI g, 7, .inl (fun _ => 0))), (u_3 8, .inr (0, [.int 0, .ref (u_3 9), .ref (u_3 10), .ref (u_3 11), .ref (u_3 12), .ref (u_3 13), .ref (u_3 14), .ref (u_3 15), .int 0, .int 0, .int 0, .ref (u_3 16)])), (u_3 9, .inl (gI g, 10, .inl (fun _ => 0))), (u_3 10, .inl (gI g, 10, .inl (fun _ => 0))), (u_3 11, .inl (gI g, 10, .inl (fun _ => 0))), (u_3 12, .inl (gI g, 10, .inl (fun _ => 0))), (u_3 13, .inl (gI g, 10, .inl (fun _ => 0))), (u_3 14, .inl (gI g, 10, .inl (fun _ => 0))), (u_3 15, .inl (gI g, 10, .inl (fun _ => 0))), (u_3 16, .inl (gI g, 10, .inl (fun _ => 0))), (u_3 17, .inr (3, [.int 0, .ref (u_3 18), .ref (u_3 19), .ref (u_3 20)])), (u_3 18, .inl (gI g, 40, .inl (fun _ => 0))), (u_3 19, .inl (gI g, 40, .inl (fun _ => 0))), (u_3 20, .inl (gI g, 40, .inl (fun _ => 0))), (u_3 21, .inr (3, [.int 0, .ref (u_3 22), .ref (u_3 23), .ref (u_3 24)])), (u_3 22, .inl (gI g, 40, .inl (fun _ => 0))), (u_3 23, .inl (gI g, 40, .inl (fun _ => 0))), (u_3 24, .inl (gI g, 40, .inl (fun _ => 0))), (u_3 25, .inr (6, [.int 0, .int 0, .ref (u_3 26)])), (u_3 26, .inl (gI g, 14, .inl (fun _ => 0))), (u_3 27, .inl (gI g, 60, .inl (fun _ => 0))), (q_5, .inr (2, [.int 0, .int 0, .ref (u_7 1)])), (u_7 1, .inl (gN g, 16, .inr (.inr (.inr (.inr (fun _ => none)))))), (q_9, .inr (7, [.ref (u_11 1), .ref (u_11 2)])), (u_11 1, .inl (gI g, 7, .inl (fun _ => 0))), (u_11 2, .inl (gJ g, 5, .inr (.inl (fun _ => 0)))), (q_13, .inr (5, [.ref (u_15 1), .ref (u_15 2), .ref (u_15 3), .int 0, .int 0])), (u_15 1, .inl (gI g, 128, .inl (fun _ => 0))), (u_15 2, .inl (gI g, 128, .inl (fun _ => 0))), (u_15 3, .inl (gI g, 128, .inl (fun _ => 0))), (q_17, .inr (10, [.ref (u_19 1)])), (u_19 1, .inl (gI g, 60, .inl (fun _ => 0))), (q_21, .inl (gS g, 4, .inr (.inr (.inr (.inr (va_up (fun _ => none) 0 (some q_22))))))), (q_22, .inr (9, [.int 0, .int 0, .ref (u_24 1)])), (u_24 1, .inl (gI g, 60, .inl (fun _ => 0)))] := hD
  refine lv_iinc (v := 1) (lv' := [(1, .int 1), (0, .ref h)]) hx hb dX11_init_87 hl (k := 0) rfl (by decide) (by decide) rfl (fun ls hl => ?_)
  refine lv_goto (tgt := 69) hx hb dX11_init_90 (by decide) ?_
  refine lv_iload_n hx hb dX11_init_69 rfl (lv_at hl 0 rfl) ?_
  refine lv_iconst (v := 4) hx hb dX11_init_70 (by decide) ?_
  refine lv_icmp_ge (tgt := 93) hx hb dX11_init_71 (by decide) (fun c => absurd c (by decide)) (fun _ => ?_)
  refine lv_aload_n hx hb dX11_init_74 rfl (lv_at hl 1 rfl) ?_
  refine va_get (ci := 11) (C := RX11) (T := TX11) (N := 7) hx hb hts inlX11 hown hKW.1 hP 0 rfl rfl 5 (by decide) (hts _ wd_2_9) (fun _ h => h) rfl dX11_init_75 ?_
  refine lv_iload_n hx hb dX11_init_78 rfl (lv_at hl 0 rfl) ?_
  refine va_new (ci := 9) (fs := [.int 0, .int 0, .null]) (C := RX9) (T := TX9) (N := 3) hx hb hts inlX9 tyX9 tyX9_ok hown (hts _ wd_2_8) (hts _ wd_2_10) (hts _ wd_2_11) hKW.1 hP hD hS hA rfl (fun j hj => by rcases (show j = 0 ∨ j = 1 ∨ j = 2 by omega) with rfl | rfl | rfl <;> rfl) (Nat.le_of_ble_eq_true rfl) (Nat.le_of_ble_eq_true rfl) dX11_init_79 (fun q_26 H hP hD hS => ?_)
  have hP : va_P g.1 vwCl [(h, .inr (11, [.ref q_1, .ref q_5, .ref q_9, .ref q_13, .ref q_17, .ref q_21, .int 0])), (q_1, .inr (4, [.ref (u_3 1), .ref (u_3 5), .ref (u_3 8), .ref (u_3 17), .ref (u_3 21), .ref (u_3 25), .ref (u_3 27), .int 0, .int 0, .int 36, .int 10])), (u_3 1, .inr (8, [.int 0, .ref (u_3 2), .ref (u_3 3), .ref (u_3 4)])), (u_3 2, .inl (gI g, 5, .inl (fun _ => 0))), (u_3 3, .inl (gI g, 5, .inl (fun _ => 0))), (u_3 4, .inl (gI g, 5, .inl (fun _ => 0))), (u_3 5, .inr (1, [.int 0, .ref (u_3 6), .ref (u_3 7), .int 0])), (u_3 6, .inl (gI g, 7, .inl (fun _ => 0))), (u_3 7, .inl (gI g, 7, .inl (fun _ => 0))), (u_3 8, .inr (0, [.int 0, .ref (u_3 9), .ref (u_3 10), .ref (u_3 11), .ref (u_3 12), .ref (u_3 13), .ref (u_3 14), .ref (u_3 15), .int 0, .int 0, .int 0, .ref (u_3 16)])), (u_3 9, .inl (gI g, 10, .inl (fun _ => 0))), (u_3 10, .inl (gI g, 10, .inl (fun _ => 0))), (u_3 11, .inl (gI g, 10, .inl (fun _ => 0))), (u_3 12, .inl (gI g, 10, .inl (fun _ => 0))), (u_3 13, .inl (gI g, 10, .inl (fun _ => 0))), (u_3 14, .inl (gI g, 10, .inl (fun _ => 0))), (u_3 15, .inl (gI g, 10, .inl (fun _ => 0))), (u_3 16, .inl (gI g, 10, .inl (fun _ => 0))), (u_3 17, .inr (3, [.int 0, .ref (u_3 18), .ref (u_3 19), .ref (u_3 20)])), (u_3 18, .inl (gI g, 40, .inl (fun _ => 0))), (u_3 19, .inl (gI g, 40, .inl (fun _ => 0))), (u_3 20, .inl (gI g, 40, .inl (fun _ => 0))), (u_3 21, .inr (3, [.int 0, .ref (u_3 22), .ref (u_3 23), .ref (u_3 24)])), (u_3 22, .inl (gI g, 40, .inl (fun _ => 0))), (u_3 23, .inl (gI g, 40, .inl (fun _ => 0))), (u_3 24, .inl (gI g, 40, .inl (fun _ => 0))), (u_3 25, .inr (6, [.int 0, .int 0, .ref (u_3 26)])), (u_3 26, .inl (gI g, 14, .inl (fun _ => 0))), (u_3 27, .inl (gI g, 60, .inl (fun _ => 0))), (q_5, .inr (2, [.int 0, .int 0, .ref (u_7 1)])), (u_7 1, .inl (gN g, 16, .inr (.inr (.inr (.inr (fun _ => none)))))), (q_9, .inr (7, [.ref (u_11 1), .ref (u_11 2)])), (u_11 1, .inl (gI g, 7, .inl (fun _ => 0))), (u_11 2, .inl (gJ g, 5, .inr (.inl (fun _ => 0)))), (q_13, .inr (5, [.ref (u_15 1), .ref (u_15 2), .ref (u_15 3), .int 0, .int 0])), (u_15 1, .inl (gI g, 128, .inl (fun _ => 0))), (u_15 2, .inl (gI g, 128, .inl (fun _ => 0))), (u_15 3, .inl (gI g, 128, .inl (fun _ => 0))), (q_17, .inr (10, [.ref (u_19 1)])), (u_19 1, .inl (gI g, 60, .inl (fun _ => 0))), (q_21, .inl (gS g, 4, .inr (.inr (.inr (.inr (va_up (fun _ => none) 0 (some q_22))))))), (q_22, .inr (9, [.int 0, .int 0, .ref (u_24 1)])), (u_24 1, .inl (gI g, 60, .inl (fun _ => 0))), (q_26, .inr (9, [.int 0, .int 0, .null]))] H := hP
  have hD : va_D A [(h, .inr (11, [.ref q_1, .ref q_5, .ref q_9, .ref q_13, .ref q_17, .ref q_21, .int 0])), (q_1, .inr (4, [.ref (u_3 1), .ref (u_3 5), .ref (u_3 8), .ref (u_3 17), .ref (u_3 21), .ref (u_3 25), .ref (u_3 27), .int 0, .int 0, .int 36, .int 10])), (u_3 1, .inr (8, [.int 0, .ref (u_3 2), .ref (u_3 3), .ref (u_3 4)])), (u_3 2, .inl (gI g, 5, .inl (fun _ => 0))), (u_3 3, .inl (gI g, 5, .inl (fun _ => 0))), (u_3 4, .inl (gI g, 5, .inl (fun _ => 0))), (u_3 5, .inr (1, [.int 0, .ref (u_3 6), .ref (u_3 7), .int 0])), (u_3 6, .inl (gI g, 7, .inl (fun _ => 0))), (u_3 7, .inl (gI g, 7, .inl (fun _ => 0))), (u_3 8, .inr (0, [.int 0, .ref (u_3 9), .ref (u_3 10), .ref (u_3 11), .ref (u_3 12), .ref (u_3 13), .ref (u_3 14), .ref (u_3 15), .int 0, .int 0, .int 0, .ref (u_3 16)])), (u_3 9, .inl (gI g, 10, .inl (fun _ => 0))), (u_3 10, .inl (gI g, 10, .inl (fun _ => 0))), (u_3 11, .inl (gI g, 10, .inl (fun _ => 0))), (u_3 12, .inl (gI g, 10, .inl (fun _ => 0))), (u_3 13, .inl (gI g, 10, .inl (fun _ => 0))), (u_3 14, .inl (gI g, 10, .inl (fun _ => 0))), (u_3 15, .inl (gI g, 10, .inl (fun _ => 0))), (u_3 16, .inl (gI g, 10, .inl (fun _ => 0))), (u_3 17, .inr (3, [.int 0, .ref (u_3 18), .ref (u_3 19), .ref (u_3 20)])), (u_3 18, .inl (gI g, 40, .inl (fun _ => 0))), (u_3 19, .inl (gI g, 40, .inl (fun _ => 0))), (u_3 20, .inl (gI g, 40, .inl (fun _ => 0))), (u_3 21, .inr (3, [.int 0, .ref (u_3 22), .ref (u_3 23), .ref (u_3 24)])), (u_3 22, .inl (gI g, 40, .inl (fun _ => 0))), (u_3 23, .inl (gI g, 40, .inl (fun _ => 0))), (u_3 24, .inl (gI g, 40, .inl (fun _ => 0))), (u_3 25, .inr (6, [.int 0, .int 0, .ref (u_3 26)])), (u_3 26, .inl (gI g, 14, .inl (fun _ => 0))), (u_3 27, .inl (gI g, 60, .inl (fun _ => 0))), (q_5, .inr (2, [.int 0, .int 0, .ref (u_7 1)])), (u_7 1, .inl (gN g, 16, .inr (.inr (.inr (.inr (fun _ => none)))))), (q_9, .inr (7, [.ref (u_11 1), .ref (u_11 2)])), (u_11 1, .inl (gI g, 7, .inl (fun _ => 0))), (u_11 2, .inl (gJ g, 5, .inr (.inl (fun _ => 0)))), (q_13, .inr (5, [.ref (u_15 1), .ref (u_15 2), .ref (u_15 3), .int 0, .int 0])), (u_15 1, .inl (gI g, 128, .inl (fun _ => 0))), (u_15 2, .inl (gI g, 128, .inl (fun _ => 0))), (u_15 3, .inl (gI g, 128, .inl (fun _ => 0))), (q_17, .inr (10, [.ref (u_19 1)])), (u_19 1, .inl (gI g, 60, .inl (fun _ => 0))), (q_21, .inl (gS g, 4, .inr (.inr (.inr (.inr (va_up (fun _ => none) 0 (some q_22))))))), (q_22, .inr (9, [.int 0, .int 0, .ref (u_24 1)])), (u_24 1, .inl (gI g, 60, .inl (fun _ => 0))), (q_26, .inr (9, [.int 0, .int 0, .null]))] := hD
  refine W.widen (k := 43) (n := 1018) (Nat.le_of_ble_eq_true rfl) (Nat.le_of_ble_eq_true rfl) ?_
  refine lv_dup hx hb dX11_init_82 rfl ?_
  refine k_IN [43] [0, 1, 2, 3, 4, 5, 6, 7, 8, 9, 10, 11, 12, 13, 14, 15, 16, 17, 18, 19, 20, 21, 22, 23, 24, 25, 26, 27, 28, 29, 30, 31, 32, 33, 34, 35, 36, 37, 38, 39, 40, 41, 42] (wr := [(h, .inr (11, [.ref q_1, .ref q_5, .ref q_9, .ref q_13, .ref q_17, .ref q_21, .int 0])), (q_1, .inr (4, [.ref (u_3 1), .ref (u_3 5), .ref (u_3 8), .ref (u_3 17), .ref (u_3 21), .ref (u_3 25), .ref (u_3 27), .int 0, .int 0, .int 36, .int 10])), (u_3 1, .inr (8, [.int 0, .ref (u_3 2), .ref (u_3 3), .ref (u_3 4)])), (u_3 2, .inl (gI g, 5, .inl (fun _ => 0))), (u_3 3, .inl (gI g, 5, .inl (fun _ => 0))), (u_3 4, .inl (gI g, 5, .inl (fun _ => 0))), (u_3 5, .inr (1, [.int 0, .ref (u_3 6), .ref (u_3 7), .int 0])), (u_3 6, .inl (gI g, 7, .inl (fun _ => 0))), (u_3 7, .inl (gI g, 7, .inl (fun _ => 0))), (u_3 8, .inr (0, [.int 0, .ref (u_3 9), .ref (u_3 10), .ref (u_3 11), .ref (u_3 12), .ref (u_3 13), .ref (u_3 14), .ref (u_3 15), .int 0, .int 0, .int 0, .ref (u_3 16)])), (u_3 9, .inl (gI g, 10, .inl (fun _ => 0))), (u_3 10, .inl (gI g, 10, .inl (fun _ => 0))), (u_3 11, .inl (gI g, 10, .inl (fun _ => 0))), (u_3 12, .inl (gI g, 10, .inl (fun _ => 0))), (u_3 13, .inl (gI g, 10, .inl (fun _ => 0))), (u_3 14, .inl (gI g, 10, .inl (fun _ => 0))), (u_3 15, .inl (gI g, 10, .inl (fun _ => 0))), (u_3 16, .inl (gI g, 10, .inl (fun _ => 0))), (u_3 17, .inr (3, [.int 0, .ref (u_3 18), .ref (u_3 19), .ref (u_3 20)])), (u_3 18, .inl (gI g, 40, .inl (fun _ => 0))), (u_3 19, .inl (gI g, 40, .inl (fun _ => 0))), (u_3 20, .inl (gI g, 40, .inl (fun _ => 0))), (u_3 21, .inr (3, [.int 0, .ref (u_3 22), .ref (u_3 23), .ref (u_3 24)])), (u_3 22, .inl (gI g, 40, .inl (fun _ => 0))), (u_3 23, .inl (gI g, 40, .inl (fun _ => 0))), (u_3 24, .inl (gI g, 40, .inl (fun _ => 0))), (u_3 25, .inr (6, [.int 0, .int 0, .ref (u_3 26)])), (u_3 26, .inl (gI g, 14, .inl (fun _ => 0))), (u_3 27, .inl (gI g, 60, .inl (fun _ => 0))), (q_5, .inr (2, [.int 0, .int 0, .ref (u_7 1)])), (u_7 1, .inl (gN g, 16, .inr (.inr (.inr (.inr (fun _ => none)))))), (q_9, .inr (7, [.ref (u_11 1), .ref (u_11 2)])), (u_11 1, .inl (gI g, 7, .inl (fun _ => 0))), (u_11 2, .inl (gJ g, 5, .inr (.inl (fun _ => 0)))), (q_13, .inr (5, [.ref (u_15 1), .ref (u_15 2), .ref (u_15 3), .int 0, .int 0])), (u_15 1, .inl (gI g, 128, .inl (fun _ => 0))), (u_15 2, .inl (gI g, 128, .inl (fun _ => 0))), (u_15 3, .inl (gI g, 128, .inl (fun _ => 0))), (q_17, .inr (10, [.ref (u_19 1)])), (u_19 1, .inl (gI g, 60, .inl (fun _ => 0))), (q_21, .inl (gS g, 4, .inr (.inr (.inr (.inr (va_up (fun _ => none) 0 (some q_22))))))), (q_22, .inr (9, [.int 0, .int 0, .ref (u_24 1)])), (u_24 1, .inl (gI g, 60, .inl (fun _ => 0)))]) hx hb hml hown hts hKW hP hD hS hA hl.1 (c_X9_init l g _ q_26 ) rfl wd_5_22 wd_2_11 nw_10 wd_5_21 yd_X9_init ⟨Nat.le_of_ble_eq_true rfl, Nat.le_of_ble_eq_true rfl⟩ rfl rfl rfl rfl rfl (by decide) rfl (Nat.le_of_ble_eq_true rfl) dX11_init_83 ⟨Nat.le_of_ble_eq_true rfl, Nat.le_of_ble_eq_true rfl⟩ (fun u_28 H locs hw_29 hP hD hS => ?_)
  have hP : va_P g.1 vwCl [(h, .inr (11, [.ref q_1, .ref q_5, .ref q_9, .ref q_13, .ref q_17, .ref q_21, .int 0])), (q_1, .inr (4, [.ref (u_3 1), .ref (u_3 5), .ref (u_3 8), .ref (u_3 17), .ref (u_3 21), .ref (u_3 25), .ref (u_3 27), .int 0, .int 0, .int 36, .int 10])), (u_3 1, .inr (8, [.int 0, .ref (u_3 2), .ref (u_3 3), .ref (u_3 4)])), (u_3 2, .inl (gI g, 5, .inl (fun _ => 0))), (u_3 3, .inl (gI g, 5, .inl (fun _ => 0))), (u_3 4, .inl (gI g, 5, .inl (fun _ => 0))), (u_3 5, .inr (1, [.int 0, .ref (u_3 6), .ref (u_3 7), .int 0])), (u_3 6, .inl (gI g, 7, .inl (fun _ => 0))), (u_3 7, .inl (gI g, 7, .inl (fun _ => 0))), (u_3 8, .inr (0, [.int 0, .ref (u_3 9), .ref (u_3 10), .ref (u_3 11), .ref (u_3 12), .ref (u_3 13), .ref (u_3 14), .ref (u_3 15), .int 0, .int 0, .int 0, .ref (u_3 16)])), (u_3 9, .inl (gI g, 10, .inl (fun _ => 0))), (u_3 10, .inl (gI g, 10, .inl (fun _ => 0))), (u_3 11, .inl (gI g, 10, .inl (fun _ => 0))), (u_3 12, .inl (gI g, 10, .inl (fun _ => 0))), (u_3 13, .inl (gI g, 10, .inl (fun _ => 0))), (u_3 14, .inl (gI g, 10, .inl (fun _ => 0))), (u_3 15, .inl (gI g, 10, .inl (fun _ => 0))), (u_3 16, .inl (gI g, 10, .inl (fun _ => 0))), (u_3 17, .inr (3, [.int 0, .ref (u_3 18), .ref (u_3 19), .ref (u_3 20)])), (u_3 18, .inl (gI g, 40, .inl (fun _ => 0))), (u_3 19, .inl (gI g, 40, .inl (fun _ => 0))), (u_3 20, .inl (gI g, 40, .inl (fun _ => 0))), (u_3 21, .inr (3, [.int 0, .ref (u_3 22), .ref (u_3 23), .ref (u_3 24)])), (u_3 22, .inl (gI g, 40, .inl (fun _ => 0))), (u_3 23, .inl (gI g, 40, .inl (fun _ => 0))), (u_3 24, .inl (gI g, 40, .inl (fun _ => 0))), (u_3 25, .inr (6, [.int 0, .int 0, .ref (u_3 26)])), (u_3 26, .inl (gI g, 14, .inl (fun _ => 0))), (u_3 27, .inl (gI g, 60, .inl (fun _ => 0))), (q_5, .inr (2, [.int 0, .int 0, .ref (u_7 1)])), (u_7 1, .inl (gN g, 16, .inr (.inr (.inr (.inr (fun _ => none)))))), (q_9, .inr (7, [.ref (u_11 1), .ref (u_11 2)])), (u_11 1, .inl (gI g, 7, .inl (fun _ => 0))), (u_11 2, .inl (gJ g, 5, .inr (.inl (fun _ => 0)))), (q_13, .inr (5, [.ref (u_15 1), .ref (u_15 2), .ref (u_15 3), .int 0, .int 0])), (u_15 1, .inl (gI g, 128, .inl (fun _ => 0))), (u_15 2, .inl (gI g, 128, .inl (fun _ => 0))), (u_15 3, .inl (gI g, 128, .inl (fun _ => 0))), (q_17, .inr (10, [.ref (u_19 1)])), (u_19 1, .inl (gI g, 60, .inl (fun _ => 0))), (q_21, .inl (gS g, 4, .inr (.inr (.inr (.inr (va_up (fun _ => none) 0 (some q_22))))))), (q_22, .inr (9, [.int 0, .int 0, .ref (u_24 1)])), (u_24 1, .inl (gI g, 60, .inl (fun _ => 0))), (q_26, .inr (9, [.int 0, .int 0, .ref (u_28 1)])), (u_28 1, .inl (gI g, 60, .inl (fun _ => 0)))] H := hP
  have hD : va_D A [(h, .inr (11, [.ref q_1, .ref q_5, .ref q_9, .ref q_13, .ref q_17, .ref q_21, .int 0])), (q_1, .inr (4, [.ref (u_3 1), .ref (u_3 5), .ref (u_3 8), .ref (u_3 17), .ref (u_3 21), .ref (u_3 25), .ref (u_3 27), .int 0, .int 0, .int 36, .int 10])), (u_3 1, .inr (8, [.int 0, .ref (u_3 2), .ref (u_3 3), .ref (u_3 4)])), (u_3 2, .inl (gI g, 5, .inl (fun _ => 0))), (u_3 3, .inl (gI g, 5, .inl (fun _ => 0))), (u_3 4, .inl (gI g, 5, .inl (fun _ => 0))), (u_3 5, .inr (1, [.int 0, .ref (u_3 6), .ref (u_3 7), .int 0])), (u_3 6, .inl (gI g, 7, .inl (fun _ => 0))), (u_3 7, .inl (gI g, 7, .inl (fun _ => 0))), (u_3 8, .inr (0, [.int 0, .ref (u_3 9), .ref (u_3 10), .ref (u_3 11), .ref (u_3 12), .ref (u_3 13), .ref (u_3 14), .ref (u_3 15), .int 0, .int 0, .int 0, .ref (u_3 16)])), (u_3 9, .inl (gI g, 10, .inl (fun _ => 0))), (u_3 10, .inl (gI g, 10, .inl (fun _ => 0))), (u_3 11, .inl (gI g, 10, .inl (fun _ => 0))), (u_3 12, .inl (gI g, 10, .inl (fun _ => 0))), (u_3 13, .inl (gI g, 10, .inl (fun _ => 0))), (u_3 14, .inl (gI g, 10, .inl (fun _ => 0))), (u_3 15, .inl (gI g, 10, .inl (fun _ => 0))), (u_3 16, .inl (gI g, 10, .inl (fun _ => 0))), (u_3 17, .inr (3, [.int 0, .ref (u_3 18), .ref (u_3 19), .ref (u_3 20)])), (u_3 18, .inl (gI g, 40, .inl (fun _ => 0))), (u_3 19, .inl (gI g, 40, .inl (fun _ => 0))), (u_3 20, .inl (gI g, 40, .inl (fun _ => 0))), (u_3 21, .inr (3, [.int 0, .ref (u_3 22), .ref (u_3 23), .ref (u_3 24)])), (u_3 22, .inl (gI g, 40, .inl (fun _ => 0))), (u_3 23, .inl (gI g, 40, .inl (fun _ => 0))), (u_3 24, .inl (gI g, 40, .inl (fun _ => 0))), (u_3 25, .inr (6, [.int 0, .int 0, .ref (u_3 26)])), (u_3 26, .inl (gI g, 14, .inl (fun _ => 0))), (u_3 27, .inl (gI g, 60, .inl (fun _ => 0))), (q_5, .inr (2, [.int 0, .int 0, .ref (u_7 1)])), (u_7 1, .inl (gN g, 16, .inr (.inr (.inr (.inr (fun _ => none)))))), (q_9, .inr (7, [.ref (u_11 1), .ref (u_11 2)])), (u_11 1, .inl (gI g, 7, .inl (fun _ => 0))), (u_11 2, .inl (gJ g, 5, .inr (.inl (fun _ => 0)))), (q_13, .inr (5, [.ref (u_15 1), .ref (u_15 2), .ref (u_15 3), .int 0, .int 0])), (u_15 1, .inl (gI g, 128, .inl (fun _ => 0))), (u_15 2, .inl (gI g, 128, .inl (fun _ => 0))), (u_15 3, .inl (gI g, 128, .inl (fun _ => 0))), (q_17, .inr (10, [.ref (u_19 1)])), (u_19 1, .inl (gI g, 60, .inl (fun _ => 0))), (q_21, .inl (gS g, 4, .inr (.inr (.inr (.inr (va_up (fun _ => none) 0 (some q_22))))))), (q_22, .inr (9, [.int 0, .int 0, .ref (u_24 1)])), (u_24 1, .inl (gI g, 60, .inl (fun _ => 0))), (q_26, .inr (9, [.int 0, .int 0, .ref (u_28 1)])), (u_28 1, .inl (gI g, 60, .inl (fun _ => 0)))] := hD
  refine W.widen (k := 44) (n := 1078) (Nat.le_of_ble_eq_true rfl) (Nat.le_of_ble_eq_true rfl) ?_
  refine va_astq hx hb hKW.1 hP hD hS 40 4 43 9 rfl rfl rfl rfl (show ¬ _ by decide) dX11_init_86 (fun H locs hP hD hS => ?_)
  have hP : va_P g.1 vwCl [(h, .inr (11, [.ref q_1, .ref q_5, .ref q_9, .ref q_13, .ref q_17, .ref q_21, .int 0])), (q_1, .inr (4, [.ref (u_3 1), .ref (u_3 5), .ref (u_3 8), .ref (u_3 17), .ref (u_3 21), .ref (u_3 25), .ref (u_3 27), .int 0, .int 0, .int 36, .int 10])), (u_3 1, .inr (8, [.int 0, .ref (u_3 2), .ref (u_3 3), .ref (u_3 4)])), (u_3 2, .inl (gI g, 5, .inl (fun _ => 0))), (u_3 3, .inl (gI g, 5, .inl (fun _ => 0))), (u_3 4, .inl (gI g, 5, .inl (fun _ => 0))), (u_3 5, .inr (1, [.int 0, .ref (u_3 6), .ref (u_3 7), .int 0])), (u_3 6, .inl (gI g, 7, .inl (fun _ => 0))), (u_3 7, .inl (gI g, 7, .inl (fun _ => 0))), (u_3 8, .inr (0, [.int 0, .ref (u_3 9), .ref (u_3 10), .ref (u_3 11), .ref (u_3 12), .ref (u_3 13), .ref (u_3 14), .ref (u_3 15), .int 0, .int 0, .int 0, .ref (u_3 16)])), (u_3 9, .inl (gI g, 10, .inl (fun _ => 0))), (u_3 10, .inl (gI g, 10, .inl (fun _ => 0))), (u_3 11, .inl (gI g, 10, .inl (fun _ => 0))), (u_3 12, .inl (gI g, 10, .inl (fun _ => 0))), (u_3 13, .inl (gI g, 10, .inl (fun _ => 0))), (u_3 14, .inl (gI g, 10, .inl (fun _ => 0))), (u_3 15, .inl (gI g, 10, .inl (fun _ => 0))), (u_3 16, .inl (gI g, 10, .inl (fun _ => 0))), (u_3 17, .inr (3, [.int 0, .ref (u_3 18), .ref (u_3 19), .ref (u_3 20)])), (u_3 18, .inl (gI g, 40, .inl (fun _ => 0))), (u_3 19, .inl (gI g, 40, .inl (fun _ => 0))), (u_3 20, .inl (gI g, 40, .inl (fun _ => 0))), (u_3 21, .inr (3, [.int 0, .ref (u_3 22), .ref (u_3 23), .ref (u_3 24)])), (u_3 22, .inl (gI g, 40, .inl (fun _ => 0))), (u_3 23, .inl (gI g, 40, .inl (fun _ => 0))), (u_3 24, .inl (gI g, 40, .inl (fun _ => 0))), (u_3 25, .inr (6, [.int 0, .int 0, .ref (u_3 26)])), (u_3 26, .inl (gI g, 14, .inl (fun _ => 0))), (u_3 27, .inl (gI g, 60, .inl (fun _ => 0))), (q_5, .inr (2, [.int 0, .int 0, .ref (u_7 1)])), (u_7 1, .inl (gN g, 16, .inr (.inr (.inr (.inr (fun _ => none)))))), (q_9, .inr (7, [.ref (u_11 1), .ref (u_11 2)])), (u_11 1, .inl (gI g, 7, .inl (fun _ => 0))), (u_11 2, .inl (gJ g, 5, .inr (.inl (fun _ => 0)))), (q_13, .inr (5, [.ref (u_15 1), .ref (u_15 2), .ref (u_15 3), .int 0, .int 0])), (u_15 1, .inl (gI g, 128, .inl (fun _ => 0))), (u_15 2, .inl (gI g, 128, .inl (fun _ => 0))), (u_15 3, .inl (gI g, 128, .inl (fun _ => 0))), (q_17, .inr (10, [.ref (u_19 1)])), (u_19 1, .inl (gI g, 60, .inl (fun _ => 0))), (q_21, .inl (gS g, 4, .inr (.inr (.inr (.inr (va_up (va_up (fun _ => none) 0 (some q_22)) 1 (some q_26))))))), (q_22, .inr (9, [.int 0, .int 0, .ref (u_24 1)])), (u_24 1, .inl (gI g, 60, .inl (fun _ => 0))), (q_26, .inr (9, [.int 0, .int 0, .ref (u_28 1)])), (u_28 1, .inl (gI g, 60, .inl (fun _ => 0)))] H := hP
  have hD : va_D A [(h, .inr (11, [.ref q_1, .ref q_5, .ref q_9, .ref q_13, .ref q_17, .ref q_21, .int 0])), (q_1, .inr (4, [.ref (u_3 1), .ref (u_3 5), .ref (u_3 8), .ref (u_3 17), .ref (u_3 21), .ref (u_3 25), .ref (u_3 27), .int 0, .int 0, .int 36, .int 10])), (u_3 1, .inr (8, [.int 0, .ref (u_3 2), .ref (u_3 3), .ref (u_3 4)])), (u_3 2, .inl (gI g, 5, .inl (fun _ => 0))), (u_3 3, .inl (gI g, 5, .inl (fun _ => 0))), (u_3 4, .inl (gI g, 5, .inl (fun _ => 0))), (u_3 5, .inr (1, [.int 0, .ref (u_3 6), .ref (u_3 7), .int 0])), (u_3 6, .inl (gI g, 7, .inl (fun _ => 0))), (u_3 7, .inl (gI g, 7, .inl (fun _ => 0))), (u_3 8, .inr (0, [.int 0, .ref (u_3 9), .ref (u_3 10), .ref (u_3 11), .ref (u_3 12), .ref (u_3 13), .ref (u_3 14), .ref (u_3 15), .int 0, .int 0, .int 0, .ref (u_3 16)])), (u_3 9, .inl (gI g, 10, .inl (fun _ => 0))), (u_3 10, .inl (gI g, 10, .inl (fun _ => 0))), (u_3 11, .inl (gI g, 10, .inl (fun _ => 0))), (u_3 12, .inl (gI g, 10, .inl (fun _ => 0))), (u_3 13, .inl (gI g, 10, .inl (fun _ => 0))), (u_3 14, .inl (gI g, 10, .inl (fun _ => 0))), (u_3 15, .inl (gI g, 10, .inl (fun _ => 0))), (u_3 16, .inl (gI g, 10, .inl (fun _ => 0))), (u_3 17, .inr (3, [.int 0, .ref (u_3 18), .ref (u_3 19), .ref (u_3 20)])), (u_3 18, .inl (gI g, 40, .inl (fun _ => 0))), (u_3 19, .inl (gI g, 40, .inl (fun _ => 0))), (u_3 20, .inl (gI g, 40, .inl (fun _ => 0))), (u_3 21, .inr (3, [.int 0, .ref (u_3 22), .ref (u_3 23), .ref (u_3 24)])), (u_3 22, .inl (gI g, 40, .inl (fun _ => 0))), (u_3 23, .inl (gI g, 40, .inl (fun _ => 0))), (u_3 24, .inl (gI g, 40, .inl (fun _ => 0))), (u_3 25, .inr (6, [.int 0, .int 0, .ref (u_3 26)])), (u_3 26, .inl (gI g, 14, .inl (fun _ => 0))), (u_3 27, .inl (gI g, 60, .inl (fun _ => 0))), (q_5, .inr (2, [.int 0, .int 0, .ref (u_7 1)])), (u_7 1, .inl (gN g, 16, .inr (.inr (.inr (.inr (fun _ => none)))))), (q_9, .inr (7, [.ref (u_11 1), .ref (u_11 2)])), (u_11 1, .inl (gI g, 7, .inl (fun _ => 0))), (u_11 2, .inl (gJ g, 5, .inr (.inl (fun _ => 0)))), (q_13, .inr (5, [.ref (u_15 1), .ref (u_15 2), .ref (u_15 3), .int 0, .int 0])), (u_15 1, .inl (gI g, 128, .inl (fun _ => 0))), (u_15 2, .inl (gI g, 128, .inl (fun _ => 0))), (u_15 3, .inl (gI g, 128, .inl (fun _ => 0))), (q_17, .inr (10, [.ref (u_19 1)])), (u_19 1, .inl (gI g, 60, .inl (fun _ => 0))), (q_21, .inl (gS g, 4, .inr (.inr (.inr (.inr (va_up (va_up (fun _ => none) 0 (some q_22)) 1 (some q_26))))))), (q_22, .inr (9, [.int 0, .int 0, .ref (u_24 1)])), (u_24 1, .inl (gI g, 60, .inl (fun _ => 0))), (q_26, .inr (9, [.int 0, .int 0, .ref (u_28 1)])), (u_28 1, .inl (gI g, 60, .inl (fun _ => 0)))] := hD
  refine lv_iinc (v := 2) (lv' := [(1, .int 2), (0, .ref h)]) hx hb dX11_init_87 hl (k := 0) rfl (by decide) (by decide) rfl (fun ls hl => ?_)
  refine lv_goto (tgt := 69) hx hb dX11_init_90 (by decide) ?_
  refine lv_iload_n hx hb dX11_init_69 rfl (lv_at hl 0 rfl) ?_
  refine lv_iconst (v := 4) hx hb dX11_init_70 (by decide) ?_
  refine lv_icmp_ge (tgt := 93) hx hb dX11_init_71 (by decide) (fun c => absurd c (by decide)) (fun _ => ?_)
  refine lv_aload_n hx hb dX11_init_74 rfl (lv_at hl 1 rfl) ?_
  refine va_get (ci := 11) (C := RX11) (T := TX11) (N := 7) hx hb hts inlX11 hown hKW.1 hP 0 rfl rfl 5 (by decide) (hts _ wd_2_9) (fun _ h => h) rfl dX11_init_75 ?_
  refine lv_iload_n hx hb dX11_init_78 rfl (lv_at hl 0 rfl) ?_
  refine va_new (ci := 9) (fs := [.int 0, .int 0, .null]) (C := RX9) (T := TX9) (N := 3) hx hb hts inlX9 tyX9 tyX9_ok hown (hts _ wd_2_8) (hts _ wd_2_10) (hts _ wd_2_11) hKW.1 hP hD hS hA rfl (fun j hj => by rcases (show j = 0 ∨ j = 1 ∨ j = 2 by omega) with rfl | rfl | rfl <;> rfl) (Nat.le_of_ble_eq_true rfl) (Nat.le_of_ble_eq_true rfl) dX11_init_79 (fun q_30 H hP hD hS => ?_)
  have hP : va_P g.1 vwCl [(h, .inr (11, [.ref q_1, .ref q_5, .ref q_9, .ref q_13, .ref q_17, .ref q_21, .int 0])), (q_1, .inr (4, [.ref (u_3 1), .ref (u_3 5), .ref (u_3 8), .ref (u_3 17), .ref (u_3 21), .ref (u_3 25), .ref (u_3 27), .int 0, .int 0, .int 36, .int 10])), (u_3 1, .inr (8, [.int 0, .ref (u_3 2), .ref (u_3 3), .ref (u_3 4)])), (u_3 2, .inl (gI g, 5, .inl (fun _ => 0))), (u_3 3, .inl (gI g, 5, .inl (fun _ => 0))), (u_3 4, .inl (gI g, 5, .inl (fun _ => 0))), (u_3 5, .inr (1, [.int 0, .ref (u_3 6), .ref (u_3 7), .int 0])), (u_3 6, .inl (gI g, 7, .inl (fun _ => 0))), (u_3 7, .inl (gI g, 7, .inl (fun _ => 0))), (u_3 8, .inr (0, [.int 0, .ref (u_3 9), .ref (u_3 10), .ref (u_3 11), .ref (u_3 12), .ref (u_3 13), .ref (u_3 14), .ref (u_3 15), .int 0, .int 0, .int 0, .ref (u_3 16)])), (u_3 9, .inl (gI g, 10, .inl (fun _ => 0))), (u_3 10, .inl (gI g, 10, .inl (fun _ => 0))), (u_3 11, .inl (gI g, 10, .inl (fun _ => 0))), (u_3 12, .inl (gI g, 10, .inl (fun _ => 0))), (u_3 13, .inl (gI g, 10, .inl (fun _ => 0))), (u_3 14, .inl (gI g, 10, .inl (fun _ => 0))), (u_3 15, .inl (gI g, 10, .inl (fun _ => 0))), (u_3 16, .inl (gI g, 10, .inl (fun _ => 0))), (u_3 17, .inr (3, [.int 0, .ref (u_3 18), .ref (u_3 19), .ref (u_3 20)])), (u_3 18, .inl (gI g, 40, .inl (fun _ => 0))), (u_3 19, .inl (gI g, 40, .inl (fun _ => 0))), (u_3 20, .inl (gI g, 40, .inl (fun _ => 0))), (u_3 21, .inr (3, [.int 0, .ref (u_3 22), .ref (u_3 23), .ref (u_3 24)])), (u_3 22, .inl (gI g, 40, .inl (fun _ => 0))), (u_3 23, .inl (gI g, 40, .inl (fun _ => 0))), (u_3 24, .inl (gI g, 40, .inl (fun _ => 0))), (u_3 25, .inr (6, [.int 0, .int 0, .ref (u_3 26)])), (u_3 26, .inl (gI g, 14, .inl (fun _ => 0))), (u_3 27, .inl (gI g, 60, .inl (fun _ => 0))), (q_5, .inr (2, [.int 0, .int 0, .ref (u_7 1)])), (u_7 1, .inl (gN g, 16, .inr (.inr (.inr (.inr (fun _ => none)))))), (q_9, .inr (7, [.ref (u_11 1), .ref (u_11 2)])), (u_11 1, .inl (gI g, 7, .inl (fun _ => 0))), (u_11 2, .inl (gJ g, 5, .inr (.inl (fun _ => 0)))), (q_13, .inr (5, [.ref (u_15 1), .ref (u_15 2), .ref (u_15 3), .int 0, .int 0])), (u_15 1, .inl (gI g, 128, .inl (fun _ => 0))), (u_15 2, .inl (gI g, 128, .inl (fun _ => 0))), (u_15 3, .inl (gI g, 128, .inl (fun _ => 0))), (q_17, .inr (10, [.ref (u_19 1)])), (u_19 1, .inl (gI g, 60, .inl (fun _ => 0))), (q_21, .inl (gS g, 4, .inr (.inr (.inr (.inr (va_up (va_up (fun _ => none) 0 (some q_22)) 1 (some q_26))))))), (q_22, .inr (9, [.int 0, .int 0, .ref (u_24 1)])), (u_24 1, .inl (gI g, 60, .inl (fun _ => 0))), (q_26, .inr (9, [.int 0, .int 0, .ref (u_28 1)])), (u_28 1, .inl (gI g, 60, .inl (fun _ => 0))), (q_30, .inr (9, [.int 0, .int 0, .null]))] H := hP
  have hD : va_D A [(h, .inr (11, [.ref q_1, .ref q_5, .ref q_9, .ref q_13, .ref q_17, .ref q_21, .int 0])), (q_1, .inr (4, [.ref (u_3 1), .ref (u_3 5), .ref (u_3 8), .ref (u_3 17), .ref (u_3 21), .ref (u_3 25), .ref (u_3 27), .int 0, .int 0, .int 36, .int 10])), (u_3 1, .inr (8, [.int 0, .ref (u_3 2), .ref (u_3 3), .ref (u_3 4)])), (u_3 2, .inl (gI g, 5, .inl (fun _ => 0))), (u_3 3, .inl (gI g, 5, .inl (fun _ => 0))), (u_3 4, .inl (gI g, 5, .inl (fun _ => 0))), (u_3 5, .inr (1, [.int 0, .ref (u_3 6), .ref (u_3 7), .int 0])), (u_3 6, .inl (gI g, 7, .inl (fun _ => 0))), (u_3 7, .inl (gI g, 7, .inl (fun _ => 0))), (u_3 8, .inr (0, [.int 0, .ref (u_3 9), .ref (u_3 10), .ref (u_3 11), .ref (u_3 12), .ref (u_3 13), .ref (u_3 14), .ref (u_3 15), .int 0, .int 0, .int 0, .ref (u_3 16)])), (u_3 9, .inl (gI g, 10, .inl (fun _ => 0))), (u_3 10, .inl (gI g, 10, .inl (fun _ => 0))), (u_3 11, .inl (gI g, 10, .inl (fun _ => 0))), (u_3 12, .inl (gI g, 10, .inl (fun _ => 0))), (u_3 13, .inl (gI g, 10, .inl (fun _ => 0))), (u_3 14, .inl (gI g, 10, .inl (fun _ => 0))), (u_3 15, .inl (gI g, 10, .inl (fun _ => 0))), (u_3 16, .inl (gI g, 10, .inl (fun _ => 0))), (u_3 17, .inr (3, [.int 0, .ref (u_3 18), .ref (u_3 19), .ref (u_3 20)])), (u_3 18, .inl (gI g, 40, .inl (fun _ => 0))), (u_3 19, .inl (gI g, 40, .inl (fun _ => 0))), (u_3 20, .inl (gI g, 40, .inl (fun _ => 0))), (u_3 21, .inr (3, [.int 0, .ref (u_3 22), .ref (u_3 23), .ref (u_3 24)])), (u_3 22, .inl (gI g, 40, .inl (fun _ => 0))), (u_3 23, .inl (gI g, 40, .inl (fun _ => 0))), (u_3 24, .inl (gI g, 40, .inl (fun _ => 0))), (u_3 25, .inr (6, [.int 0, .int 0, .ref (u_3 26)])), (u_3 26, .inl (gI g, 14, .inl (fun _ => 0))), (u_3 27, .inl (gI g, 60, .inl (fun _ => 0))), (q_5, .inr (2, [.int 0, .int 0, .ref (u_7 1)])), (u_7 1, .inl (gN g, 16, .inr (.inr (.inr (.inr (fun _ => none)))))), (q_9, .inr (7, [.ref (u_11 1), .ref (u_11 2)])), (u_11 1, .inl (gI g, 7, .inl (fun _ => 0))), (u_11 2, .inl (gJ g, 5, .inr (.inl (fun _ => 0)))), (q_13, .inr (5, [.ref (u_15 1), .ref (u_15 2), .ref (u_15 3), .int 0, .int 0])), (u_15 1, .inl (gI g, 128, .inl (fun _ => 0))), (u_15 2, .inl (gI g, 128, .inl (fun _ => 0))), (u_15 3, .inl (gI g, 128, .inl (fun _ => 0))), (q_17, .inr (10, [.ref (u_19 1)])), (u_19 1, .inl (gI g, 60, .inl (fun _ => 0))), (q_21, .inl (gS g, 4, .inr (.inr (.inr (.inr (va_up (va_up (fun _ => none) 0 (some q_22)) 1 (some q_26))))))), (q_22, .inr (9, [.int 0, .int 0, .ref (u_24 1)])), (u_24 1, .inl (gI g, 60, .inl (fun _ => 0))), (q_26, .inr (9, [.int 0, .int 0, .ref (u_28 1)])), (u_28 1, .inl (gI g, 60, .inl (fun _ => 0))), (q_30, .inr (9, [.int 0, .int 0, .null]))] := hD
  refine W.widen (k := 45) (n := 1081) (Nat.le_of_ble_eq_true rfl) (Nat.le_of_ble_eq_true rfl) ?_
  refine lv_dup hx hb dX11_init_82 rfl ?_
  refine k_IN [45] [0, 1, 2, 3, 4, 5, 6, 7, 8, 9, 10, 11, 12, 13, 14, 15, 16, 17, 18, 19, 20, 21, 22, 23, 24, 25, 26, 27, 28, 29, 30, 31, 32, 33, 34, 35, 36, 37, 38, 39, 40, 41, 42, 43, 44] (wr := [(h, .inr (11, [.ref q_1, .ref q_5, .ref q_9, .ref q_13, .ref q_17, .ref q_21, .int 0])), (q_1, .inr (4, [.ref (u_3 1), .ref (u_3 5), .ref (u_3 8), .ref (u_3 17), .ref (u_3 21), .ref (u_3 25), .ref (u_3 27), .int 0, .int 0, .int 36, .int 10])), (u_3 1, .inr (8, [.int 0, .ref (u_3 2), .ref (u_3 3), .ref (u_3 4)])), (u_3 2, .inl (gI g, 5, .inl (fun _ => 0))), (u_3 3, .inl (gI g, 5, .inl (fun _ => 0))), (u_3 4, .inl (gI g, 5, .inl (fun _ => 0))), (u_3 5, .inr (1, [.int 0, .ref (u_3 6), .ref (u_3 7), .int 0])), (u_3 6, .inl (gI g, 7, .inl (fun _ => 0))), (u_3 7, .inl (gI g, 7, .inl (fun _ => 0))), (u_3 8, .inr (0, [.int 0, .ref (u_3 9), .ref (u_3 10), .ref (u_3 11), .ref (u_3 12), .ref (u_3 13), .ref (u_3 14), .ref (u_3 15), .int 0, .int 0, .int 0, .ref (u_3 16)])), (u_3 9, .inl (gI g, 10, .inl (fun _ => 0))), (u_3 10, .inl (gI g, 10, .inl (fun _ => 0))), (u_3 11, .inl (gI g, 10, .inl (fun _ => 0))), (u_3 12, .inl (gI g, 10, .inl (fun _ => 0))), (u_3 13, .inl (gI g, 10, .inl (fun _ => 0))), (u_3 14, .inl (gI g, 10, .inl (fun _ => 0))), (u_3 15, .inl (gI g, 10, .inl (fun _ => 0))), (u_3 16, .inl (gI g, 10, .inl (fun _ => 0))), (u_3 17, .inr (3, [.int 0, .ref (u_3 18), .ref (u_3 19), .ref (u_3 20)])), (u_3 18, .inl (gI g, 40, .inl (fun _ => 0))), (u_3 19, .inl (gI g, 40, .inl (fun _ => 0))), (u_3 20, .inl (gI g, 40, .inl (fun _ => 0))), (u_3 21, .inr (3, [.int 0, .ref (u_3 22), .ref (u_3 23), .ref (u_3 24)])), (u_3 22, .inl (gI g, 40, .inl (fun _ => 0))), (u_3 23, .inl (gI g, 40, .inl (fun _ => 0))), (u_3 24, .inl (gI g, 40, .inl (fun _ => 0))), (u_3 25, .inr (6, [.int 0, .int 0, .ref (u_3 26)])), (u_3 26, .inl (gI g, 14, .inl (fun _ => 0))), (u_3 27, .inl (gI g, 60, .inl (fun _ => 0))), (q_5, .inr (2, [.int 0, .int 0, .ref (u_7 1)])), (u_7 1, .inl (gN g, 16, .inr (.inr (.inr (.inr (fun _ => none)))))), (q_9, .inr (7, [.ref (u_11 1), .ref (u_11 2)])), (u_11 1, .inl (gI g, 7, .inl (fun _ => 0))), (u_11 2, .inl (gJ g, 5, .inr (.inl (fun _ => 0)))), (q_13, .inr (5, [.ref (u_15 1), .ref (u_15 2), .ref (u_15 3), .int 0, .int 0])), (u_15 1, .inl (gI g, 128, .inl (fun _ => 0))), (u_15 2, .inl (gI g, 128, .inl (fun _ => 0))), (u_15 3, .inl (gI g, 128, .inl (fun _ => 0))), (q_17, .inr (10, [.ref (u_19 1)])), (u_19 1, .inl (gI g, 60, .inl (fun _ => 0))), (q_21, .inl (gS g, 4, .inr (.inr (.inr (.inr (va_up (va_up (fun _ => none) 0 (some q_22)) 1 (some q_26))))))), (q_22, .inr (9, [.int 0, .int 0, .ref (u_24 1)])), (u_24 1, .inl (gI g, 60, .inl (fun _ => 0))), (q_26, .inr (9, [.int 0, .int 0, .ref (u_28 1)])), (u_28 1, .inl (gI g, 60, .inl (fun _ => 0)))]) hx hb hml hown hts hKW hP hD hS hA hl.1 (c_X9_init l g _ q_30 ) rfl wd_5_22 wd_2_11 nw_10 wd_5_21 yd_X9_init ⟨Nat.le_of_ble_eq_true rfl, Nat.le_of_ble_eq_true rfl⟩ rfl rfl rfl rfl rfl (by decide) rfl (Nat.le_of_ble_eq_true rfl) dX11_init_83 ⟨Nat.le_of_ble_eq_true rfl, Nat.le_of_ble_eq_true rfl⟩ (fun u_32 H locs hw_33 hP hD hS => ?_)
  have hP : va_P g.1 vwCl [(h, .inr (11, [.ref q_1, .ref q_5, .ref q_9, .ref q_13, .ref q_17, .ref q_21, .int 0])), (q_1, .inr (4, [.ref (u_3 1), .ref (u_3 5), .ref (u_3 8), .ref (u_3 17), .ref (u_3 21), .ref (u_3 25), .ref (u_3 27), .int 0, .int 0, .int 36, .int 10])), (u_3 1, .inr (8, [.int 0, .ref (u_3 2), .ref (u_3 3), .ref (u_3 4)])), (u_3 2, .inl (gI g, 5, .inl (fun _ => 0))), (u_3 3, .inl (gI g, 5, .inl (fun _ => 0))), (u_3 4, .inl (gI g, 5, .inl (fun _ => 0))), (u_3 5, .inr (1, [.int 0, .ref (u_3 6), .ref (u_3 7), .int 0])), (u_3 6, .inl (gI g, 7, .inl (fun _ => 0))), (u_3 7, .inl (gI g, 7, .inl (fun _ => 0))), (u_3 8, .inr (0, [.int 0, .ref (u_3 9), .ref (u_3 10), .ref (u_3 11), .ref (u_3 12), .ref (u_3 13), .ref (u_3 14), .ref (u_3 15), .int 0, .int 0, .int 0, .ref (u_3 16)])), (u_3 9, .inl (gI g, 10, .inl (fun _ => 0))), (u_3 10, .inl (gI g, 10, .inl (fun _ => 0))), (u_3 11, .inl (gI g, 10, .inl (fun _ => 0))), (u_3 12, .inl (gI g, 10, .inl (fun _ => 0))), (u_3 13, .inl (gI g, 10, .inl (fun _ => 0))), (u_3 14, .inl (gI g, 10, .inl (fun _ => 0))), (u_3 15, .inl (gI g, 10, .inl (fun _ => 0))), (u_3 16, .inl (gI g, 10, .inl (fun _ => 0))), (u_3 17, .inr (3, [.int 0, .ref (u_3 18), .ref (u_3 19), .ref (u_3 20)])), (u_3 18, .inl (gI g, 40, .inl (fun _ => 0))), (u_3 19, .inl (gI g, 40, .inl (fun _ => 0))), (u_3 20, .inl (gI g, 40, .inl (fun _ => 0))), (u_3 21, .inr (3, [.int 0, .ref (u_3 22), .ref (u_3 23), .ref (u_3 24)])), (u_3 22, .inl (gI g, 40, .inl (fun _ => 0))), (u_3 23, .inl (gI g, 40, .inl (fun _ => 0))), (u_3 24, .inl (gI g, 40, .inl (fun _ => 0))), (u_3 25, .inr (6, [.int 0, .int 0, .ref (u_3 26)])), (u_3 26, .inl (gI g, 14, .inl (fun _ => 0))), (u_3 27, .inl (gI g, 60, .inl (fun _ => 0))), (q_5, .inr (2, [.int 0, .int 0, .ref (u_7 1)])), (u_7 1, .inl (gN g, 16, .inr (.inr (.inr (.inr (fun _ => none)))))), (q_9, .inr (7, [.ref (u_11 1), .ref (u_11 2)])), (u_11 1, .inl (gI g, 7, .inl (fun _ => 0))), (u_11 2, .inl (gJ g, 5, .inr (.inl (fun _ => 0)))), (q_13, .inr (5, [.ref (u_15 1), .ref (u_15 2), .ref (u_15 3), .int 0, .int 0])), (u_15 1, .inl (gI g, 128, .inl (fun _ => 0))), (u_15 2, .inl (gI g, 128, .inl (fun _ => 0))), (u_15 3, .inl (gI g, 128, .inl (fun _ => 0))), (q_17, .inr (10, [.ref (u_19 1)])), (u_19 1, .inl (gI g, 60, .inl (fun _ => 0))), (q_21, .inl (gS g, 4, .inr (.inr (.inr (.inr (va_up (va_up (fun _ => none) 0 (some q_22)) 1 (some q_26))))))), (q_22, .inr (9, [.int 0, .int 0, .ref (u_24 1)])), (u_24 1, .inl (gI g, 60, .inl (fun _ => 0))), (q_26, .inr (9, [.int 0, .int 0, .ref (u_28 1)])), (u_28 1, .inl (gI g, 60, .inl (fun _ => 0))), (q_30, .inr (9, [.int 0, .int 0, .ref (u_32 1)])), (u_32 1, .inl (gI g, 60, .inl (fun _ => 0)))] H := hP
  have hD : va_D A [(h, .inr (11, [.ref q_1, .ref q_5, .ref q_9, .ref q_13, .ref q_17, .ref q_21, .int 0])), (q_1, .inr (4, [.ref (u_3 1), .ref (u_3 5), .ref (u_3 8), .ref (u_3 17), .ref (u_3 21), .ref (u_3 25), .ref (u_3 27), .int 0, .int 0, .int 36, .int 10])), (u_3 1, .inr (8, [.int 0, .ref (u_3 2), .ref (u_3 3), .ref (u_3 4)])), (u_3 2, .inl (gI g, 5, .inl (fun _ => 0))), (u_3 3, .inl (gI g, 5, .inl (fun _ => 0))), (u_3 4, .inl (gI g, 5, .inl (fun _ => 0))), (u_3 5, .inr (1, [.int 0, .ref (u_3 6), .ref (u_3 7), .int 0])), (u_3 6, .inl (gI g, 7, .inl (fun _ => 0))), (u_3 7, .inl (gI g, 7, .inl (fun _ => 0))), (u_3 8, .inr (0, [.int 0, .ref (u_3 9), .ref (u_3 10), .ref (u_3 11), .ref (u_3 12), .ref (u_3 13), .ref (u_3 14), .ref (u_3 15), .int 0, .int 0, .int 0, .ref (u_3 16)])), (u_3 9, .inl (gI g, 10, .inl (fun _ => 0))), (u_3 10, .inl (gI g, 10, .inl (fun _ => 0))), (u_3 11, .inl (gI g, 10, .inl (fun _ => 0))), (u_3 12, .inl (gI g, 10, .inl (fun _ => 0))), (u_3 13, .inl (gI g, 10, .inl (fun _ => 0))), (u_3 14, .inl (gI g, 10, .inl (fun _ => 0))), (u_3 15, .inl (gI g, 10, .inl (fun _ => 0))), (u_3 16, .inl (gI g, 10, .inl (fun _ => 0))), (u_3 17, .inr (3, [.int 0, .ref (u_3 18), .ref (u_3 19), .ref (u_3 20)])), (u_3 18, .inl (gI g, 40, .inl (fun _ => 0))), (u_3 19, .inl (gI g, 40, .inl (fun _ => 0))), (u_3 20, .inl (gI g, 40, .inl (fun _ => 0))), (u_3 21, .inr (3, [.int 0, .ref (u_3 22), .ref (u_3 23), .ref (u_3 24)])), (u_3 22, .inl (gI g, 40, .inl (fun _ => 0))), (u_3 23, .inl (gI g, 40, .inl (fun _ => 0))), (u_3 24, .inl (gI g, 40, .inl (fun _ => 0))), (u_3 25, .inr (6, [.int 0, .int 0, .ref (u_3 26)])), (u_3 26, .inl (gI g, 14, .inl (fun _ => 0))), (u_3 27, .inl (gI g, 60, .inl (fun _ => 0))), (q_5, .inr (2, [.int 0, .int 0, .ref (u_7 1)])), (u_7 1, .inl (gN g, 16, .inr (.inr (.inr (.inr (fun _ => none)))))), (q_9, .inr (7, [.ref (u_11 1), .ref (u_11 2)])), (u_11 1, .inl (gI g, 7, .inl (fun _ => 0))), (u_11 2, .inl (gJ g, 5, .inr (.inl (fun _ => 0)))), (q_13, .inr (5, [.ref (u_15 1), .ref (u_15 2), .ref (u_15 3), .int 0, .int 0])), (u_15 1, .inl (gI g, 128, .inl (fun _ => 0))), (u_15 2, .inl (gI g, 128, .inl (fun _ => 0))), (u_15 3, .inl (gI g, 128, .inl (fun _ => 0))), (q_17, .inr (10, [.ref (u_19 1)])), (u_19 1, .inl (gI g, 60, .inl (fun _ => 0))), (q_21, .inl (gS g, 4, .inr (.inr (.inr (.inr (va_up (va_up (fun _ => none) 0 (some q_22)) 1 (some q_26))))))), (q_22, .inr (9, [.int 0, .int 0, .ref (u_24 1)])), (u_24 1, .inl (gI g, 60, .inl (fun _ => 0))), (q_26, .inr (9, [.int 0, .int 0, .ref (u_28 1)])), (u_28 1, .inl (gI g, 60, .inl (fun _ => 0))), (q_30, .inr (9, [.int 0, .int 0, .ref (u_32 1)])), (u_32 1, .inl (gI g, 60, .inl (fun _ => 0)))] := hD
  refine W.widen (k := 46) (n := 1141) (Nat.le_of_ble_eq_true rfl) (Nat.le_of_ble_eq_true rfl) ?_
  refine va_astq hx hb hKW.1 hP hD hS 40 4 45 9 rfl rfl rfl rfl (show ¬ _ by decide) dX11_init_86 (fun H locs hP hD hS => ?_)
  have hP : va_P g.1 vwCl [(h, .inr (11, [.ref q_1, .ref q_5, .ref q_9, .ref q_13, .ref q_17, .ref q_21, .int 0])), (q_1, .inr (4, [.ref (u_3 1), .ref (u_3 5), .ref (u_3 8), .ref (u_3 17), .ref (u_3 21), .ref (u_3 25), .ref (u_3 27), .int 0, .int 0, .int 36, .int 10])), (u_3 1, .inr (8, [.int 0, .ref (u_3 2), .ref (u_3 3), .ref (u_3 4)])), (u_3 2, .inl (gI g, 5, .inl (fun _ => 0))), (u_3 3, .inl (gI g, 5, .inl (fun _ => 0))), (u_3 4, .inl (gI g, 5, .inl (fun _ => 0))), (u_3 5, .inr (1, [.int 0, .ref (u_3 6), .ref (u_3 7), .int 0])), (u_3 6, .inl (gI g, 7, .inl (fun _ => 0))), (u_3 7, .inl (gI g, 7, .inl (fun _ => 0))), (u_3 8, .inr (0, [.int 0, .ref (u_3 9), .ref (u_3 10), .ref (u_3 11), .ref (u_3 12), .ref (u_3 13), .ref (u_3 14), .ref (u_3 15), .int 0, .int 0, .int 0, .ref (u_3 16)])), (u_3 9, .inl (gI g, 10, .inl (fun _ => 0))), (u_3 10, .inl (gI g, 10, .inl (fun _ => 0))), (u_3 11, .inl (gI g, 10, .inl (fun _ => 0))), (u_3 12, .inl (gI g, 10, .inl (fun _ => 0))), (u_3 13, .inl (gI g, 10, .inl (fun _ => 0))), (u_3 14, .inl (gI g, 10, .inl (fun _ => 0))), (u_3 15, .inl (gI g, 10, .inl (fun _ => 0))), (u_3 16, .inl (gI g, 10, .inl (fun _ => 0))), (u_3 17, .inr (3, [.int 0, .ref (u_3 18), .ref (u_3 19), .ref (u_3 20)])), (u_3 18, .inl (gI g, 40, .inl (fun _ => 0))), (u_3 19, .inl (gI g, 40, .inl (fun _ => 0))), (u_3 20, .inl (gI g, 40, .inl (fun _ => 0))), (u_3 21, .inr (3, [.int 0, .ref (u_3 22), .ref (u_3 23), .ref (u_3 24)])), (u_3 22, .inl (gI g, 40, .inl (fun _ => 0))), (u_3 23, .inl (gI g, 40, .inl (fun _ => 0))), (u_3 24, .inl (gI g, 40, .inl (fun _ => 0))), (u_3 25, .inr (6, [.int 0, .int 0, .ref (u_3 26)])), (u_3 26, .inl (gI g, 14, .inl (fun _ => 0))), (u_3 27, .inl (gI g, 60, .inl (fun _ => 0))), (q_5, .inr (2, [.int 0, .int 0, .ref (u_7 1)])), (u_7 1, .inl (gN g, 16, .inr (.inr (.inr (.inr (fun _ => none)))))), (q_9, .inr (7, [.ref (u_11 1), .ref (u_11 2)])), (u_11 1, .inl (gI g, 7, .inl (fun _ => 0))), (u_11 2, .inl (gJ g, 5, .inr (.inl (fun _ => 0)))), (q_13, .inr (5, [.ref (u_15 1), .ref (u_15 2), .ref (u_15 3), .int 0, .int 0])), (u_15 1, .inl (gI g, 128, .inl (fun _ => 0))), (u_15 2, .inl (gI g, 128, .inl (fun _ => 0))), (u_15 3, .inl (gI g, 128, .inl (fun _ => 0))), (q_17, .inr (10, [.ref (u_19 1)])), (u_19 1, .inl (gI g, 60, .inl (fun _ => 0))), (q_21, .inl (gS g, 4, .inr (.inr (.inr (.inr (va_up (va_up (va_up (fun _ => none) 0 (some q_22)) 1 (some q_26)) 2 (some q_30))))))), (q_22, .inr (9, [.int 0, .int 0, .ref (u_24 1)])), (u_24 1, .inl (gI g, 60, .inl (fun _ => 0))), (q_26, .inr (9, [.int 0, .int 0, .ref (u_28 1)])), (u_28 1, .inl (gI g, 60, .inl (fun _ => 0))), (q_30, .inr (9, [.int 0, .int 0, .ref (u_32 1)])), (u_32 1, .inl (gI g, 60, .inl (fun _ => 0)))] H := hP
  have hD : va_D A [(h, .inr (11, [.ref q_1, .ref q_5, .ref q_9, .ref q_13, .ref q_17, .ref q_21, .int 0])), (q_1, .inr (4, [.ref (u_3 1), .ref (u_3 5), .ref (u_3 8), .ref (u_3 17), .ref (u_3 21), .ref (u_3 25), .ref (u_3 27), .int 0, .int 0, .int 36, .int 10])), (u_3 1, .inr (8, [.int 0, .ref (u_3 2), .ref (u_3 3), .ref (u_3 4)])), (u_3 2, .inl (gI g, 5, .inl (fun _ => 0))), (u_3 3, .inl (gI g, 5, .inl (fun _ => 0))), (u_3 4, .inl (gI g, 5, .inl (fun _ => 0))), (u_3 5, .inr (1, [.int 0, .ref (u_3 6), .ref (u_3 7), .int 0])), (u_3 6, .inl (gI g, 7, .inl (fun _ => 0))), (u_3 7, .inl (gI g, 7, .inl (fun _ => 0))), (u_3 8, .inr (0, [.int 0, .ref (u_3 9), .ref (u_3 10), .ref (u_3 11), .ref (u_3 12), .ref (u_3 13), .ref (u_3 14), .ref (u_3 15), .int 0, .int 0, .int 0, .ref (u_3 16)])), (u_3 9, .inl (gI g, 10, .inl (fun _ => 0))), (u_3 10, .inl (gI g, 10, .inl (fun _ => 0))), (u_3 11, .inl (gI g, 10, .inl (fun _ => 0))), (u_3 12, .inl (gI g, 10, .inl (fun _ => 0))), (u_3 13, .inl (gI g, 10, .inl (fun _ => 0))), (u_3 14, .inl (gI g, 10, .inl (fun _ => 0))), (u_3 15, .inl (gI g, 10, .inl (fun _ => 0))), (u_3 16, .inl (gI g, 10, .inl (fun _ => 0))), (u_3 17, .inr (3, [.int 0, .ref (u_3 18), .ref (u_3 19), .ref (u_3 20)])), (u_3 18, .inl (gI g, 40, .inl (fun _ => 0))), (u_3 19, .inl (gI g, 40, .inl (fun _ => 0))), (u_3 20, .inl (gI g, 40, .inl (fun _ => 0))), (u_3 21, .inr (3, [.int 0, .ref (u_3 22), .ref (u_3 23), .ref (u_3 24)])), (u_3 22, .inl (gI g, 40, .inl (fun _ => 0))), (u_3 23, .inl (gI g, 40, .inl (fun _ => 0))), (u_3 24, .inl (gI g, 40, .inl (fun _ => 0))), (u_3 25, .inr (6, [.int 0, .int 0, .ref (u_3 26)])), (u_3 26, .inl (gI g, 14, .inl (fun _ => 0))), (u_3 27, .inl (gI g, 60, .inl (fun _ => 0))), (q_5, .inr (2, [.int 0, .int 0, .ref (u_7 1)])), (u_7 1, .inl (gN g, 16, .inr (.inr (.inr (.inr (fun _ => none)))))), (q_9, .inr (7, [.ref (u_11 1), .ref (u_11 2)])), (u_11 1, .inl (gI g, 7, .inl (fun _ => 0))), (u_11 2, .inl (gJ g, 5, .inr (.inl (fun _ => 0)))), (q_13, .inr (5, [.ref (u_15 1), .ref (u_15 2), .ref (u_15 3), .int 0, .int 0])), (u_15 1, .inl (gI g, 128, .inl (fun _ => 0))), (u_15 2, .inl (gI g, 128, .inl (fun _ => 0))), (u_15 3, .inl (gI g, 128, .inl (fun _ => 0))), (q_17, .inr (10, [.ref (u_19 1)])), (u_19 1, .inl (gI g, 60, .inl (fun _ => 0))), (q_21, .inl (gS g, 4, .inr (.inr (.inr (.inr (va_up (va_up (va_up (fun _ => none) 0 (some q_22)) 1 (some q_26)) 2 (some q_30))))))), (q_22, .inr (9, [.int 0, .int 0, .ref (u_24 1)])), (u_24 1, .inl (gI g, 60, .inl (fun _ => 0))), (q_26, .inr (9, [.int 0, .int 0, .ref (u_28 1)])), (u_28 1, .inl (gI g, 60, .inl (fun _ => 0))), (q_30, .inr (9, [.int 0, .int 0, .ref (u_32 1)])), (u_32 1, .inl (gI g, 60, .inl (fun _ => 0)))] := hD
  refine lv_iinc (v := 3) (lv' := [(1, .int 3), (0, .ref h)]) hx hb dX11_init_87 hl (k := 0) rfl (by decide) (by decide) rfl (fun ls hl => ?_)
  refine lv_goto (tgt := 69) hx hb dX11_init_90 (by decide) ?_
  refine lv_iload_n hx hb dX11_init_69 rfl (lv_at hl 0 rfl) ?_
  refine lv_iconst (v := 4) hx hb dX11_init_70 (by decide) ?_
  refine lv_icmp_ge (tgt := 93) hx hb dX11_init_71 (by decide) (fun c => absurd c (by decide)) (fun _ => ?_)
  refine lv_aload_n hx hb dX11_init_74 rfl (lv_at hl 1 rfl) ?_
  refine va_get (ci := 11) (C := RX11) (T := TX11) (N := 7) hx hb hts inlX11 hown hKW.1 hP 0 rfl rfl 5 (by decide) (hts _ wd_2_9) (fun _ h => h) rfl dX11_init_75 ?_
  refine lv_iload_n hx hb dX11_init_78 rfl (lv_at hl 0 rfl) ?_
  refine va_new (ci := 9) (fs := [.int 0, .int 0, .null]) (C := RX9) (T := TX9) (N := 3) hx hb hts inlX9 tyX9 tyX9_ok hown (hts _ wd_2_8) (hts _ wd_2_10) (hts _ wd_2_11) hKW.1 hP hD hS hA rfl (fun j hj => by rcases (show j = 0 ∨ j = 1 ∨ j = 2 by omega) with rfl | rfl | rfl <;> rfl) (Nat.le_of_ble_eq_true rfl) (Nat.le_of_ble_eq_true rfl) dX11_init_79 (fun q_34 H hP hD hS => ?_)
  have hP : va_P g.1 vwCl [(h, .inr (11, [.ref q_1, .ref q_5, .ref q_9, .ref q_13, .ref q_17, .ref q_21, .int 0])), (q_1, .inr (4, [.ref (u_3 1), .ref (u_3 5), .ref (u_3 8), .ref (u_3 17), .ref (u_3 21), .ref (u_3 25), .ref (u_3 27), .int 0, .int 0, .int 36, .int 10])), (u_3 1, .inr (8, [.int 0, .ref (u_3 2), .ref (u_3 3), .ref (u_3 4)])), (u_3 2, .inl (gI g, 5, .inl (fun _ => 0))), (u_3 3, .inl (gI g, 5, .inl (fun _ => 0))), (u_3 4, .inl (gI g, 5, .inl (fun _ => 0))), (u_3 5, .inr (1, [.int 0, .ref (u_3 6), .ref (u_3 7), .int 0])), (u_3 6, .inl (gI g, 7, .inl (fun _ => 0))), (u_3 7, .inl (gI g, 7, .inl (fun _ => 0))), (u_3 8, .inr (0, [.int 0, .ref (u_3 9), .ref (u_3 10), .ref (u_3 11), .ref (u_3 12), .ref (u_3 13), .ref (u_3 14), .ref (u_3 15), .int 0, .int 0, .int 0, .ref (u_3 16)])), (u_3 9, .inl (gI g, 10, .inl (fun _ => 0))), (u_3 10, .inl (gI g, 10, .inl (fun _ => 0))), (u_3 11, .inl (gI g, 10, .inl (fun _ => 0))), (u_3 12, .inl (gI g, 10, .inl (fun _ => 0))), (u_3 13, .inl (gI g, 10, .inl (fun _ => 0))), (u_3 14, .inl (gI g, 10, .inl (fun _ => 0))), (u_3 15, .inl (gI g, 10, .inl (fun _ => 0))), (u_3 16, .inl (gI g, 10, .inl (fun _ => 0))), (u_3 17, .inr (3, [.int 0, .ref (u_3 18), .ref (u_3 19), .ref (u_3 20)])), (u_3 18, .inl (gI g, 40, .inl (fun _ => 0))), (u_3 19, .inl (gI g, 40, .inl (fun _ => 0))), (u_3 20, .inl (gI g, 40, .inl (fun _ => 0))), (u_3 21, .inr (3, [.int 0, .ref (u_3 22), .ref (u_3 23), .ref (u_3 24)])), (u_3 22, .inl (gI g, 40, .inl (fun _ => 0))), (u_3 23, .inl (gI g, 40, .inl (fun _ => 0))), (u_3 24, .inl (gI g, 40, .inl (fun _ => 0))), (u_3 25, .inr (6, [.int 0, .int 0, .ref (u_3 26)])), (u_3 26, .inl (gI g, 14, .inl (fun _ => 0))), (u_3 27, .inl (gI g, 60, .inl (fun _ => 0))), (q_5, .inr (2, [.int 0, .int 0, .ref (u_7 1)])), (u_7 1, .inl (gN g, 16, .inr (.inr (.inr (.inr (fun _ => none)))))), (q_9, .inr (7, [.ref (u_11 1), .ref (u_11 2)])), (u_11 1, .inl (gI g, 7, .inl (fun _ => 0))), (u_11 2, .inl (gJ g, 5, .inr (.inl (fun _ => 0)))), (q_13, .inr (5, [.ref (u_15 1), .ref (u_15 2), .ref (u_15 3), .int 0, .int 0])), (u_15 1, .inl (gI g, 128, .inl (fun _ => 0))), (u_15 2, .inl (gI g, 128, .inl (fun _ => 0))), (u_15 3, .inl (gI g, 128, .inl (fun _ => 0))), (q_17, .inr (10, [.ref (u_19 1)])), (u_19 1, .inl (gI g, 60, .inl (fun _ => 0))), (q_21, .inl (gS g, 4, .inr (.inr (.inr (.inr (va_up (va_up (va_up (fun _ => none) 0 (some q_22)) 1 (some q_26)) 2 (some q_30))))))), (q_22, .inr (9, [.int 0, .int 0, .ref (u_24 1)])), (u_24 1, .inl (gI g, 60, .inl (fun _ => 0))), (q_26, .inr (9, [.int 0, .int 0, .ref (u_28 1)])), (u_28 1, .inl (gI g, 60, .inl (fun _ => 0))), (q_30, .inr (9, [.int 0, .int 0, .ref (u_32 1)])), (u_32 1, .inl (gI g, 60, .inl (fun _ => 0))), (q_34, .inr (9, [.int 0, .int 0, .null]))] H := hP
  have hD : va_D A [(h, .inr (11, [.ref q_1, .ref q_5, .ref q_9, .ref q_13, .ref q_17, .ref q_21, .int 0])), (q_1, .inr (4, [.ref (u_3 1), .ref (u_3 5), .ref (u_3 8), .ref (u_3 17), .ref (u_3 21), .ref (u_3 25), .ref (u_3 27), .int 0, .int 0, .int 36, .int 10])), (u_3 1, .inr (8, [.int 0, .ref (u_3 2), .ref (u_3 3), .ref (u_3 4)])), (u_3 2, .inl (gI g, 5, .inl (fun _ => 0))), (u_3 3, .inl (gI g, 5, .inl (fun _ => 0))), (u_3 4, .inl (gI g, 5, .inl (fun _ => 0))), (u_3 5, .inr (1, [.int 0, .ref (u_3 6), .ref (u_3 7), .int 0])), (u_3 6, .inl (gI g, 7, .inl (fun _ => 0))), (u_3 7, .inl (gI g, 7, .inl (fun _ => 0))), (u_3 8, .inr (0, [.int 0, .ref (u_3 9), .ref (u_3 10), .ref (u_3 11), .ref (u_3 12), .ref (u_3 13), .ref (u_3 14), .ref (u_3 15), .int 0, .int 0, .int 0, .ref (u_3 16)])), (u_3 9, .inl (gI g, 10, .inl (fun _ => 0))), (u_3 10, .inl (gI g, 10, .inl (fun _ => 0))), (u_3 11, .inl (gI g, 10, .inl (fun _ => 0))), (u_3 12, .inl (gI g, 10, .inl (fun _ => 0))), (u_3 13, .inl (gI g, 10, .inl (fun _ => 0))), (u_3 14, .inl (gI g, 10, .inl (fun _ => 0))), (u_3 15, .inl (gI g, 10, .inl (fun _ => 0))), (u_3 16, .inl (gI g, 10, .inl (fun _ => 0))), (u_3 17, .inr (3, [.int 0, .ref (u_3 18), .ref (u_3 19), .ref (u_3 20)])), (u_3 18, .inl (gI g, 40, .inl (fun _ => 0))), (u_3 19, .inl (gI g, 40, .inl (fun _ => 0))), (u_3 20, .inl (gI g, 40, .inl (fun _ => 0))), (u_3 21, .inr (3, [.int 0, .ref (u_3 22), .ref (u_3 23), .ref (u_3 24)])), (u_3 22, .inl (gI g, 40, .inl (fun _ => 0))), (u_3 23, .inl (gI g, 40, .inl (fun _ => 0))), (u_3 24, .inl (gI g, 40, .inl (fun _ => 0))), (u_3 25, .inr (6, [.int 0, .int 0, .ref (u_3 26)])), (u_3 26, .inl (gI g, 14, .inl (fun _ => 0))), (u_3 27, .inl (gI g, 60, .inl (fun _ => 0))), (q_5, .inr (2, [.int 0, .int 0, .ref (u_7 1)])), (u_7 1, .inl (gN g, 16, .inr (.inr (.inr (.inr (fun _ => none)))))), (q_9, .inr (7, [.ref (u_11 1), .ref (u_11 2)])), (u_11 1, .inl (gI g, 7, .inl (fun _ => 0))), (u_11 2, .inl (gJ g, 5, .inr (.inl (fun _ => 0)))), (q_13, .inr (5, [.ref (u_15 1), .ref (u_15 2), .ref (u_15 3), .int 0, .int 0])), (u_15 1, .inl (gI g, 128, .inl (fun _ => 0))), (u_15 2, .inl (gI g, 128, .inl (fun _ => 0))), (u_15 3, .inl (gI g, 128, .inl (fun _ => 0))), (q_17, .inr (10, [.ref (u_19 1)])), (u_19 1, .inl (gI g, 60, .inl (fun _ => 0))), (q_21, .inl (gS g, 4, .inr (.inr (.inr (.inr (va_up (va_up (va_up (fun _ => none) 0 (some q_22)) 1 (some q_26)) 2 (some q_30))))))), (q_22, .inr (9, [.int 0, .int 0, .ref (u_24 1)])), (u_24 1, .inl (gI g, 60, .inl (fun _ => 0))), (q_26, .inr (9, [.int 0, .int 0, .ref (u_28 1)])), (u_28 1, .inl (gI g, 60, .inl (fun _ => 0))), (q_30, .inr (9, [.int 0, .int 0, .ref (u_32 1)])), (u_32 1, .inl (gI g, 60, .inl (fun _ => 0))), (q_34, .inr (9, [.int 0, .int 0, .null]))] := hD
  refine W.widen (k := 47) (n := 1144) (Nat.le_of_ble_eq_true rfl) (Nat.le_of_ble_eq_true rfl) ?_
  refine lv_dup hx hb dX11_init_82 rfl ?_
  refine k_IN [47] [0, 1, 2, 3, 4, 5, 6, 7, 8, 9, 10, 11, 12, 13, 14, 15, 16, 17, 18, 19, 20, 21, 22, 23, 24, 25, 26, 27, 28, 29, 30, 31, 32, 33, 34, 35, 36, 37, 38, 39, 40, 41, 42, 43, 44, 45, 46] (wr := [(h, .inr (11, [.ref q_1, .ref q_5, .ref q_9, .ref q_13, .ref q_17, .ref q_21, .int 0])), (q_1, .inr (4, [.ref (u_3 1), .ref (u_3 5), .ref (u_3 8), .ref (u_3 17), .ref (u_3 21), .ref (u_3 25), .ref (u_3 27), .int 0, .int 0, .int 36, .int 10])), (u_3 1, .inr (8, [.int 0, .ref (u_3 2), .ref (u_3 3), .ref (u_3 4)])), (u_3 2, .inl (gI g, 5, .inl (fun _ => 0))), (u_3 3, .inl (gI g, 5, .inl (fun _ => 0))), (u_3 4, .inl (gI g, 5, .inl (fun _ => 0))), (u_3 5, .inr (1, [.int 0, .ref (u_3 6), .ref (u_3 7), .int 0])), (u_3 6, .inl (gI g, 7, .inl (fun _ => 0))), (u_3 7, .inl (gI g, 7, .inl (fun _ => 0))), (u_3 8, .inr (0, [.int 0, .ref (u_3 9), .ref (u_3 10), .ref (u_3 11), .ref (u_3 12), .ref (u_3 13), .ref (u_3 14), .ref (u_3 15), .int 0, .int 0, .int 0, .ref (u_3 16)])), (u_3 9, .inl (gI g, 10, .inl (fun _ => 0))), (u_3 10, .inl (gI g, 10, .inl (fun _ => 0))), (u_3 11, .inl (gI g, 10, .inl (fun _ => 0))), (u_3 12, .inl (gI g, 10, .inl (fun _ => 0))), (u_3 13, .inl (gI g, 10, .inl (fun _ => 0))), (u_3 14, .inl (gI g, 10, .inl (fun _ => 0))), (u_3 15, .inl (gI g, 10, .inl (fun _ => 0))), (u_3 16, .inl (gI g, 10, .inl (fun _ => 0))), (u_3 17, .inr (3, [.int 0, .ref (u_3 18), .ref (u_3 19), .ref (u_3 20)])), (u_3 18, .inl (gI g, 40, .inl (fun _ => 0))), (u_3 19, .inl (gI g, 40, .inl (fun _ => 0))), (u_3 20, .inl (gI g, 40, .inl (fun _ => 0))), (u_3 21, .inr (3, [.int 0, .ref (u_3 22), .ref (u_3 23), .ref (u_3 24)])), (u_3 22, .inl (gI g, 40, .inl (fun _ => 0))), (u_3 23, .inl (gI g, 40, .inl (fun _ => 0))), (u_3 24, .inl (gI g, 40, .inl (fun _ => 0))), (u_3 25, .inr (6, [.int 0, .int 0, .ref (u_3 26)])), (u_3 26, .inl (gI g, 14, .inl (fun _ => 0))), (u_3 27, .inl (gI g, 60, .inl (fun _ => 0))), (q_5, .inr (2, [.int 0, .int 0, .ref (u_7 1)])), (u_7 1, .inl (gN g, 16, .inr (.inr (.inr (.inr (fun _ => none)))))), (q_9, .inr (7, [.ref (u_11 1), .ref (u_11 2)])), (u_11 1, .inl (gI g, 7, .inl (fun _ => 0))), (u_11 2, .inl (gJ g, 5, .inr (.inl (fun _ => 0)))), (q_13, .inr (5, [.ref (u_15 1), .ref (u_15 2), .ref (u_15 3), .int 0, .int 0])), (u_15 1, .inl (gI g, 128, .inl (fun _ => 0))), (u_15 2, .inl (gI g, 128, .inl (fun _ => 0))), (u_15 3, .inl (gI g, 128, .inl (fun _ => 0))), (q_17, .inr (10, [.ref (u_19 1)])), (u_19 1, .inl (gI g, 60, .inl (fun _ => 0))), (q_21, .inl (gS g, 4, .inr (.inr (.inr (.inr (va_up (va_up (va_up (fun _ => none) 0 (some q_22)) 1 (some q_26)) 2 (some q_30))))))), (q_22, .inr (9, [.int 0, .int 0, .ref (u_24 1)])), (u_24 1, .inl (gI g, 60, .inl (fun _ => 0))), (q_26, .inr (9, [.int 0, .int 0, .ref (u_28 1)])), (u_28 1, .inl (gI g, 60, .inl (fun _ => 0))), (q_30, .inr (9, [.int 0, .int 0, .ref (u_32 1)])), (u_32 1, .inl (gI g, 60, .inl (fun _ => 0)))]) hx hb hml hown hts hKW hP hD hS hA hl.1 (c_X9_init l g _ q_34 ) rfl wd_5_22 wd_2_11 nw_10 wd_5_21 yd_X9_init ⟨Nat.le_of_ble_eq_true rfl, Nat.le_of_ble_eq_true rfl⟩ rfl rfl rfl rfl rfl (by decide) rfl (Nat.le_of_ble_eq_true rfl) dX11_init_83 ⟨Nat.le_of_ble_eq_true rfl, Nat.le_of_ble_eq_true rfl⟩ (fun u_36 H locs hw_37 hP hD hS => ?_)
  have hP : va_P g.1 vwCl [(h, .inr (11, [.ref q_1, .ref q_5, .ref q_9, .ref q_13, .ref q_17, .ref q_21, .int 0])), (q_1, .inr (4, [.ref (u_3 1), .ref (u_3 5), .ref (u_3 8), .ref (u_3 17), .ref (u_3 21), .ref (u_3 25), .ref (u_3 27), .int 0, .int 0, .int 36, .int 10])), (u_3 1, .inr (8, [.int 0, .ref (u_3 2), .ref (u_3 3), .ref (u_3 4)])), (u_3 2, .inl (gI g, 5, .inl (fun _ => 0))), (u_3 3, .inl (gI g, 5, .inl (fun _ => 0))), (u_3 4, .inl (gI g, 5, .inl (fun _ => 0))), (u_3 5, .inr (1, [.int 0, .ref (u_3 6), .ref (u_3 7), .int 0])), (u_3 6, .inl (gI g, 7, .inl (fun _ => 0))), (u_3 7, .inl (gI g, 7, .inl (fun _ => 0))), (u_3 8, .inr (0, [.int 0, .ref (u_3 9), .ref (u_3 10), .ref (u_3 11), .ref (u_3 12), .ref (u_3 13), .ref (u_3 14), .ref (u_3 15), .int 0, .int 0, .int 0, .ref (u_3 16)])), (u_3 9, .inl (gI g, 10, .inl (fun _ => 0))), (u_3 10, .inl (gI g, 10, .inl (fun _ => 0))), (u_3 11, .inl (gI g, 10, .inl (fun _ => 0))), (u_3 12, .inl (gI g, 10, .inl (fun _ => 0))), (u_3 13, .inl (gI g, 10, .inl (fun _ => 0))), (u_3 14, .inl (gI g, 10, .inl (fun _ => 0))), (u_3 15, .inl (gI g, 10, .inl (fun _ => 0))), (u_3 16, .inl (gI g, 10, .inl (fun _ => 0))), (u_3 17, .inr (3, [.int 0, .ref (u_3 18), .ref (u_3 19), .ref (u_3 20)])), (u_3 18, .inl (gI g, 40, .inl (fun _ => 0))), (u_3 19, .inl (gI g, 40, .inl (fun _ => 0))), (u_3 20, .inl (gI g, 40, .inl (fun _ => 0))), (u_3 21, .inr (3, [.int 0, .ref (u_3 22), .ref (u_3 23), .ref (u_3 24)])), (u_3 22, .inl (gI g, 40, .inl (fun _ => 0))), (u_3 23, .inl (gI g, 40, .inl (fun _ => 0))), (u_3 24, .inl (gI g, 40, .inl (fun _ => 0))), (u_3 25, .inr (6, [.int 0, .int 0, .ref (u_3 26)])), (u_3 26, .inl (gI g, 14, .inl (fun _ => 0))), (u_3 27, .inl (gI g, 60, .inl (fun _ => 0))), (q_5, .inr (2, [.int 0, .int 0, .ref (u_7 1)])), (u_7 1, .inl (gN g, 16, .inr (.inr (.inr (.inr (fun _ => none)))))), (q_9, .inr (7, [.ref (u_11 1), .ref (u_11 2)])), (u_11 1, .inl (gI g, 7, .inl (fun _ => 0))), (u_11 2, .inl (gJ g, 5, .inr (.inl (fun _ => 0)))), (q_13, .inr (5, [.ref (u_15 1), .ref (u_15 2), .ref (u_15 3), .int 0, .int 0])), (u_15 1, .inl (gI g, 128, .inl (fun _ => 0))), (u_15 2, .inl (gI g, 128, .inl (fun _ => 0))), (u_15 3, .inl (gI g, 128, .inl (fun _ => 0))), (q_17, .inr (10, [.ref (u_19 1)])), (u_19 1, .inl (gI g, 60, .inl (fun _ => 0))), (q_21, .inl (gS g, 4, .inr (.inr (.inr (.inr (va_up (va_up (va_up (fun _ => none) 0 (some q_22)) 1 (some q_26)) 2 (some q_30))))))), (q_22, .inr (9, [.int 0, .int 0, .ref (u_24 1)])), (u_24 1, .inl (gI g, 60, .inl (fun _ => 0))), (q_26, .inr (9, [.int 0, .int 0, .ref (u_28 1)])), (u_28 1, .inl (gI g, 60, .inl (fun _ => 0))), (q_30, .inr (9, [.int 0, .int 0, .ref (u_32 1)])), (u_32 1, .inl (gI g, 60, .inl (fun _ => 0))), (q_34, .inr (9, [.int 0, .int 0, .ref (u_36 1)])), (u_36 1, .inl (gI g, 60, .inl (fun _ => 0)))] H := hP
  have hD : va_D A [(h, .inr (11, [.ref q_1, .ref q_5, .ref q_9, .ref q_13, .ref q_17, .ref q_21, .int 0])), (q_1, .inr (4, [.ref (u_3 1), .ref (u_3 5), .ref (u_3 8), .ref (u_3 17), .ref (u_3 21), .ref (u_3 25), .ref (u_3 27), .int 0, .int 0, .int 36, .int 10])), (u_3 1, .inr (8, [.int 0, .ref (u_3 2), .ref (u_3 3), .ref (u_3 4)])), (u_3 2, .inl (gI g, 5, .inl (fun _ => 0))), (u_3 3, .inl (gI g, 5, .inl (fun _ => 0))), (u_3 4, .inl (gI g, 5, .inl (fun _ => 0))), (u_3 5, .inr (1, [.int 0, .ref (u_3 6), .ref (u_3 7), .int 0])), (u_3 6, .inl (gI g, 7, .inl (fun _ => 0))), (u_3 7, .inl (gI g, 7, .inl (fun _ => 0))), (u_3 8, .inr (0, [.int 0, .ref (u_3 9), .ref (u_3 10), .ref (u_3 11), .ref (u_3 12), .ref (u_3 13), .ref (u_3 14), .ref (u_3 15), .int 0, .int 0, .int 0, .ref (u_3 16)])), (u_3 9, .inl (gI g, 10, .inl (fun _ => 0))), (u_3 10, .inl (gI g, 10, .inl (fun _ => 0))), (u_3 11, .inl (gI g, 10, .inl (fun _ => 0))), (u_3 12, .inl (gI g, 10, .inl (fun _ => 0))), (u_3 13, .inl (gI g, 10, .inl (fun _ => 0))), (u_3 14, .inl (gI g, 10, .inl (fun _ => 0))), (u_3 15, .inl (gI g, 10, .inl (fun _ => 0))), (u_3 16, .inl (gI g, 10, .inl (fun _ => 0))), (u_3 17, .inr (3, [.int 0, .ref (u_3 18), .ref (u_3 19), .ref (u_3 20)])), (u_3 18, .inl (gI g, 40, .inl (fun _ => 0))), (u_3 19, .inl (gI g, 40, .inl (fun _ => 0))), (u_3 20, .inl (gI g, 40, .inl (fun _ => 0))), (u_3 21, .inr (3, [.int 0, .ref (u_3 22), .ref (u_3 23), .ref (u_3 24)])), (u_3 22, .inl (gI g, 40, .inl (fun _ => 0))), (u_3 23, .inl (gI g, 40, .inl (fun _ => 0))), (u_3 24, .inl (gI g, 40, .inl (fun _ => 0))), (u_3 25, .inr (6, [.int 0, .int 0, .ref (u_3 26)])), (u_3 26, .inl (gI g, 14, .inl (fun _ => 0))), (u_3 27, .inl (gI g, 60, .inl (fun _ => 0))), (q_5, .inr (2, [.int 0, .int 0, .ref (u_7 1)])), (u_7 1, .inl (gN g, 16, .inr (.inr (.inr (.inr (fun _ => none)))))), (q_9, .inr (7, [.ref (u_11 1), .ref (u_11 2)])), (u_11 1, .inl (gI g, 7, .inl (fun _ => 0))), (u_11 2, .inl (gJ g, 5, .inr (.inl (fun _ => 0)))), (q_13, .inr (5, [.ref (u_15 1), .ref (u_15 2), .ref (u_15 3), .int 0, .int 0])), (u_15 1, .inl (gI g, 128, .inl (fun _ => 0))), (u_15 2, .inl (gI g, 128, .inl (fun _ => 0))), (u_15 3, .inl (gI g, 128, .inl (fun _ => 0))), (q_17, .inr (10, [.ref (u_19 1)])), (u_19 1, .inl (gI g, 60, .inl (fun _ => 0))), (q_21, .inl (gS g, 4, .inr (.inr (.inr (.inr (va_up (va_up (va_up (fun _ => none) 0 (some q_22)) 1 (some q_26)) 2 (some q_30))))))), (q_22, .inr (9, [.int 0, .int 0, .ref (u_24 1)])), (u_24 1, .inl (gI g, 60, .inl (fun _ => 0))), (q_26, .inr (9, [.int 0, .int 0, .ref (u_28 1)])), (u_28 1, .inl (gI g, 60, .inl (fun _ => 0))), (q_30, .inr (9, [.int 0, .int 0, .ref (u_32 1)])), (u_32 1, .inl (gI g, 60, .inl (fun _ => 0))), (q_34, .inr (9, [.int 0, .int 0, .ref (u_36 1)])), (u_36 1, .inl (gI g, 60, .inl (fun _ => 0)))] := hD
  refine W.widen (k := 48) (n := 1204) (Nat.le_of_ble_eq_true rfl) (Nat.le_of_ble_eq_true rfl) ?_
  refine va_astq hx hb hKW.1 hP hD hS 40 4 47 9 rfl rfl rfl rfl (show ¬ _ by decide) dX11_init_86 (fun H locs hP hD hS => ?_)
  have hP : va_P g.1 vwCl [(h, .inr (11, [.ref q_1, .ref q_5, .ref q_9, .ref q_13, .ref q_17, .ref q_21, .int 0])), (q_1, .inr (4, [.ref (u_3 1), .ref (u_3 5), .ref (u_3 8), .ref (u_3 17), .ref (u_3 21), .ref (u_3 25), .ref (u_3 27), .int 0, .int 0, .int 36, .int 10])), (u_3 1, .inr (8, [.int 0, .ref (u_3 2), .ref (u_3 3), .ref (u_3 4)])), (u_3 2, .inl (gI g, 5, .inl (fun _ => 0))), (u_3 3, .inl (gI g, 5, .inl (fun _ => 0))), (u_3 4, .inl (gI g, 5, .inl (fun _ => 0))), (u_3 5, .inr (1, [.int 0, .ref (u_3 6), .ref (u_3 7), .int 0])), (u_3 6, .inl (gI g, 7, .inl (fun _ => 0))), (u_3 7, .inl (gI g, 7, .inl (fun _ => 0))), (u_3 8, .inr (0, [.int 0, .ref (u_3 9), .ref (u_3 10), .ref (u_3 11), .ref (u_3 12), .ref (u_3 13), .ref (u_3 14), .ref (u_3 15), .int 0, .int 0, .int 0, .ref (u_3 16)])), (u_3 9, .inl (gI g, 10, .inl (fun _ => 0))), (u_3 10, .inl (gI g, 10, .inl (fun _ => 0))), (u_3 11, .inl (gI g, 10, .inl (fun _ => 0))), (u_3 12, .inl (gI g, 10, .inl (fun _ => 0))), (u_3 13, .inl (gI g, 10, .inl (fun _ => 0))), (u_3 14, .inl (gI g, 10, .inl (fun _ => 0))), (u_3 15, .inl (gI g, 10, .inl (fun _ => 0))), (u_3 16, .inl (gI g, 10, .inl (fun _ => 0))), (u_3 17, .inr (3, [.int 0, .ref (u_3 18), .ref (u_3 19), .ref (u_3 20)])), (u_3 18, .inl (gI g, 40, .inl (fun _ => 0))), (u_3 19, .inl (gI g, 40, .inl (fun _ => 0))), (u_3 20, .inl (gI g, 40, .inl (fun _ => 0))), (u_3 21, .inr (3, [.int 0, .ref (u_3 22), .ref (u_3 23), .ref (u_3 24)])), (u_3 22, .inl (gI g, 40, .inl (fun _ => 0))), (u_3 23, .inl (gI g, 40, .inl (fun _ => 0))), (u_3 24, .inl (gI g, 40, .inl (fun _ => 0))), (u_3 25, .inr (6, [.int 0, .int 0, .ref (u_3 26)])), (u_3 26, .inl (gI g, 14, .inl (fun _ => 0))), (u_3 27, .inl (gI g, 60, .inl (fun _ => 0))), (q_5, .inr (2, [.int 0, .int 0, .ref (u_7 1)])), (u_7 1, .inl (gN g, 16, .inr (.inr (.inr (.inr (fun _ => none)))))), (q_9, .inr (7, [.ref (u_11 1), .ref (u_11 2)])), (u_11 1, .inl (gI g, 7, .inl (fun _ => 0))), (u_11 2, .inl (gJ g, 5, .inr (.inl (fun _ => 0)))), (q_13, .inr (5, [.ref (u_15 1), .ref (u_15 2), .ref (u_15 3), .int 0, .int 0])), (u_15 1, .inl (gI g, 128, .inl (fun _ => 0))), (u_15 2, .inl (gI g, 128, .inl (fun _ => 0))), (u_15 3, .inl (gI g, 128, .inl (fun _ => 0))), (q_17, .inr (10, [.ref (u_19 1)])), (u_19 1, .inl (gI g, 60, .inl (fun _ => 0))), (q_21, .inl (gS g, 4, .inr (.inr (.inr (.inr (va_up (va_up (va_up (va_up (fun _ => none) 0 (some q_22)) 1 (some q_26)) 2 (some q_30)) 3 (some q_34))))))), (q_22, .inr (9, [.int 0, .int 0, .ref (u_24 1)])), (u_24 1, .inl (gI g, 60, .inl (fun _ => 0))), (q_26, .inr (9, [.int 0, .int 0, .ref (u_28 1)])), (u_28 1, .inl (gI g, 60, .inl (fun _ => 0))), (q_30, .inr (9, [.int 0, .int 0, .ref (u_32 1)])), (u_32 1, .inl (gI g, 60, .inl (fun _ => 0))), (q_34, .inr (9, [.int 0, .int 0, .ref (u_36 1)])), (u_36 1, .inl (gI g, 60, .inl (fun _ => 0)))] H := hP
  have hD : va_D A [(h, .inr (11, [.ref q_1, .ref q_5, .ref q_9, .ref q_13, .ref q_17, .ref q_21, .int 0])), (q_1, .inr (4, [.ref (u_3 1), .ref (u_3 5), .ref (u_3 8), .ref (u_3 17), .ref (u_3 21), .ref (u_3 25), .ref (u_3 27), .int 0, .int 0, .int 36, .int 10])), (u_3 1, .inr (8, [.int 0, .ref (u_3 2), .ref (u_3 3), .ref (u_3 4)])), (u_3 2, .inl (gI g, 5, .inl (fun _ => 0))), (u_3 3, .inl (gI g, 5, .inl (fun _ => 0))), (u_3 4, .inl (gI g, 5, .inl (fun _ => 0))), (u_3 5, .inr (1, [.int 0, .ref (u_3 6), .ref (u_3 7), .int 0])), (u_3 6, .inl (gI g, 7, .inl (fun _ => 0))), (u_3 7, .inl (gI g, 7, .inl (fun _ => 0))), (u_3 8, .inr (0, [.int 0, .ref (u_3 9), .ref (u_3 10), .ref (u_3 11), .ref (u_3 12), .ref (u_3 13), .ref (u_3 14), .ref (u_3 15), .int 0, .int 0, .int 0, .ref (u_3 16)])), (u_3 9, .inl (gI g, 10, .inl (fun _ => 0))), (u_3 10, .inl (gI g, 10, .inl (fun _ => 0))), (u_3 11, .inl (gI g, 10, .inl (fun _ => 0))), (u_3 12, .inl (gI g, 10, .inl (fun _ => 0))), (u_3 13, .inl (gI g, 10, .inl (fun _ => 0))), (u_3 14, .inl (gI g, 10, .inl (fun _ => 0))), (u_3 15, .inl (gI g, 10, .inl (fun _ => 0))), (u_3 16, .inl (gI g, 10, .inl (fun _ => 0))), (u_3 17, .inr (3, [.int 0, .ref (u_3 18), .ref (u_3 19), .ref (u_3 20)])), (u_3 18, .inl (gI g, 40, .inl (fun _ => 0))), (u_3 19, .inl (gI g, 40, .inl (fun _ => 0))), (u_3 20, .inl (gI g, 40, .inl (fun _ => 0))), (u_3 21, .inr (3, [.int 0, .ref (u_3 22), .ref (u_3 23), .ref (u_3 24)])), (u_3 22, .inl (gI g, 40, .inl (fun _ => 0))), (u_3 23, .inl (gI g, 40, .inl (fun _ => 0))), (u_3 24, .inl (gI g, 40, .inl (fun _ => 0))), (u_3 25, .inr (6, [.int 0, .int 0, .ref (u_3 26)])), (u_3 26, .inl (gI g, 14, .inl (fun _ => 0))), (u_3 27, .inl (gI g, 60, .inl (fun _ => 0))), (q_5, .inr (2, [.int 0, .int 0, .ref (u_7 1)])), (u_7 1, .inl (gN g, 16, .inr (.inr (.inr (.inr (fun _ => none)))))), (q_9, .inr (7, [.ref (u_11 1), .ref (u_11 2)])), (u_11 1, .inl (gI g, 7, .inl (fun _ => 0))), (u_11 2, .inl (gJ g, 5, .inr (.inl (fun _ => 0)))), (q_13, .inr (5, [.ref (u_15 1), .ref (u_15 2), .ref (u_15 3), .int 0, .int 0])), (u_15 1, .inl (gI g, 128, .inl (fun _ => 0))), (u_15 2, .inl (gI g, 128, .inl (fun _ => 0))), (u_15 3, .inl (gI g, 128, .inl (fun _ => 0))), (q_17, .inr (10, [.ref (u_19 1)])), (u_19 1, .inl (gI g, 60, .inl (fun _ => 0))), (q_21, .inl (gS g, 4, .inr (.inr (.inr (.inr (va_up (va_up (va_up (va_up (fun _ => none) 0 (some q_22)) 1 (some q_26)) 2 (some q_30)) 3 (some q_34))))))), (q_22, .inr (9, [.int 0, .int 0, .ref (u_24 1)])), (u_24 1, .inl (gI g, 60, .inl (fun _ => 0))), (q_26, .inr (9, [.int 0, .int 0, .ref (u_28 1)])), (u_28 1, .inl (gI g, 60, .inl (fun _ => 0))), (q_30, .inr (9, [.int 0, .int 0, .ref (u_32 1)])), (u_32 1, .inl (gI g, 60, .inl (fun _ => 0))), (q_34, .inr (9, [.int 0, .int 0, .ref (u_36 1)])), (u_36 1, .inl (gI g, 60, .inl (fun _ => 0)))] := hD
  refine lv_iinc (v := 4) (lv' := [(1, .int 4), (0, .ref h)]) hx hb dX11_init_87 hl (k := 0) rfl (by decide) (by decide) rfl (fun ls hl => ?_)
  refine lv_goto (tgt := 69) hx hb dX11_init_90 (by decide) ?_
  refine lv_iload_n hx hb dX11_init_69 rfl (lv_at hl 0 rfl) ?_
  refine lv_iconst (v := 4) hx hb dX11_init_70 (by decide) ?_
  refine lv_icmp_ge (tgt := 93) hx hb dX11_init_71 (by decide) (fun _ => ?_) (fun c => absurd c (by decide))
  exact k_vret (fun k => ([0, q_1, u_3 1, u_3 2, u_3 3, u_3 4, u_3 5, u_3 6, u_3 7, u_3 8, u_3 9, u_3 10, u_3 11, u_3 12, u_3 13, u_3 14, u_3 15, u_3 16, u_3 17, u_3 18, u_3 19, u_3 20, u_3 21, u_3 22, u_3 23, u_3 24, u_3 25, u_3 26, u_3 27, q_5, u_7 1, q_9, u_11 1, u_11 2, q_13, u_15 1, u_15 2, u_15 3, q_17, u_19 1, q_21, q_22, u_24 1, q_26, u_28 1, q_30, u_32 1, q_34, u_36 1] : List Nat).getD k 0) [0, 1, 2, 3, 4, 5, 6, 7, 8, 9, 10, 11, 12, 13, 14, 15, 16, 17, 18, 19, 20, 21, 22, 23, 24, 25, 26, 27, 28, 29, 30, 31, 32, 33, 34, 35, 36, 37, 38, 39, 40, 41, 42, 43, 44, 45, 46, 47, 48] hx hb hr hlk hP hD hS trivial rfl rfl rfl (Nat.le_of_ble_eq_true rfl) (Nat.le_of_ble_eq_true rfl) dX11_init_93
theorem dX12_init_0 : decode cX12_init 0 = .ok (.aload_n 0, 1) := by decide +kernel
theorem dX12_init_1 : decode cX12_init 1 = .ok (.invokespecial 1, 3) := by decide +kernel
theorem dX12_init_4 : decode cX12_init 4 = .ok (.aload_n 0, 1) := by decide +kernel
theorem dX12_init_5 : decode cX12_init 5 = .ok (.sipush 461, 3) := by decide +kernel
theorem dX12_init_8 : decode cX12_init 8 = .ok (.newarray .int, 2) := by decide +kernel
theorem dX12_init_10 : decode cX12_init 10 = .ok (.putfield 7, 3) := by decide +kernel
theorem dX12_init_13 : decode cX12_init 13 = .ok (.aload_n 0, 1) := by decide +kernel
theorem dX12_init_14 : decode cX12_init 14 = .ok (.sipush 7376, 3) := by decide +kernel
theorem dX12_init_17 : decode cX12_init 17 = .ok (.newarray .int, 2) := by decide +kernel
theorem dX12_init_19 : decode cX12_init 19 = .ok (.putfield 13, 3) := by decide +kernel
theorem dX12_init_22 : decode cX12_init 22 = .ok (.aload_n 0, 1) := by decide +kernel
theorem dX12_init_23 : decode cX12_init 23 = .ok (.iconst 4, 1) := by decide +kernel
theorem dX12_init_24 : decode cX12_init 24 = .ok (.newarray .int, 2) := by decide +kernel
theorem dX12_init_26 : decode cX12_init 26 = .ok (.putfield 16, 3) := by decide +kernel
theorem dX12_init_29 : decode cX12_init 29 = .ok (.aload_n 0, 1) := by decide +kernel
theorem dX12_init_30 : decode cX12_init 30 = .ok (.iconst 4, 1) := by decide +kernel
theorem dX12_init_31 : decode cX12_init 31 = .ok (.newarray .int, 2) := by decide +kernel
theorem dX12_init_33 : decode cX12_init 33 = .ok (.putfield 19, 3) := by decide +kernel
theorem dX12_init_36 : decode cX12_init 36 = .ok (.aload_n 0, 1) := by decide +kernel
theorem dX12_init_37 : decode cX12_init 37 = .ok (.sipush 240, 3) := by decide +kernel
theorem dX12_init_40 : decode cX12_init 40 = .ok (.newarray .int, 2) := by decide +kernel
theorem dX12_init_42 : decode cX12_init 42 = .ok (.putfield 22, 3) := by decide +kernel
theorem dX12_init_45 : decode cX12_init 45 = .ok (.aload_n 0, 1) := by decide +kernel
theorem dX12_init_46 : decode cX12_init 46 = .ok (.iconst 5, 1) := by decide +kernel
theorem dX12_init_47 : decode cX12_init 47 = .ok (.newarray .int, 2) := by decide +kernel
theorem dX12_init_49 : decode cX12_init 49 = .ok (.putfield 25, 3) := by decide +kernel
theorem dX12_init_52 : decode cX12_init 52 = .ok (.aload_n 0, 1) := by decide +kernel
theorem dX12_init_53 : decode cX12_init 53 = .ok (.bipush 7, 2) := by decide +kernel
theorem dX12_init_55 : decode cX12_init 55 = .ok (.newarray .int, 2) := by decide +kernel
theorem dX12_init_57 : decode cX12_init 57 = .ok (.putfield 28, 3) := by decide +kernel
theorem dX12_init_60 : decode cX12_init 60 = .ok (.aload_n 0, 1) := by decide +kernel
theorem dX12_init_61 : decode cX12_init 61 = .ok (.iconst 5, 1) := by decide +kernel
theorem dX12_init_62 : decode cX12_init 62 = .ok (.newarray .int, 2) := by decide +kernel
theorem dX12_init_64 : decode cX12_init 64 = .ok (.putfield 31, 3) := by decide +kernel
theorem dX12_init_67 : decode cX12_init 67 = .ok (.aload_n 0, 1) := by decide +kernel
theorem dX12_init_68 : decode cX12_init 68 = .ok (.iconst 5, 1) := by decide +kernel
theorem dX12_init_69 : decode cX12_init 69 = .ok (.newarray .int, 2) := by decide +kernel
theorem dX12_init_71 : decode cX12_init 71 = .ok (.putfield 34, 3) := by decide +kernel
theorem dX12_init_74 : decode cX12_init 74 = .ok (.aload_n 0, 1) := by decide +kernel
theorem dX12_init_75 : decode cX12_init 75 = .ok (.iconst 5, 1) := by decide +kernel
theorem dX12_init_76 : decode cX12_init 76 = .ok (.newarray .boolean, 2) := by decide +kernel
theorem dX12_init_78 : decode cX12_init 78 = .ok (.putfield 37, 3) := by decide +kernel
theorem dX12_init_81 : decode cX12_init 81 = .ok (.aload_n 0, 1) := by decide +kernel
theorem dX12_init_82 : decode cX12_init 82 = .ok (.bipush 7, 2) := by decide +kernel
theorem dX12_init_84 : decode cX12_init 84 = .ok (.newarray .int, 2) := by decide +kernel
theorem dX12_init_86 : decode cX12_init 86 = .ok (.putfield 41, 3) := by decide +kernel
theorem dX12_init_89 : decode cX12_init 89 = .ok (.aload_n 0, 1) := by decide +kernel
theorem dX12_init_90 : decode cX12_init 90 = .ok (.bipush 7, 2) := by decide +kernel
theorem dX12_init_92 : decode cX12_init 92 = .ok (.newarray .int, 2) := by decide +kernel
theorem dX12_init_94 : decode cX12_init 94 = .ok (.putfield 44, 3) := by decide +kernel
theorem dX12_init_97 : decode cX12_init 97 = .ok (.aload_n 0, 1) := by decide +kernel
theorem dX12_init_98 : decode cX12_init 98 = .ok (.bipush 60, 2) := by decide +kernel
theorem dX12_init_100 : decode cX12_init 100 = .ok (.newarray .int, 2) := by decide +kernel
theorem dX12_init_102 : decode cX12_init 102 = .ok (.putfield 47, 3) := by decide +kernel
theorem dX12_init_105 : decode cX12_init 105 = .ok (.aload_n 0, 1) := by decide +kernel
theorem dX12_init_106 : decode cX12_init 106 = .ok (.sipush 480, 3) := by decide +kernel
theorem dX12_init_109 : decode cX12_init 109 = .ok (.newarray .int, 2) := by decide +kernel
theorem dX12_init_111 : decode cX12_init 111 = .ok (.putfield 50, 3) := by decide +kernel
theorem dX12_init_114 : decode cX12_init 114 = .ok (.aload_n 0, 1) := by decide +kernel
theorem dX12_init_115 : decode cX12_init 115 = .ok (.bipush 60, 2) := by decide +kernel
theorem dX12_init_117 : decode cX12_init 117 = .ok (.newarray .int, 2) := by decide +kernel
theorem dX12_init_119 : decode cX12_init 119 = .ok (.putfield 53, 3) := by decide +kernel
theorem dX12_init_122 : decode cX12_init 122 = .ok (.aload_n 0, 1) := by decide +kernel
theorem dX12_init_123 : decode cX12_init 123 = .ok (.getfield 7, 3) := by decide +kernel
theorem dX12_init_126 : decode cX12_init 126 = .ok (.bipush 7, 2) := by decide +kernel
theorem dX12_init_128 : decode cX12_init 128 = .ok (.bipush 36, 2) := by decide +kernel
theorem dX12_init_130 : decode cX12_init 130 = .ok (.iastore, 1) := by decide +kernel
theorem dX12_init_131 : decode cX12_init 131 = .ok (.aload_n 0, 1) := by decide +kernel
theorem dX12_init_132 : decode cX12_init 132 = .ok (.getfield 7, 3) := by decide +kernel
theorem dX12_init_135 : decode cX12_init 135 = .ok (.bipush 9, 2) := by decide +kernel
theorem dX12_init_137 : decode cX12_init 137 = .ok (.bipush 10, 2) := by decide +kernel
theorem dX12_init_139 : decode cX12_init 139 = .ok (.iastore, 1) := by decide +kernel
theorem dX12_init_140 : decode cX12_init 140 = .ok (.return_, 1) := by decide +kernel
set_option maxHeartbeats 4000000 in
set_option maxRecDepth 100000 in
theorem c_X12_init (l : Launch) (g : kG) (sz : Nat) (h : Nat) : kMv l g yX12_init cX12_init 1 none 1 15 8726 [.ref h] sz [(h, .inr (12, [.null, .null, .int 0, .int 0, .null, .null, .null, .null, .int 0, .null, .null, .null, .null, .null, .null, .int 0, .null, .null, .int 0, .null]))] (fun (u : (Nat → Nat)) => True) (fun (u : (Nat → Nat)) => ([(h, .inr (12, [.ref (u 1), .ref (u 2), .int 0, .int 0, .ref (u 3), .ref (u 4), .ref (u 5), .ref (u 6), .int 0, .ref (u 7), .ref (u 8), .ref (u 9), .ref (u 10), .ref (u 11), .ref (u 12), .int 0, .ref (u 13), .ref (u 14), .int 0, .ref (u 15)])), (u 1, .inl (gI g, 461, .inl mD0)), (u 2, .inl (gI g, 7376, .inl (fun _ => 0))), (u 3, .inl (gI g, 4, .inl (fun _ => 0))), (u 4, .inl (gI g, 4, .inl (fun _ => 0))), (u 5, .inl (gI g, 240, .inl (fun _ => 0))), (u 6, .inl (gI g, 5, .inl (fun _ => 0))), (u 7, .inl (gI g, 7, .inl (fun _ => 0))), (u 8, .inl (gI g, 5, .inl (fun _ => 0))), (u 9, .inl (gI g, 5, .inl (fun _ => 0))), (u 10, .inl (gZ g, 5, .inl (fun _ => 0))), (u 11, .inl (gI g, 7, .inl (fun _ => 0))), (u 12, .inl (gI g, 7, .inl (fun _ => 0))), (u 13, .inl (gI g, 60, .inl (fun _ => 0))), (u 14, .inl (gI g, 480, .inl (fun _ => 0))), (u 15, .inl (gI g, 60, .inl (fun _ => 0)))] : va_W)) := by
  refine kMv.of (by decide) (Nat.le_of_ble_eq_true rfl) (fun p e s m below meth c A hx hb hr hml hown hts hlk hnm hKW hP hD hS hA ls hl => ?_)
  have hown : s.vm.findClass RX12 = some m.cls := hown
  have hl : lv_has ls 1 [(0, .ref h)] := hl
  refine lv_aload_n hx hb dX12_init_0 rfl (lv_at hl 0 rfl) ?_
  refine W.objInit hx hb hown (hts _ wd_6_4) (hts _ wd_1_10) (hts _ wd_1_11) rfl (by rw [hml]; exact hl.1) rfl dX12_init_1 (Nat.le_of_ble_eq_true rfl) (Nat.le_of_ble_eq_true rfl) ?_
  refine W.eq (g2 := F0 m 4 ls []) rfl ?_
  refine lv_aload_n hx hb dX12_init_4 rfl (lv_at hl 0 rfl) ?_
  refine lv_sipush (v := 461) hx hb dX12_init_5 (by decide) ?_
  refine k_newi (N' := 461) hx hb (hts _ wd_3_12) hKW hP hD hS hA (by decide) (by decide) (by decide) (Nat.le_of_ble_eq_true rfl) (Nat.le_of_ble_eq_true rfl) dX12_init_8 (fun q_1 H hP hD hS => ?_)
  have hP : va_P g.1 vwCl [(h, .inr (12, [.null, .null, .int 0, .int 0, .null, .null, .null, .null, .int 0, .null, .null, .null, .null, .null, .null, .int 0, .null, .null, .int 0, .null])), (q_1, .inl (gI g, 461, .inl (fun _ => 0)))] H := hP
  have hD : va_D A [(h, .inr (12, [.null, .null, .int 0, .int 0, .null, .null, .null, .null, .int 0, .null, .null, .null, .null, .null, .null, .int 0, .null, .null, .int 0, .null])), (q_1, .inl (gI g, 461, .inl (fun _ => 0)))] := hD
  refine W.widen (k := 1) (n := 461) (Nat.le_of_ble_eq_true rfl) (Nat.le_of_ble_eq_true rfl) ?_
  refine va_putF (ci := 12) (v := .ref q_1) (C := RX12) (T := TX12) (N := 20) hx hb hts inlX12 tyX12 tyX12_ok nmX12 hown hKW.1 hP hD hS 0 rfl rfl 0 (by decide) (hts _ wd_6_5) (fun _ h => h) rfl hnm rfl (tyX12_ok 0 (by decide)) rfl rfl (Nat.le_of_ble_eq_true rfl) dX12_init_10 (fun H locs hP hD hS => ?_)
  have hP : va_P g.1 vwCl [(h, .inr (12, [.ref q_1, .null, .int 0, .int 0, .null, .null, .null, .null, .int 0, .null, .null, .null, .null, .null, .null, .int 0, .null, .null, .int 0, .null])), (q_1, .inl (gI g, 461, .inl (fun _ => 0)))] H := hP
  have hD : va_D A [(h, .inr (12, [.ref q_1, .null, .int 0, .int 0, .null, .null, .null, .null, .int 0, .null, .null, .null, .null, .null, .null, .int 0, .null, .null, .int 0, .null])), (q_1, .inl (gI g, 461, .inl (fun _ => 0)))] := hD
  refine lv_aload_n hx hb dX12_init_13 rfl (lv_at hl 0 rfl) ?_
  refine lv_sipush (v := 7376) hx hb dX12_init_14 (by decide) ?_
  refine k_newi (N' := 7376) hx hb (hts _ wd_3_12) hKW hP hD hS hA (by decide) (by decide) (by decide) (Nat.le_of_ble_eq_true rfl) (Nat.le_of_ble_eq_true rfl) dX12_init_17 (fun q_2 H hP hD hS => ?_)
  have hP : va_P g.1 vwCl [(h, .inr (12, [.ref q_1, .null, .int 0, .int 0, .null, .null, .null, .null, .int 0, .null, .null, .null, .null, .null, .null, .int 0, .null, .null, .int 0, .null])), (q_1, .inl (gI g, 461, .inl (fun _ => 0))), (q_2, .inl (gI g, 7376, .inl (fun _ => 0)))] H := hP
  have hD : va_D A [(h, .inr (12, [.ref q_1, .null, .int 0, .int 0, .null, .null, .null, .null, .int 0, .null, .null, .null, .null, .null, .null, .int 0, .null, .null, .int 0, .null])), (q_1, .inl (gI g, 461, .inl (fun _ => 0))), (q_2, .inl (gI g, 7376, .inl (fun _ => 0)))] := hD
  refine W.widen (k := 2) (n := 7837) (Nat.le_of_ble_eq_true rfl) (Nat.le_of_ble_eq_true rfl) ?_
  refine va_putF (ci := 12) (v := .ref q_2) (C := RX12) (T := TX12) (N := 20) hx hb hts inlX12 tyX12 tyX12_ok nmX12 hown hKW.1 hP hD hS 0 rfl rfl 1 (by decide) (hts _ wd_6_6) (fun _ h => h) rfl hnm rfl (tyX12_ok 1 (by decide)) rfl rfl (Nat.le_of_ble_eq_true rfl) dX12_init_19 (fun H locs hP hD hS => ?_)
  have hP : va_P g.1 vwCl [(h, .inr (12, [.ref q_1, .ref q_2, .int 0, .int 0, .null, .null, .null, .null, .int 0, .null, .null, .null, .null, .null, .null, .int 0, .null, .null, .int 0, .null])), (q_1, .inl (gI g, 461, .inl (fun _ => 0))), (q_2, .inl (gI g, 7376, .inl (fun _ => 0)))] H := hP
  have hD : va_D A [(h, .inr (12, [.ref q_1, .ref q_2, .int 0, .int 0, .null, .null, .null, .null, .int 0, .null, .null, .null, .null, .null, .null, .int 0, .null, .null, .int 0, .null])), (q_1, .inl (gI g, 461, .inl (fun _ => 0))), (q_2, .inl (gI g, 7376, .inl (fun _ => 0)))] := hD
  refine lv_aload_n hx hb dX12_init_22 rfl (lv_at hl 0 rfl) ?_
  refine lv_iconst (v := 4) hx hb dX12_init_23 (by decide) ?_
  refine k_newi (N' := 4) hx hb (hts _ wd_3_12) hKW hP hD hS hA (by decide) (by decide) (by decide) (Nat.le_of_ble_eq_true rfl) (Nat.le_of_ble_eq_true rfl) dX12_init_24 (fun q_3 H hP hD hS => ?_)
  have hP : va_P g.1 vwCl [(h, .inr (12, [.ref q_1, .ref q_2, .int 0, .int 0, .null, .null, .null, .null, .int 0, .null, .null, .null, .null, .null, .null, .int 0, .null, .null, .int 0, .null])), (q_1, .inl (gI g, 461, .inl (fun _ => 0))), (q_2, .inl (gI g, 7376, .inl (fun _ => 0))), (q_3, .inl (gI g, 4, .inl (fun _ => 0)))] H := hP
  have hD : va_D A [(h, .inr (12, [.ref q_1, .ref q_2, .int 0, .int 0, .null, .null, .null, .null, .int 0, .null, .null, .null, .null, .null, .null, .int 0, .null, .null, .int 0, .null])), (q_1, .inl (gI g, 461, .inl (fun _ => 0))), (q_2, .inl (gI g, 7376, .inl (fun _ => 0))), (q_3, .inl (gI g, 4, .inl (fun _ => 0)))] := hD
  refine W.widen (k := 3) (n := 7841) (Nat.le_of_ble_eq_true rfl) (Nat.le_of_ble_eq_true rfl) ?_
  refine va_putF (ci := 12) (v := .ref q_3) (C := RX12) (T := TX12) (N := 20) hx hb hts inlX12 tyX12 tyX12_ok nmX12 hown hKW.1 hP hD hS 0 rfl rfl 4 (by decide) (hts _ wd_6_7) (fun _ h => h) rfl hnm rfl (tyX12_ok 4 (by decide)) rfl rfl (Nat.le_of_ble_eq_true rfl) dX12_init_26 (fun H locs hP hD hS => ?_)
  have hP : va_P g.1 vwCl [(h, .inr (12, [.ref q_1, .ref q_2, .int 0, .int 0, .ref q_3, .null, .null, .null, .int 0, .null, .null, .null, .null, .null, .null, .int 0, .null, .null, .int 0, .null])), (q_1, .inl (gI g, 461, .inl (fun _ => 0))), (q_2, .inl (gI g, 7376, .inl (fun _ => 0))), (q_3, .inl (gI g, 4, .inl (fun _ => 0)))] H := hP
  have hD : va_D A [(h, .inr (12, [.ref q_1, .ref q_2, .int 0, .int 0, .ref q_3, .null, .null, .null, .int 0, .null, .null, .null, .null, .null, .null, .int 0, .null, .null, .int 0, .null])), (q_1, .inl (gI g, 461, .inl (fun _ => 0))), (q_2, .inl (gI g, 7376, .inl (fun _ => 0))), (q_3, .inl (gI g, 4, .inl (fun _ => 0)))] := hD
  refine lv_aload_n hx hb dX12_init_29 rfl (lv_at hl 0 rfl) ?_
  refine lv_iconst (v := 4) hx hb dX12_init_30 (by decide) ?_
  refine k_newi (N' := 4) hx hb (hts _ wd_3_12) hKW hP hD hS hA (by decide) (by decide) (by decide) (Nat.le_of_ble_eq_true rfl) (Nat.le_of_ble_eq_true rfl) dX12_init_31 (fun q_4 H hP hD hS => ?_)
  have hP : va_P g.1 vwCl [(h, .inr (12, [.ref q_1, .ref q_2, .int 0, .int 0, .ref q_3, .null, .null, .null, .int 0, .null, .null, .null, .null, .null, .null, .int 0, .null, .null, .int 0, .null])), (q_1, .inl (gI g, 461, .inl (fun _ => 0))), (q_2, .inl (gI g, 7376, .inl (fun _ => 0))), (q_3, .inl (gI g, 4, .inl (fun _ => 0))), (q_4, .inl (gI g, 4, .inl (fun _ => 0)))] H := hP
  have hD : va_D A [(h, .inr (12, [.ref q_1, .ref q_2, .int 0, .int 0, .ref q_3, .null, .null, .null, .int 0, .null, .null, .null, .null, .null, .null, .int 0, .null, .null, .int 0, .null])), (q_1, .inl (gI g, 461, .inl (fun _ => 0))), (q_2, .inl (gI g, 7376, .inl (fun _ => 0))), (q_3, .inl (gI g, 4, .inl (fun _ => 0))), (q_4, .inl (gI g, 4, .inl (fun _ => 0)))] := hD
  refine W.widen (k := 4) (n := 7845) (Nat.le_of_ble_eq_true rfl) (Nat.le_of_ble_eq_true rfl) ?_
  refine va_putF (ci := 12) (v := .ref q_4) (C := RX12) (T := TX12) (N := 20) hx hb hts inlX12 tyX12 tyX12_ok nmX12 hown hKW.1 hP hD hS 0 rfl rfl 5 (by decide) (hts _ wd_6_8) (fun _ h => h) rfl hnm rfl (tyX12_ok 5 (by decide)) rfl rfl (Nat.le_of_ble_eq_true rfl) dX12_init_33 (fun H locs hP hD hS => ?_)
  have hP : va_P g.1 vwCl [(h, .inr (12, [.ref q_1, .ref q_2, .int 0, .int 0, .ref q_3, .ref q_4, .null, .null, .int 0, .null, .null, .null, .null, .null, .null, .int 0, .null, .null, .int 0, .null])), (q_1, .inl (gI g, 461, .inl (fun _ => 0))), (q_2, .inl (gI g, 7376, .inl (fun _ => 0))), (q_3, .inl (gI g, 4, .inl (fun _ => 0))), (q_4, .inl (gI g, 4, .inl (fun _ => 0)))] H := hP
  have hD : va_D A [(h, .inr (12, [.ref q_1, .ref q_2, .int 0, .int 0, .ref q_3, .ref q_4, .null, .null, .int 0, .null, .null, .null, .null, .null, .null, .int 0, .null, .null, .int 0, .null])), (q_1, .inl (gI g, 461, .inl (fun _ => 0))), (q_2, .inl (gI g, 7376, .inl (fun _ => 0))), (q_3, .inl (gI g, 4, .inl (fun _ => 0))), (q_4, .inl (gI g, 4, .inl (fun _ => 0)))] := hD
  refine lv_aload_n hx hb dX12_init_36 rfl (lv_at hl 0 rfl) ?_
  refine lv_sipush (v := 240) hx hb dX12_init_37 (by decide) ?_
  refine k_newi (N' := 240) hx hb (hts _ wd_3_12) hKW hP hD hS hA (by decide) (by decide) (by decide) (Nat.le_of_ble_eq_true rfl) (Nat.le_of_ble_eq_true rfl) dX12_init_40 (fun q_5 H hP hD hS => ?_)
  have hP : va_P g.1 vwCl [(h, .inr (12, [.ref q_1, .ref q_2, .int 0, .int 0, .ref q_3, .ref q_4, .null, .null, .int 0, .null, .null, .null, .null, .null, .null, .int 0, .null, .null, .int 0, .null])), (q_1, .inl (gI g, 461, .inl (fun _ => 0))), (q_2, .inl (gI g, 7376, .inl (fun _ => 0))), (q_3, .inl (gI g, 4, .inl (fun _ => 0))), (q_4, .inl (gI g, 4, .inl (fun _ => 0))), (q_5, .inl (gI g, 240, .inl (fun _ => 0)))] H := hP
  have hD : va_D A [(h, .inr (12, [.ref q_1, .ref q_2, .int 0, .int 0, .ref q_3, .ref q_4, .null, .null, .int 0, .null, .null, .null, .null, .null, .null, .int 0, .null, .null, .int 0, .null])), (q_1, .inl (gI g, 461, .inl (fun _ => 0))), (q_2, .inl (gI g, 7376, .inl (fun _ => 0))), (q_3, .inl (gI g, 4, .inl (fun _ => 0))), (q_4, .inl (gI g, 4, .inl (fun _ => 0))), (q_5, .inl (gI g, 240, .inl (fun _ => 0)))] := hD
  refine W.widen (k := 5) (n := 8085) (Nat.le_of_ble_eq_true rfl) (Nat.le_of_ble_eq_true rfl) ?_
  refine va_putF (ci := 12) (v := .ref q_5) (C := RX12) (T := TX12) (N := 20) hx hb hts inlX12 tyX12 tyX12_ok nmX12 hown hKW.1 hP hD hS 0 rfl rfl 6 (by decide) (hts _ wd_6_9) (fun _ h => h) rfl hnm rfl (tyX12_ok 6 (by decide)) rfl rfl (Nat.le_of_ble_eq_true rfl) dX12_init_42 (fun H locs hP hD hS => ?_)
  have hP : va_P g.1 vwCl [(h, .inr (12, [.ref q_1, .ref q_2, .int 0, .int 0, .ref q_3, .ref q_4, .ref q_5, .null, .int 0, .null, .null, .null, .null, .null, .null, .int 0, .null, .null, .int 0, .null])), (q_1, .inl (gI g, 461, .inl (fun _ => 0))), (q_2, .inl (gI g, 7376, .inl (fun _ => 0))), (q_3, .inl (gI g, 4, .inl (fun _ => 0))), (q_4, .inl (gI g, 4, .inl (fun _ => 0))), (q_5, .inl (gI g, 240, .inl (fun _ => 0)))] H := hP
  have hD : va_D A [(h, .inr (12, [.ref q_1, .ref q_2, .int 0, .int 0, .ref q_3, .ref q_4, .ref q_5, .null, .int 0, .null, .null, .null, .null, .null, .null, .int 0, .null, .null, .int 0, .null])), (q_1, .inl (gI g, 461, .inl (fun _ => 0))), (q_2, .inl (gI g, 7376, .inl (fun _ => 0))), (q_3, .inl (gI g, 4, .inl (fun _ => 0))), (q_4, .inl (gI g, 4, .inl (fun _ => 0))), (q_5, .inl (gI g, 240, .inl (fun _ => 0)))] := hD
  refine lv_aload_n hx hb dX12_init_45 rfl (lv_at hl 0 rfl) ?_
  refine lv_iconst (v := 5) hx hb dX12_init_46 (by decide) ?_
  refine k_newi (N' := 5) hx hb (hts _ wd_3_12) hKW hP hD hS hA (by decide) (by decide) (by decide) (Nat.le_of_ble_eq_true rfl) (Nat.le_of_ble_eq_true rfl) dX12_init_47 (fun q_6 H hP hD hS => ?_)
  have hP : va_P g.1 vwCl [(h, .inr (12, [.ref q_1, .ref q_2, .int 0, .int 0, .ref q_3, .ref q_4, .ref q_5, .null, .int 0, .null, .null, .null, .null, .null, .null, .int 0, .null, .null, .int 0, .null])), (q_1, .inl (gI g, 461, .inl (fun _ => 0))), (q_2, .inl (gI g, 7376, .inl (fun _ => 0))), (q_3, .inl (gI g, 4, .inl (fun _ => 0))), (q_4, .inl (gI g, 4, .inl (fun _ => 0))), (q_5, .inl (gI g, 240, .inl (fun _ => 0))), (q_6, .inl (gI g, 5, .inl (fun _ => 0)))] H := hP
  have hD : va_D A [(h, .inr (12, [.ref q_1, .ref q_2, .int 0, .int 0, .ref q_3, .ref q_4, .ref q_5, .null, .int 0, .null, .null, .null, .null, .null, .null, .int 0, .null, .null, .int 0, .null])), (q_1, .inl (gI g, 461, .inl (fun _ => 0))), (q_2, .inl (gI g, 7376, .inl (fun _ => 0))), (q_3, .inl (gI g, 4, .inl (fun _ => 0))), (q_4, .inl (gI g, 4, .inl (fun _ => 0))), (q_5, .inl (gI g, 240, .inl (fun _ => 0))), (q_6, .inl (gI g, 5, .inl (fun _ => 0)))] := hD
  refine W.widen (k := 6) (n := 8090) (Nat.le_of_ble_eq_true rfl) (Nat.le_of_ble_eq_true rfl) ?_
  refine va_putF (ci := 12) (v := .ref q_6) (C := RX12) (T := TX12) (N := 20) hx hb hts inlX12 tyX12 tyX12_ok nmX12 hown hKW.1 hP hD hS 0 rfl rfl 7 (by decide) (hts _ wd_6_10) (fun _ h => h) rfl hnm rfl (tyX12_ok 7 (by decide)) rfl rfl (Nat.le_of_ble_eq_true rfl) dX12_init_49 (fun H locs hP hD hS => ?_)
  have hP : va_P g.1 vwCl [(h, .inr (12, [.ref q_1, .ref q_2, .int 0, .int 0, .ref q_3, .ref q_4, .ref q_5, .ref q_6, .int 0, .null, .null, .null, .null, .null, .null, .int 0, .null, .null, .int 0, .null])), (q_1, .inl (gI g, 461, .inl (fun _ => 0))), (q_2, .inl (gI g, 7376, .inl (fun _ => 0))), (q_3, .inl (gI g, 4, .inl (fun _ => 0))), (q_4, .inl (gI g, 4, .inl (fun _ => 0))), (q_5, .inl (gI g, 240, .inl (fun _ => 0))), (q_6, .inl (gI g, 5, .inl (fun _ => 0)))] H := hP
  have hD : va_D A [(h, .inr (12, [.ref q_1, .ref q_2, .int 0, .int 0, .ref q_3, .ref q_4, .ref q_5, .ref q_6, .int 0, .null, .null, .null, .null, .null, .null, .int 0, .null, .null, .int 0, .null])), (q_1, .inl (gI g, 461, .inl (fun _ => 0))), (q_2, .inl (gI g, 7376, .inl (fun _ => 0))), (q_3, .inl (gI g, 4, .inl (fun _ => 0))), (q_4, .inl (gI g, 4, .inl (fun _ => 0))), (q_5, .inl (gI g, 240, .inl (fun _ => 0))), (q_6, .inl (gI g, 5, .inl (fun _ => 0)))] := hD
  refine lv_aload_n hx hb dX12_init_52 rfl (lv_at hl 0 rfl) ?_
  refine lv_bipush (v := 7) hx hb dX12_init_53 (by decide) ?_
  refine k_newi (N' := 7) hx hb (hts _ wd_3_12) hKW hP hD hS hA (by decide) (by decide) (by decide) (Nat.le_of_ble_eq_true rfl) (Nat.le_of_ble_eq_true rfl) dX12_init_55 (fun q_7 H hP hD hS => ?_)
  have hP : va_P g.1 vwCl [(h, .inr (12, [.ref q_1, .ref q_2, .int 0, .int 0, .ref q_3, .ref q_4, .ref q_5, .ref q_6, .int 0, .null, .null, .null, .null, .null, .null, .int 0, .null, .null, .int 0, .null])), (q_1, .inl (gI g, 461, .inl (fun _ => 0))), (q_2, .inl (gI g, 7376, .inl (fun _ => 0))), (q_3, .inl (gI g, 4, .inl (fun _ => 0))), (q_4, .inl (gI g, 4, .inl (fun _ => 0))), (q_5, .inl (gI g, 240, .inl (fun _ => 0))), (q_6, .inl (gI g, 5, .inl (fun _ => 0))), (q_7, .inl (gI g, 7, .inl (fun _ => 0)))] H := hP
  have hD : va_D A [(h, .inr (12, [.ref q_1, .ref q_2, .int 0, .int 0, .ref q_3, .ref q_4, .ref q_5, .ref q_6, .int 0, .null, .null, .null, .null, .null, .null, .int 0, .null, .null, .int 0, .null])), (q_1, .inl (gI g, 461, .inl (fun _ => 0))), (q_2, .inl (gI g, 7376, .inl (fun _ => 0))), (q_3, .inl (gI g, 4, .inl (fun _ => 0))), (q_4, .inl (gI g, 4, .inl (fun _ => 0))), (q_5, .inl (gI g, 240, .inl (fun _ => 0))), (q_6, .inl (gI g, 5, .inl (fun _ => 0))), (q_7, .inl (gI g, 7, .inl (fun _ => 0)))] := hD
  refine W.widen (k := 7) (n := 8097) (Nat.le_of_ble_eq_true rfl) (Nat.le_of_ble_eq_true rfl) ?_
  refine va_putF (ci := 12) (v := .ref q_7) (C := RX12) (T := TX12) (N := 20) hx hb hts inlX12 tyX12 tyX12_ok nmX12 hown hKW.1 hP hD hS 0 rfl rfl 9 (by decide) (hts _ wd_6_11) (fun _ h => h) rfl hnm rfl (tyX12_ok 9 (by decide)) rfl rfl (Nat.le_of_ble_eq_true rfl) dX12_init_57 (fun H locs hP hD hS => ?_)
  have hP : va_P g.1 vwCl [(h, .inr (12, [.ref q_1, .ref q_2, .int 0, .int 0, .ref q_3, .ref q_4, .ref q_5, .ref q_6, .int 0, .ref q_7, .null, .null, .null, .null, .null, .int 0, .null, .null, .int 0, .null])), (q_1, .inl (gI g, 461, .inl (fun _ => 0))), (q_2, .inl (gI g, 7376, .inl (fun _ => 0))), (q_3, .inl (gI g, 4, .inl (fun _ => 0))), (q_4, .inl (gI g, 4, .inl (fun _ => 0))), (q_5, .inl (gI g, 240, .inl (fun _ => 0))), (q_6, .inl (gI g, 5, .inl (fun _ => 0))), (q_7, .inl (gI g, 7, .inl (fun _ => 0)))] H := hP
  have hD : va_D A [(h, .inr (12, [.ref q_1, .ref q_2, .int 0, .int 0, .ref q_3, .ref q_4, .ref q_5, .ref q_6, .int 0, .ref q_7, .null, .null, .null, .null, .null, .int 0, .null, .null, .int 0, .null])), (q_1, .inl (gI g, 461, .inl (fun _ => 0))), (q_2, .inl (gI g, 7376, .inl (fun _ => 0))), (q_3, .inl (gI g, 4, .inl (fun _ => 0))), (q_4, .inl (gI g, 4, .inl (fun _ => 0))), (q_5, .inl (gI g, 240, .inl (fun _ => 0))), (q_6, .inl (gI g, 5, .inl (fun _ => 0))), (q_7, .inl (gI g, 7, .inl (fun _ => 0)))] := hD
  refine lv_aload_n hx hb dX12_init_60 rfl (lv_at hl 0 rfl) ?_
  refine lv_iconst (v := 5) hx hb dX12_init_61 (by decide) ?_
  refine k_newi (N' := 5) hx hb (hts _ wd_3_12) hKW hP hD hS hA (by decide) (by decide) (by decide) (Nat.le_of_ble_eq_true rfl) (Nat.le_of_ble_eq_true rfl) dX12_init_62 (fun q_8 H hP hD hS => ?_)
  have hP : va_P g.1 vwCl [(h, .inr (12, [.ref q_1, .ref q_2, .int 0, .int 0, .ref q_3, .ref q_4, .ref q_5, .ref q_6, .int 0, .ref q_7, .null, .null, .null, .null, .null, .int 0, .null, .null, .int 0, .null])), (q_1, .inl (gI g, 461, .inl (fun _ => 0))), (q_2, .inl (gI g, 7376, .inl (fun _ => 0))), (q_3, .inl (gI g, 4, .inl (fun _ => 0))), (q_4, .inl (gI g, 4, .inl (fun _ => 0))), (q_5, .inl (gI g, 240, .inl (fun _ => 0))), (q_6, .inl (gI g, 5, .inl (fun _ => 0))), (q_7, .inl (gI g, 7, .inl (fun _ => 0))), (q_8, .inl (gI g, 5, .inl (fun _ => 0)))] H := hP
  have hD : va_D A [(h, .inr (12, [.ref q_1, .ref q_2, .int 0, .int 0, .ref q_3, .ref q_4, .ref q_5, .ref q_6, .int 0, .ref q_7, .null, .null, .null, .null, .null, .int 0, .null, .null, .int 0, .null])), (q_1, .inl (gI g, 461, .inl (fun _ => 0))), (q_2, .inl (gI g, 7376, .inl (fun _ => 0))), (q_3, .inl (gI g, 4, .inl (fun _ => 0))), (q_4, .inl (gI g, 4, .inl (fun _ => 0))), (q_5, .inl (gI g, 240, .inl (fun _ => 0))), (q_6, .inl (gI g, 5, .inl (fun _ => 0))), (q_7, .inl (gI g, 7, .inl (fun _ => 0))), (q_8, .inl (gI g, 5, .inl (fun _ => 0)))] := hD
  refine W.widen (k := 8) (n := 8102) (Nat.le_of_ble_eq_true rfl) (Nat.le_of_ble_eq_true rfl) ?_
  refine va_putF (ci := 12) (v := .ref q_8) (C := RX12) (T := TX12) (N := 20) hx hb hts inlX12 tyX12 tyX12_ok nmX12 hown hKW.1 hP hD hS 0 rfl rfl 10 (by decide) (hts _ wd_6_12) (fun _ h => h) rfl hnm rfl (tyX12_ok 10 (by decide)) rfl rfl (Nat.le_of_ble_eq_true rfl) dX12_init_64 (fun H locs hP hD hS => ?_)
  have hP : va_P g.1 vwCl [(h, .inr (12, [.ref q_1, .ref q_2, .int 0, .int 0, .ref q_3, .ref q_4, .ref q_5, .ref q_6, .int 0, .ref q_7, .ref q_8, .null, .null, .null, .null, .int 0, .null, .null, .int 0, .null])), (q_1, .inl (gI g, 461, .inl (fun _ => 0))), (q_2, .inl (gI g, 7376, .inl (fun _ => 0))), (q_3, .inl (gI g, 4, .inl (fun _ => 0))), (q_4, .inl (gI g, 4, .inl (fun _ => 0))), (q_5, .inl (gI g, 240, .inl (fun _ => 0))), (q_6, .inl (gI g, 5, .inl (fun _ => 0))), (q_7, .inl (gI g, 7, .inl (fun _ => 0))), (q_8, .inl (gI g, 5, .inl (fun _ => 0)))] H := hP
  have hD : va_D A [(h, .inr (12, [.ref q_1, .ref q_2, .int 0, .int 0, .ref q_3, .ref q_4, .ref q_5, .ref q_6, .int 0, .ref q_7, .ref q_8, .null, .null, .null, .null, .int 0, .null, .null, .int 0, .null])), (q_1, .inl (gI g, 461, .inl (fun _ => 0))), (q_2, .inl (gI g, 7376, .inl (fun _ => 0))), (q_3, .inl (gI g, 4, .inl (fun _ => 0))), (q_4, .inl (gI g, 4, .inl (fun _ => 0))), (q_5, .inl (gI g, 240, .inl (fun _ => 0))), (q_6, .inl (gI g, 5, .inl (fun _ => 0))), (q_7, .inl (gI g, 7, .inl (fun _ => 0))), (q_8, .inl (gI g, 5, .inl (fun _ => 0)))] := hD
  refine lv_aload_n hx hb dX12_init_67 rfl (lv_at hl 0 rfl) ?_
  refine lv_iconst (v := 5) hx hb dX12_init_68 (by decide) ?_
  refine k_newi (N' := 5) hx hb (hts _ wd_3_12) hKW hP hD hS hA (by decide) (by decide) (by decide) (Nat.le_of_ble_eq_true rfl) (Nat.le_of_ble_eq_true rfl) dX12_init_69 (fun q_9 H hP hD hS => ?_)
  have hP : va_P g.1 vwCl [(h, .inr (12, [.ref q_1, .ref q_2, .int 0, .int 0, .ref q_3, .ref q_4, .ref q_5, .ref q_6, .int 0, .ref q_7, .ref q_8, .null, .null, .null, .null, .int 0, .null, .null, .int 0, .null])), (q_1, .inl (gI g, 461, .inl (fun _ => 0))), (q_2, .inl (gI g, 7376, .inl (fun _ => 0))), (q_3, .inl (gI g, 4, .inl (fun _ => 0))), (q_4, .inl (gI g, 4, .inl (fun _ => 0))), (q_5, .inl (gI g, 240, .inl (fun _ => 0))), (q_6, .inl (gI g, 5, .inl (fun _ => 0))), (q_7, .inl (gI g, 7, .inl (fun _ => 0))), (q_8, .inl (gI g, 5, .inl (fun _ => 0))), (q_9, .inl (gI g, 5, .inl (fun _ => 0)))] H := hP
  have hD : va_D A [(h, .inr (12, [.ref q_1, .ref q_2, .int 0, .int 0, .ref q_3, .ref q_4, .ref q_5, .ref q_6, .int 0, .ref q_7, .ref q_8, .null, .null, .null, .null, .int 0, .null, .null, .int 0, .null])), (q_1, .inl (gI g, 461, .inl (fun _ => 0))), (q_2, .inl (gI g, 7376, .inl (fun _ => 0))), (q_3, .inl (gI g, 4, .inl (fun _ => 0))), (q_4, .inl (gI g, 4, .inl (fun _ => 0))), (q_5, .inl (gI g, 240, .inl (fun _ => 0))), (q_6, .inl (gI g, 5, .inl (fun _ => 0))), (q_7, .inl (gI g, 7, .inl (fun _ => 0))), (q_8, .inl (gI g, 5, .inl (fun _ => 0))), (q_9, .inl (gI g, 5, .inl (fun _ => 0)))] := hD
  refine W.widen (k := 9) (n := 8107) (Nat.le_of_ble_eq_true rfl) (Nat.le_of_ble_eq_true rfl) ?_
  refine va_putF (ci := 12) (v := .ref q_9) (C := RX12) (T := TX12) (N := 20) hx hb hts inlX12 tyX12 tyX12_ok nmX12 hown hKW.1 hP hD hS 0 rfl rfl 11 (by decide) (hts _ wd_6_13) (fun _ h => h) rfl hnm rfl (tyX12_ok 11 (by decide)) rfl rfl (Nat.le_of_ble_eq_true rfl) dX12_init_71 (fun H locs hP hD hS => ?_)
  have hP : va_P g.1 vwCl [(h, .inr (12, [.ref q_1, .ref q_2, .int 0, .int 0, .ref q_3, .ref q_4, .ref q_5, .ref q_6, .int 0, .ref q_7, .ref q_8, .ref q_9, .null, .null, .null, .int 0, .null, .null, .int 0, .null])), (q_1, .inl (gI g, 461, .inl (fun _ => 0))), (q_2, .inl (gI g, 7376, .inl (fun _ => 0))), (q_3, .inl (gI g, 4, .inl (fun _ => 0))), (q_4, .inl (gI g, 4, .inl (fun _ => 0))), (q_5, .inl (gI g, 240, .inl (fun _ => 0))), (q_6, .inl (gI g, 5, .inl (fun _ => 0))), (q_7, .inl (gI g, 7, .inl (fun _ => 0))), (q_8, .inl (gI g, 5, .inl (fun _ => 0))), (q_9, .inl (gI g, 5, .inl (fun _ => 0)))] H := hP
  have hD : va_D A [(h, .inr (12, [.ref q_1, .ref q_2, .int 0, .int 0, .ref q_3, .ref q_4, .ref q_5, .ref q_6, .int 0, .ref q_7, .ref q_8, .ref q_9, .null, .null, .null, .int 0, .null, .null, .int 0, .null])), (q_1, .inl (gI g, 461, .inl (fun _ => 0))), (q_2, .inl (gI g, 7376, .inl (fun _ => 0))), (q_3, .inl (gI g, 4, .inl (fun _ => 0))), (q_4, .inl (gI g, 4, .inl (fun _ => 0))), (q_5, .inl (gI g, 240, .inl (fun _ => 0))), (q_6, .inl (gI g, 5, .inl (fun _ => 0))), (q_7, .inl (gI g, 7, .inl (fun _ => 0))), (q_8, .inl (gI g, 5, .inl (fun _ => 0))), (q_9, .inl (gI g, 5, .inl (fun _ => 0)))] := hD
  refine lv_aload_n hx hb dX12_init_74 rfl (lv_at hl 0 rfl) ?_
  refine lv_iconst (v := 5) hx hb dX12_init_75 (by decide) ?_
  refine k_newz (N' := 5) hx hb (hts _ wd_6_14) hKW hP hD hS hA (by decide) (by decide) (by decide) (Nat.le_of_ble_eq_true rfl) (Nat.le_of_ble_eq_true rfl) dX12_init_76 (fun q_10 H hP hD hS => ?_)
  have hP : va_P g.1 vwCl [(h, .inr (12, [.ref q_1, .ref q_2, .int 0, .int 0, .ref q_3, .ref q_4, .ref q_5, .ref q_6, .int 0, .ref q_7, .ref q_8, .ref q_9, .null, .null, .null, .int 0, .null, .null, .int 0, .null])), (q_1, .inl (gI g, 461, .inl (fun _ => 0))), (q_2, .inl (gI g, 7376, .inl (fun _ => 0))), (q_3, .inl (gI g, 4, .inl (fun _ => 0))), (q_4, .inl (gI g, 4, .inl (fun _ => 0))), (q_5, .inl (gI g, 240, .inl (fun _ => 0))), (q_6, .inl (gI g, 5, .inl (fun _ => 0))), (q_7, .inl (gI g, 7, .inl (fun _ => 0))), (q_8, .inl (gI g, 5, .inl (fun _ => 0))), (q_9, .inl (gI g, 5, .inl (fun _ => 0))), (q_10, .inl (gZ g, 5, .inl (fun _ => 0)))] H := hP
  have hD : va_D A [(h, .inr (12, [.ref q_1, .ref q_2, .int 0, .int 0, .ref q_3, .ref q_4, .ref q_5, .ref q_6, .int 0, .ref q_7, .ref q_8, .ref q_9, .null, .null, .null, .int 0, .null, .null, .int 0, .null])), (q_1, .inl (gI g, 461, .inl (fun _ => 0))), (q_2, .inl (gI g, 7376, .inl (fun _ => 0))), (q_3, .inl (gI g, 4, .inl (fun _ => 0))), (q_4, .inl (gI g, 4, .inl (fun _ => 0))), (q_5, .inl (gI g, 240, .inl (fun _ => 0))), (q_6, .inl (gI g, 5, .inl (fun _ => 0))), (q_7, .inl (gI g, 7, .inl (fun _ => 0))), (q_8, .inl (gI g, 5, .inl (fun _ => 0))), (q_9, .inl (gI g, 5, .inl (fun _ => 0))), (q_10, .inl (gZ g, 5, .inl (fun _ => 0)))] := hD
  refine W.widen (k := 10) (n := 8112) (Nat.le_of_ble_eq_true rfl) (Nat.le_of_ble_eq_true rfl) ?_
  refine va_putF (ci := 12) (v := .ref q_10) (C := RX12) (T := TX12) (N := 20) hx hb hts inlX12 tyX12 tyX12_ok nmX12 hown hKW.1 hP hD hS 0 rfl rfl 12 (by decide) (hts _ wd_6_15) (fun _ h => h) rfl hnm rfl (tyX12_ok 12 (by decide)) rfl rfl (Nat.le_of_ble_eq_true rfl) dX12_init_78 (fun H locs hP hD hS => ?_)
  have hP : va_P g.1 vwCl [(h, .inr (12, [.ref q_1, .ref q_2, .int 0, .int 0, .ref q_3, .ref q_4, .ref q_5, .ref q_6, .int 0, .ref q_7, .ref q_8, .ref q_9, .ref q_10, .null, .null, .int 0, .null, .null, .int 0, .null])), (q_1, .inl (gI g, 461, .inl (fun _ => 0))), (q_2, .inl (gI g, 7376, .inl (fun _ => 0))), (q_3, .inl (gI g, 4, .inl (fun _ => 0))), (q_4, .inl (gI g, 4, .inl (fun _ => 0))), (q_5, .inl (gI g, 240, .inl (fun _ => 0))), (q_6, .inl (gI g, 5, .inl (fun _ => 0))), (q_7, .inl (gI g, 7, .inl (fun _ => 0))), (q_8, .inl (gI g, 5, .inl (fun _ => 0))), (q_9, .inl (gI g, 5, .inl (fun _ => 0))), (q_10, .inl (gZ g, 5, .inl (fun _ => 0)))] H := hP
  have hD : va_D A [(h, .inr (12, [.ref q_1, .ref q_2, .int 0, .int 0, .ref q_3, .ref q_4, .ref q_5, .ref q_6, .int 0, .ref q_7, .ref q_8, .ref q_9, .ref q_10, .null, .null, .int 0, .null, .null, .int 0, .null])), (q_1, .inl (gI g, 461, .inl (fun _ => 0))), (q_2, .inl (gI g, 7376, .inl (fun _ => 0))), (q_3, .inl (gI g, 4, .inl (fun _ => 0))), (q_4, .inl (gI g, 4, .inl (fun _ => 0))), (q_5, .inl (gI g, 240, .inl (fun _ => 0))), (q_6, .inl (gI g, 5, .inl (fun _ => 0))), (q_7, .inl (gI g, 7, .inl (fun _ => 0))), (q_8, .inl (gI g, 5, .inl (fun _ => 0))), (q_9, .inl (gI g, 5, .inl (fun _ => 0))), (q_10, .inl (gZ g, 5, .inl (fun _ => 0)))] := hD
  refine lv_aload_n hx hb dX12_init_81 rfl (lv_at hl 0 rfl) ?_
  refine lv_bipush (v := 7) hx hb dX12_init_82 (by decide) ?_
  refine k_newi (N' := 7) hx hb (hts _ wd_3_12) hKW hP hD hS hA (by decide) (by decide) (by decide) (Nat.le_of_ble_eq_true rfl) (Nat.le_of_ble_eq_true rfl) dX12_init_84 (fun q_11 H hP hD hS => ?_)
  have hP : va_P g.1 vwCl [(h, .inr (12, [.ref q_1, .ref q_2, .int 0, .int 0, .ref q_3, .ref q_4, .ref q_5, .ref q_6, .int 0, .ref q_7, .ref q_8, .ref q_9, .ref q_10, .null, .null, .int 0, .null, .null, .int 0, .null])), (q_1, .inl (gI g, 461, .inl (fun _ => 0))), (q_2, .inl (gI g, 7376, .inl (fun _ => 0))), (q_3, .inl (gI g, 4, .inl (fun _ => 0))), (q_4, .inl (gI g, 4, .inl (fun _ => 0))), (q_5, .inl (gI g, 240, .inl (fun _ => 0))), (q_6, .inl (gI g, 5, .inl (fun _ => 0))), (q_7, .inl (gI g, 7, .inl (fun _ => 0))), (q_8, .inl (gI g, 5, .inl (fun _ => 0))), (q_9, .inl (gI g, 5, .inl (fun _ => 0))), (q_10, .inl (gZ g, 5, .inl (fun _ => 0))), (q_11, .inl (gI g, 7, .inl (fun _ => 0)))] H := hP
  have hD : va_D A [(h, .inr (12, [.ref q_1, .ref q_2, .int 0, .int 0, .ref q_3, .ref q_4, .ref q_5, .ref q_6, .int 0, .ref q_7, .ref q_8, .ref q_9, .ref q_10, .null, .null, .int 0, .null, .null, .int 0, .null])), (q_1, .inl (gI g, 461, .inl (fun _ => 0))), (q_2, .inl (gI g, 7376, .inl (fun _ => 0))), (q_3, .inl (gI g, 4, .inl (fun _ => 0))), (q_4, .inl (gI g, 4, .inl (fun _ => 0))), (q_5, .inl (gI g, 240, .inl (fun _ => 0))), (q_6, .inl (gI g, 5, .inl (fun _ => 0))), (q_7, .inl (gI g, 7, .inl (fun _ => 0))), (q_8, .inl (gI g, 5, .inl (fun _ => 0))), (q_9, .inl (gI g, 5, .inl (fun _ => 0))), (q_10, .inl (gZ g, 5, .inl (fun _ => 0))), (q_11, .inl (gI g, 7, .inl (fun _ => 0)))] := hD
  refine W.widen (k := 11) (n := 8119) (Nat.le_of_ble_eq_true rfl) (Nat.le_of_ble_eq_true rfl) ?_
  refine va_putF (ci := 12) (v := .ref q_11) (C := RX12) (T := TX12) (N := 20) hx hb hts inlX12 tyX12 tyX12_ok nmX12 hown hKW.1 hP hD hS 0 rfl rfl 13 (by decide) (hts _ wd_6_16) (fun _ h => h) rfl hnm rfl (tyX12_ok 13 (by decide)) rfl rfl (Nat.le_of_ble_eq_true rfl) dX12_init_86 (fun H locs hP hD hS => ?_)
  have hP : va_P g.1 vwCl [(h, .inr (12, [.ref q_1, .ref q_2, .int 0, .int 0, .ref q_3, .ref q_4, .ref q_5, .ref q_6, .int 0, .ref q_7, .ref q_8, .ref q_9, .ref q_10, .ref q_11, .null, .int 0, .null, .null, .int 0, .null])), (q_1, .inl (gI g, 461, .inl (fun _ => 0))), (q_2, .inl (gI g, 7376, .inl (fun _ => 0))), (q_3, .inl (gI g, 4, .inl (fun _ => 0))), (q_4, .inl (gI g, 4, .inl (fun _ => 0))), (q_5, .inl (gI g, 240, .inl (fun _ => 0))), (q_6, .inl (gI g, 5, .inl (fun _ => 0))), (q_7, .inl (gI g, 7, .inl (fun _ => 0))), (q_8, .inl (gI g, 5, .inl (fun _ => 0))), (q_9, .inl (gI g, 5, .inl (fun _ => 0))), (q_10, .inl (gZ g, 5, .inl (fun _ => 0))), (q_11, .inl (gI g, 7, .inl (fun _ => 0)))] H := hP
  have hD : va_D A [(h, .inr (12, [.ref q_1, .ref q_2, .int 0, .int 0, .ref q_3, .ref q_4, .ref q_5, .ref q_6, .int 0, .ref q_7, .ref q_8, .ref q_9, .ref q_10, .ref q_11, .null, .int 0, .null, .null, .int 0, .null])), (q_1, .inl (gI g, 461, .inl (fun _ => 0))), (q_2, .inl (gI g, 7376, .inl (fun _ => 0))), (q_3, .inl (gI g, 4, .inl (fun _ => 0))), (q_4, .inl (gI g, 4, .inl (fun _ => 0))), (q_5, .inl (gI g, 240, .inl (fun _ => 0))), (q_6, .inl (gI g, 5, .inl (fun _ => 0))), (q_7, .inl (gI g, 7, .inl (fun _ => 0))), (q_8, .inl (gI g, 5, .inl (fun _ => 0))), (q_9, .inl (gI g, 5, .inl (fun _ => 0))), (q_10, .inl (gZ g, 5, .inl (fun _ => 0))), (q_11, .inl (gI g, 7, .inl (fun _ => 0)))] := hD
  refine lv_aload_n hx hb dX12_init_89 rfl (lv_at hl 0 rfl) ?_
  refine lv_bipush (v := 7) hx hb dX12_init_90 (by decide) ?_
  refine k_newi (N' := 7) hx hb (hts _ wd_3_12) hKW hP hD hS hA (by decide) (by decide) (by decide) (Nat.le_of_ble_eq_true rfl) (Nat.le_of_ble_eq_true rfl) dX12_init_92 (fun q_12 H hP hD hS => ?_)
  have hP : va_P g.1 vwCl [(h, .inr (12, [.ref q_1, .ref q_2, .int 0, .int 0, .ref q_3, .ref q_4, .ref q_5, .ref q_6, .int 0, .ref q_7, .ref q_8, .ref q_9, .ref q_10, .ref q_11, .null, .int 0, .null, .null, .int 0, .null])), (q_1, .inl (gI g, 461, .inl (fun _ => 0))), (q_2, .inl (gI g, 7376, .inl (fun _ => 0))), (q_3, .inl (gI g, 4, .inl (fun _ => 0))), (q_4, .inl (gI g, 4, .inl (fun _ => 0))), (q_5, .inl (gI g, 240, .inl (fun _ => 0))), (q_6, .inl (gI g, 5, .inl (fun _ => 0))), (q_7, .inl (gI g, 7, .inl (fun _ => 0))), (q_8, .inl (gI g, 5, .inl (fun _ => 0))), (q_9, .inl (gI g, 5, .inl (fun _ => 0))), (q_10, .inl (gZ g, 5, .inl (fun _ => 0))), (q_11, .inl (gI g, 7, .inl (fun _ => 0))), (q_12, .inl (gI g, 7, .inl (fun _ => 0)))] H := hP
  have hD : va_D A [(h, .inr (12, [.ref q_1, .ref q_2, .int 0, .int 0, .ref q_3, .ref q_4, .ref q_5, .ref q_6, .int 0, .ref q_7, .ref q_8, .ref q_9, .ref q_10, .ref q_11, .null, .int 0, .null, .null, .int 0, .null])), (q_1, .inl (gI g, 461, .inl (fun _ => 0))), (q_2, .inl (gI g, 7376, .inl (fun _ => 0))), (q_3, .inl (gI g, 4, .inl (fun _ => 0))), (q_4, .inl (gI g, 4, .inl (fun _ => 0))), (q_5, .inl (gI g, 240, .inl (fun _ => 0))), (q_6, .inl (gI g, 5, .inl (fun _ => 0))), (q_7, .inl (gI g, 7, .inl (fun _ => 0))), (q_8, .inl (gI g, 5, .inl (fun _ => 0))), (q_9, .inl (gI g, 5, .inl (fun _ => 0))), (q_10, .inl (gZ g, 5, .inl (fun _ => 0))), (q_11, .inl (gI g, 7, .inl (fun _ => 0))), (q_12, .inl (gI g, 7, .inl (fun _ => 0)))] := hD
  refine W.widen (k := 12) (n := 8126) (Nat.le_of_ble_eq_true rfl) (Nat.le_of_ble_eq_true rfl) ?_
  refine va_putF (ci := 12) (v := .ref q_12) (C := RX12) (T := TX12) (N := 20) hx hb hts inlX12 tyX12 tyX12_ok nmX12 hown hKW.1 hP hD hS 0 rfl rfl 14 (by decide) (hts _ wd_6_17) (fun _ h => h) rfl hnm rfl (tyX12_ok 14 (by decide)) rfl rfl (Nat.le_of_ble_eq_true rfl) dX12_init_94 (fun H locs hP hD hS => ?_)
  have hP : va_P g.1 vwCl [(h, .inr (12, [.ref q_1, .ref q_2, .int 0, .int 0, .ref q_3, .ref q_4, .ref q_5, .ref q_6, .int 0, .ref q_7, .ref q_8, .ref q_9, .ref q_10, .ref q_11, .ref q_12, .int 0, .null, .null, .int 0, .null])), (q_1, .inl (gI g, 461, .inl (fun _ => 0))), (q_2, .inl (gI g, 7376, .inl (fun _ => 0))), (q_3, .inl (gI g, 4, .inl (fun _ => 0))), (q_4, .inl (gI g, 4, .inl (fun _ => 0))), (q_5, .inl (gI g, 240, .inl (fun _ => 0))), (q_6, .inl (gI g, 5, .inl (fun _ => 0))), (q_7, .inl (gI g, 7, .inl (fun _ => 0))), (q_8, .inl (gI g, 5, .inl (fun _ => 0))), (q_9, .inl (gI g, 5, .inl (fun _ => 0))), (q_10, .inl (gZ g, 5, .inl (fun _ => 0))), (q_11, .inl (gI g, 7, .inl (fun _ => 0))), (q_12, .inl (gI g, 7, .inl (fun _ => 0)))] H := hP
  have hD : va_D A [(h, .inr (12, [.ref q_1, .ref q_2, .int 0, .int 0, .ref q_3, .ref q_4, .ref q_5, .ref q_6, .int 0, .ref q_7, .ref q_8, .ref q_9, .ref q_10, .ref q_11, .ref q_12, .int 0, .null, .null, .int 0, .null])), (q_1, .inl (gI g, 461, .inl (fun _ => 0))), (q_2, .inl (gI g, 7376, .inl (fun _ => 0))), (q_3, .inl (gI g, 4, .inl (fun _ => 0))), (q_4, .inl (gI g, 4, .inl (fun _ => 0))), (q_5, .inl (gI g, 240, .inl (fun _ => 0))), (q_6, .inl (gI g, 5, .inl (fun _ => 0))), (q_7, .inl (gI g, 7, .inl (fun _ => 0))), (q_8, .inl (gI g, 5, .inl (fun _ => 0))), (q_9, .inl (gI g, 5, .inl (fun _ => 0))), (q_10, .inl (gZ g, 5, .inl (fun _ => 0))), (q_11, .inl (gI g, 7, .inl (fun _ => 0))), (q_12, .inl (gI g, 7, .inl (fun _ => 0)))] := hD
  refine lv_aload_n hx hb dX12_init_97 rfl (lv_at hl 0 rfl) ?_
  refine lv_bipush (v := 60) hx hb dX12_init_98 (by decide) ?_
  refine k_newi (N' := 60) hx hb (hts _ wd_3_12) hKW hP hD hS hA (by decide) (by decide) (by decide) (Nat.le_of_ble_eq_true rfl) (Nat.le_of_ble_eq_true rfl) dX12_init_100 (fun q_13 H hP hD hS => ?_)
  have hP : va_P g.1 vwCl [(h, .inr (12, [.ref q_1, .ref q_2, .int 0, .int 0, .ref q_3, .ref q_4, .ref q_5, .ref q_6, .int 0, .ref q_7, .ref q_8, .ref q_9, .ref q_10, .ref q_11, .ref q_12, .int 0, .null, .null, .int 0, .null])), (q_1, .inl (gI g, 461, .inl (fun _ => 0))), (q_2, .inl (gI g, 7376, .inl (fun _ => 0))), (q_3, .inl (gI g, 4, .inl (fun _ => 0))), (q_4, .inl (gI g, 4, .inl (fun _ => 0))), (q_5, .inl (gI g, 240, .inl (fun _ => 0))), (q_6, .inl (gI g, 5, .inl (fun _ => 0))), (q_7, .inl (gI g, 7, .inl (fun _ => 0))), (q_8, .inl (gI g, 5, .inl (fun _ => 0))), (q_9, .inl (gI g, 5, .inl (fun _ => 0))), (q_10, .inl (gZ g, 5, .inl (fun _ => 0))), (q_11, .inl (gI g, 7, .inl (fun _ => 0))), (q_12, .inl (gI g, 7, .inl (fun _ => 0))), (q_13, .inl (gI g, 60, .inl (fun _ => 0)))] H := hP
  have hD : va_D A [(h, .inr (12, [.ref q_1, .ref q_2, .int 0, .int 0, .ref q_3, .ref q_4, .ref q_5, .ref q_6, .int 0, .ref q_7, .ref q_8, .ref q_9, .ref q_10, .ref q_11, .ref q_12, .int 0, .null, .null, .int 0, .null])), (q_1, .inl (gI g, 461, .inl (fun _ => 0))), (q_2, .inl (gI g, 7376, .inl (fun _ => 0))), (q_3, .inl (gI g, 4, .inl (fun _ => 0))), (q_4, .inl (gI g, 4, .inl (fun _ => 0))), (q_5, .inl (gI g, 240, .inl (fun _ => 0))), (q_6, .inl (gI g, 5, .inl (fun _ => 0))), (q_7, .inl (gI g, 7, .inl (fun _ => 0))), (q_8, .inl (gI g, 5, .inl (fun _ => 0))), (q_9, .inl (gI g, 5, .inl (fun _ => 0))), (q_10, .inl (gZ g, 5, .inl (fun _ => 0))), (q_11, .inl (gI g, 7, .inl (fun _ => 0))), (q_12, .inl (gI g, 7, .inl (fun _ => 0))), (q_13, .inl (gI g, 60, .inl (fun _ => 0)))] := hD
  refine W.widen (k := 13) (n := 8186) (Nat.le_of_ble_eq_true rfl) (Nat.le_of_ble_eq_true rfl) ?_
  refine va_putF (ci := 12) (v := .ref q_13) (C := RX12) (T := TX12) (N := 20) hx hb hts inlX12 tyX12 tyX12_ok nmX12 hown hKW.1 hP hD hS 0 rfl rfl 16 (by decide) (hts _ wd_6_18) (fun _ h => h) rfl hnm rfl (tyX12_ok 16 (by decide)) rfl rfl (Nat.le_of_ble_eq_true rfl) dX12_init_102 (fun H locs hP hD hS => ?_)
  have hP : va_P g.1 vwCl [(h, .inr (12, [.ref q_1, .ref q_2, .int 0, .int 0, .ref q_3, .ref q_4, .ref q_5, .ref q_6, .int 0, .ref q_7, .ref q_8, .ref q_9, .ref q_10, .ref q_11, .ref q_12, .int 0, .ref q_13, .null, .int 0, .null])), (q_1, .inl (gI g, 461, .inl (fun _ => 0))), (q_2, .inl (gI g, 7376, .inl (fun _ => 0))), (q_3, .inl (gI g, 4, .inl (fun _ => 0))), (q_4, .inl (gI g, 4, .inl (fun _ => 0))), (q_5, .inl (gI g, 240, .inl (fun _ => 0))), (q_6, .inl (gI g, 5, .inl (fun _ => 0))), (q_7, .inl (gI g, 7, .inl (fun _ => 0))), (q_8, .inl (gI g, 5, .inl (fun _ => 0))), (q_9, .inl (gI g, 5, .inl (fun _ => 0))), (q_10, .inl (gZ g, 5, .inl (fun _ => 0))), (q_11, .inl (gI g, 7, .inl (fun _ => 0))), (q_12, .inl (gI g, 7, .inl (fun _ => 0))), (q_13, .inl (gI g, 60, .inl (fun _ => 0)))] H := hP
  have hD : va_D A [(h, .inr (12, [.ref q_1, .ref q_2, .int 0, .int 0, .ref q_3, .ref q_4, .ref q_5, .ref q_6, .int 0, .ref q_7, .ref q_8, .ref q_9, .ref q_10, .ref q_11, .ref q_12, .int 0, .ref q_13, .null, .int 0, .null])), (q_1, .inl (gI g, 461, .inl (fun _ => 0))), (q_2, .inl (gI g, 7376, .inl (fun _ => 0))), (q_3, .inl (gI g, 4, .inl (fun _ => 0))), (q_4, .inl (gI g, 4, .inl (fun _ => 0))), (q_5, .inl (gI g, 240, .inl (fun _ => 0))), (q_6, .inl (gI g, 5, .inl (fun _ => 0))), (q_7, .inl (gI g, 7, .inl (fun _ => 0))), (q_8, .inl (gI g, 5, .inl (fun _ => 0))), (q_9, .inl (gI g, 5, .inl (fun _ => 0))), (q_10, .inl (gZ g, 5, .inl (fun _ => 0))), (q_11, .inl (gI g, 7, .inl (fun _ => 0))), (q_12, .inl (gI g, 7, .inl (fun _ => 0))), (q_13, .inl (gI g, 60, .inl (fun _ => 0)))] := hD
  refine lv_aload_n hx hb dX12_init_105 rfl (lv_at hl 0 rfl) ?_
  refine lv_sipush (v := 480) hx hb dX12_init_106 (by decide) ?_
  refine k_newi (N' := 480) hx hb (hts _ wd_3_12) hKW hP hD hS hA (by decide) (by decide) (by decide) (Nat.le_of_ble_eq_true rfl) (Nat.le_of_ble_eq_true rfl) dX12_init_109 (fun q_14 H hP hD hS => ?_)
  have hP : va_P g.1 vwCl [(h, .inr (12, [.ref q_1, .ref q_2, .int 0, .int 0, .ref q_3, .ref q_4, .ref q_5, .ref q_6, .int 0, .ref q_7, .ref q_8, .ref q_9, .ref q_10, .ref q_11, .ref q_12, .int 0, .ref q_13, .null, .int 0, .null])), (q_1, .inl (gI g, 461, .inl (fun _ => 0))), (q_2, .inl (gI g, 7376, .inl (fun _ => 0))), (q_3, .inl (gI g, 4, .inl (fun _ => 0))), (q_4, .inl (gI g, 4, .inl (fun _ => 0))), (q_5, .inl (gI g, 240, .inl (fun _ => 0))), (q_6, .inl (gI g, 5, .inl (fun _ => 0))), (q_7, .inl (gI g, 7, .inl (fun _ => 0))), (q_8, .inl (gI g, 5, .inl (fun _ => 0))), (q_9, .inl (gI g, 5, .inl (fun _ => 0))), (q_10, .inl (gZ g, 5, .inl (fun _ => 0))), (q_11, .inl (gI g, 7, .inl (fun _ => 0))), (q_12, .inl (gI g, 7, .inl (fun _ => 0))), (q_13, .inl (gI g, 60, .inl (fun _ => 0))), (q_14, .inl (gI g, 480, .inl (fun _ => 0)))] H := hP
  have hD : va_D A [(h, .inr (12, [.ref q_1, .ref q_2, .int 0, .int 0, .ref q_3, .ref q_4, .ref q_5, .ref q_6, .int 0, .ref q_7, .ref q_8, .ref q_9, .ref q_10, .ref q_11, .ref q_12, .int 0, .ref q_13, .null, .int 0, .null])), (q_1, .inl (gI g, 461, .inl (fun _ => 0))), (q_2, .inl (gI g, 7376, .inl (fun _ => 0))), (q_3, .inl (gI g, 4, .inl (fun _ => 0))), (q_4, .inl (gI g, 4, .inl (fun _ => 0))), (q_5, .inl (gI g, 240, .inl (fun _ => 0))), (q_6, .inl (gI g, 5, .inl (fun _ => 0))), (q_7, .inl (gI g, 7, .inl (fun _ => 0))), (q_8, .inl (gI g, 5, .inl (fun _ => 0))), (q_9, .inl (gI g, 5, .inl (fun _ => 0))), (q_10, .inl (gZ g, 5, .inl (fun _ => 0))), (q_11, .inl (gI g, 7, .inl (fun _ => 0))), (q_12, .inl (gI g, 7, .inl (fun _ => 0))), (q_13, .inl (gI g, 60, .inl (fun _ => 0))), (q_14, .inl (gI g, 480, .inl (fun _ => 0)))] := hD
  refine W.widen (k := 14) (n := 8666) (Nat.le_of_ble_eq_true rfl) (Nat.le_of_ble_eq_true rfl) ?_
  refine va_putF (ci := 12) (v := .ref q_14) (C := RX12) (T := TX12) (N := 20) hx hb hts inlX12 tyX12 tyX12_ok nmX12 hown hKW.1 hP hD hS 0 rfl rfl 17 (by decide) (hts _ wd_6_19) (fun _ h => h) rfl hnm rfl (tyX12_ok 17 (by decide)) rfl rfl (Nat.le_of_ble_eq_true rfl) dX12_init_111 (fun H locs hP hD hS => ?_)
  have hP : va_P g.1 vwCl [(h, .inr (12, [.ref q_1, .ref q_2, .int 0, .int 0, .ref q_3, .ref q_4, .ref q_5, .ref q_6, .int 0, .ref q_7, .ref q_8, .ref q_9, .ref q_10, .ref q_11, .ref q_12, .int 0, .ref q_13, .ref q_14, .int 0, .null])), (q_1, .inl (gI g, 461, .inl (fun _ => 0))), (q_2, .inl (gI g, 7376, .inl (fun _ => 0))), (q_3, .inl (gI g, 4, .inl (fun _ => 0))), (q_4, .inl (gI g, 4, .inl (fun _ => 0))), (q_5, .inl (gI g, 240, .inl (fun _ => 0))), (q_6, .inl (gI g, 5, .inl (fun _ => 0))), (q_7, .inl (gI g, 7, .inl (fun _ => 0))), (q_8, .inl (gI g, 5, .inl (fun _ => 0))), (q_9, .inl (gI g, 5, .inl (fun _ => 0))), (q_10, .inl (gZ g, 5, .inl (fun _ => 0))), (q_11, .inl (gI g, 7, .inl (fun _ => 0))), (q_12, .inl (gI g, 7, .inl (fun _ => 0))), (q_13, .inl (gI g, 60, .inl (fun _ => 0))), (q_14, .inl (gI g, 480, .inl (fun _ => 0)))] H := hP
  have hD : va_D A [(h, .inr (12, [.ref q_1, .ref q_2, .int 0, .int 0, .ref q_3, .ref q_4, .ref q_5, .ref q_6, .int 0, .ref q_7, .ref q_8, .ref q_9, .ref q_10, .ref q_11, .ref q_12, .int 0, .ref q_13, .ref q_14, .int 0, .null])), (q_1, .inl (gI g, 461, .inl (fun _ => 0))), (q_2, .inl (gI g, 7376, .inl (fun _ => 0))), (q_3, .inl (gI g, 4, .inl (fun _ => 0))), (q_4, .inl (gI g, 4, .inl (fun _ => 0))), (q_5, .inl (gI g, 240, .inl (fun _ => 0))), (q_6, .inl (gI g, 5, .inl (fun _ => 0))), (q_7, .inl (gI g, 7, .inl (fun _ => 0))), (q_8, .inl (gI g, 5, .inl (fun _ => 0))), (q_9, .inl (gI g, 5, .inl (fun _ => 0))), (q_10, .inl (gZ g, 5, .inl (fun _ => 0))), (q_11, .inl (gI g, 7, .inl (fun _ => 0))), (q_12, .inl (gI g, 7, .inl (fun _ => 0))), (q_13, .inl (gI g, 60, .inl (fun _ => 0))), (q_14, .inl (gI g, 480, .inl (fun _ => 0)))] := hD
  refine lv_aload_n hx hb dX12_init_114 rfl (lv_at hl 0 rfl) ?_
  refine lv_bipush (v := 60) hx hb dX12_init_115 (by decide) ?_
  refine k_newi (N' := 60) hx hb (hts _ wd_3_12) hKW hP hD hS hA (by decide) (by decide) (by decide) (Nat.le_of_ble_eq_true rfl) (Nat.le_of_ble_eq_true rfl) dX12_init_117 (fun q_15 H hP hD hS => ?_)
  have hP : va_P g.1 vwCl [(h, .inr (12, [.ref q_1, .ref q_2, .int 0, .int 0, .ref q_3, .ref q_4, .ref q_5, .ref q_6, .int 0, .ref q_7, .ref q_8, .ref q_9, .ref q_10, .ref q_11, .ref q_12, .int 0, .ref q_13, .ref q_14, .int 0, .null])), (q_1, .inl (gI g, 461, .inl (fun _ => 0))), (q_2, .inl (gI g, 7376, .inl (fun _ => 0))), (q_3, .inl (gI g, 4, .inl (fun _ => 0))), (q_4, .inl (gI g, 4, .inl (fun _ => 0))), (q_5, .inl (gI g, 240, .inl (fun _ => 0))), (q_6, .inl (gI g, 5, .inl (fun _ => 0))), (q_7, .inl (gI g, 7, .inl (fun _ => 0))), (q_8, .inl (gI g, 5, .inl (fun _ => 0))), (q_9, .inl (gI g, 5, .inl (fun _ => 0))), (q_10, .inl (gZ g, 5, .inl (fun _ => 0))), (q_11, .inl (gI g, 7, .inl (fun _ => 0))), (q_12, .inl (gI g, 7, .inl (fun _ => 0))), (q_13, .inl (gI g, 60, .inl (fun _ => 0))), (q_14, .inl (gI g, 480, .inl (fun _ => 0))), (q_15, .inl (gI g, 60, .inl (fun _ => 0)))] H := hP
  have hD : va_D A [(h, .inr (12, [.ref q_1, .ref q_2, .int 0, .int 0, .ref q_3, .ref q_4, .ref q_5, .ref q_6, .int 0, .ref q_7, .ref q_8, .ref q_9, .ref q_10, .ref q_11, .ref q_12, .int 0, .ref q_13, .ref q_14, .int 0, .null])), (q_1, .inl (gI g, 461, .inl (fun _ => 0))), (q_2, .inl (gI g, 7376, .inl (fun _ => 0))), (q_3, .inl (gI g, 4, .inl (fun _ => 0))), (q_4, .inl (gI g, 4, .inl (fun _ => 0))), (q_5, .inl (gI g, 240, .inl (fun _ => 0))), (q_6, .inl (gI g, 5, .inl (fun _ => 0))), (q_7, .inl (gI g, 7, .inl (fun _ => 0))), (q_8, .inl (gI g, 5, .inl (fun _ => 0))), (q_9, .inl (gI g, 5, .inl (fun _ => 0))), (q_10, .inl (gZ g, 5, .inl (fun _ => 0))), (q_11, .inl (gI g, 7, .inl (fun _ => 0))), (q_12, .inl (gI g, 7, .inl (fun _ => 0))), (q_13, .inl (gI g, 60, .inl (fun _ => 0))), (q_14, .inl (gI g, 480, .inl (fun _ => 0))), (q_15, .inl (gI g, 60, .inl (fun _ => 0)))] := hD
  refine W.widen (k := 15) (n := 8726) (Nat.le_of_ble_eq_true rfl) (Nat.le_of_ble_eq_true rfl) ?_
  refine va_putF (ci := 12) (v := .ref q_15) (C := RX12) (T := TX12) (N := 20) hx hb hts inlX12 tyX12 tyX12_ok nmX12 hown hKW.1 hP hD hS 0 rfl rfl 19 (by decide) (hts _ wd_6_20) (fun _ h => h) rfl hnm rfl (tyX12_ok 19 (by decide)) rfl rfl (Nat.le_of_ble_eq_true rfl) dX12_init_119 (fun H locs hP hD hS => ?_)
  have hP : va_P g.1 vwCl [(h, .inr (12, [.ref q_1, .ref q_2, .int 0, .int 0, .ref q_3, .ref q_4, .ref q_5, .ref q_6, .int 0, .ref q_7, .ref q_8, .ref q_9, .ref q_10, .ref q_11, .ref q_12, .int 0, .ref q_13, .ref q_14, .int 0, .ref q_15])), (q_1, .inl (gI g, 461, .inl (fun _ => 0))), (q_2, .inl (gI g, 7376, .inl (fun _ => 0))), (q_3, .inl (gI g, 4, .inl (fun _ => 0))), (q_4, .inl (gI g, 4, .inl (fun _ => 0))), (q_5, .inl (gI g, 240, .inl (fun _ => 0))), (q_6, .inl (gI g, 5, .inl (fun _ => 0))), (q_7, .inl (gI g, 7, .inl (fun _ => 0))), (q_8, .inl (gI g, 5, .inl (fun _ => 0))), (q_9, .inl (gI g, 5, .inl (fun _ => 0))), (q_10, .inl (gZ g, 5, .inl (fun _ => 0))), (q_11, .inl (gI g, 7, .inl (fun _ => 0))), (q_12, .inl (gI g, 7, .inl (fun _ => 0))), (q_13, .inl (gI g, 60, .inl (fun _ => 0))), (q_14, .inl (gI g, 480, .inl (fun _ => 0))), (q_15, .inl (gI g, 60, .inl (fun _ => 0)))] H := hP
  have hD : va_D A [(h, .inr (12, [.ref q_1, .ref q_2, .int 0, .int 0, .ref q_3, .ref q_4, .ref q_5, .ref q_6, .int 0, .ref q_7, .ref q_8, .ref q_9, .ref q_10, .ref q_11, .ref q_12, .int 0, .ref q_13, .ref q_14, .int 0, .ref q_15])), (q_1, .inl (gI g, 461, .inl (fun _ => 0))), (q_2, .inl (gI g, 7376, .inl (fun _ => 0))), (q_3, .inl (gI g, 4, .inl (fun _ => 0))), (q_4, .inl (gI g, 4, .inl (fun _ => 0))), (q_5, .inl (gI g, 240, .inl (fun _ => 0))), (q_6, .inl (gI g, 5, .inl (fun _ => 0))), (q_7, .inl (gI g, 7, .inl (fun _ => 0))), (q_8, .inl (gI g, 5, .inl (fun _ => 0))), (q_9, .inl (gI g, 5, .inl (fun _ => 0))), (q_10, .inl (gZ g, 5, .inl (fun _ => 0))), (q_11, .inl (gI g, 7, .inl (fun _ => 0))), (q_12, .inl (gI g, 7, .inl (fun _ => 0))), (q_13, .inl (gI g, 60, .inl (fun _ => 0))), (q_14, .inl (gI g, 480, .inl (fun _ => 0))), (q_15, .inl (gI g, 60, .inl (fun _ => 0)))] := hD
  refine lv_aload_n hx hb dX12_init_122 rfl (lv_at hl 0 rfl) ?_
  refine va_get (ci := 12) (C := RX12) (T := TX12) (N := 20) hx hb hts inlX12 hown hKW.1 hP 0 rfl rfl 0 (by decide) (hts _ wd_6_5) (fun _ h => h) rfl dX12_init_123 ?_
  refine lv_bipush (v := 7) hx hb dX12_init_126 (by decide) ?_
  refine lv_bipush (v := 36) hx hb dX12_init_128 (by decide) ?_
  refine va_iast hx hb hKW.1 hP hD hS 1 0 rfl rfl (show ¬ _ by decide) dX12_init_130 (fun H locs hP hD hS => ?_)
  have hP : va_P g.1 vwCl [(h, .inr (12, [.ref q_1, .ref q_2, .int 0, .int 0, .ref q_3, .ref q_4, .ref q_5, .ref q_6, .int 0, .ref q_7, .ref q_8, .ref q_9, .ref q_10, .ref q_11, .ref q_12, .int 0, .ref q_13, .ref q_14, .int 0, .ref q_15])), (q_1, .inl (gI g, 461, .inl (upd (fun _ => 0) 7 36))), (q_2, .inl (gI g, 7376, .inl (fun _ => 0))), (q_3, .inl (gI g, 4, .inl (fun _ => 0))), (q_4, .inl (gI g, 4, .inl (fun _ => 0))), (q_5, .inl (gI g, 240, .inl (fun _ => 0))), (q_6, .inl (gI g, 5, .inl (fun _ => 0))), (q_7, .inl (gI g, 7, .inl (fun _ => 0))), (q_8, .inl (gI g, 5, .inl (fun _ => 0))), (q_9, .inl (gI g, 5, .inl (fun _ => 0))), (q_10, .inl (gZ g, 5, .inl (fun _ => 0))), (q_11, .inl (gI g, 7, .inl (fun _ => 0))), (q_12, .inl (gI g, 7, .inl (fun _ => 0))), (q_13, .inl (gI g, 60, .inl (fun _ => 0))), (q_14, .inl (gI g, 480, .inl (fun _ => 0))), (q_15, .inl (gI g, 60, .inl (fun _ => 0)))] H := hP
  have hD : va_D A [(h, .inr (12, [.ref q_1, .ref q_2, .int 0, .int 0, .ref q_3, .ref q_4, .ref q_5, .ref q_6, .int 0, .ref q_7, .ref q_8, .ref q_9, .ref q_10, .ref q_11, .ref q_12, .int 0, .ref q_13, .ref q_14, .int 0, .ref q_15])), (q_1, .inl (gI g, 461, .inl (upd (fun _ => 0) 7 36))), (q_2, .inl (gI g, 7376, .inl (fun _ => 0))), (q_3, .inl (gI g, 4, .inl (fun _ => 0))), (q_4, .inl (gI g, 4, .inl (fun _ => 0))), (q_5, .inl (gI g, 240, .inl (fun _ => 0))), (q_6, .inl (gI g, 5, .inl (fun _ => 0))), (q_7, .inl (gI g, 7, .inl (fun _ => 0))), (q_8, .inl (gI g, 5, .inl (fun _ => 0))), (q_9, .inl (gI g, 5, .inl (fun _ => 0))), (q_10, .inl (gZ g, 5, .inl (fun _ => 0))), (q_11, .inl (gI g, 7, .inl (fun _ => 0))), (q_12, .inl (gI g, 7, .inl (fun _ => 0))), (q_13, .inl (gI g, 60, .inl (fun _ => 0))), (q_14, .inl (gI g, 480, .inl (fun _ => 0))), (q_15, .inl (gI g, 60, .inl (fun _ => 0)))] := hD
  rw [show upd (fun _ => 0) 7 36 = upd (fun _ => 0) 7 36 from rfl] at hP hD
  refine lv_aload_n hx hb dX12_init_131 rfl (lv_at hl 0 rfl) ?_
  refine va_get (ci := 12) (C := RX12) (T := TX12) (N := 20) hx hb hts inlX12 hown hKW.1 hP 0 rfl rfl 0 (by decide) (hts _ wd_6_5) (fun _ h => h) rfl dX12_init_132 ?_
  refine lv_bipush (v := 9) hx hb dX12_init_135 (by decide) ?_
  refine lv_bipush (v := 10) hx hb dX12_init_137 (by decide) ?_
  refine va_iast hx hb hKW.1 hP hD hS 1 0 rfl rfl (show ¬ _ by decide) dX12_init_139 (fun H locs hP hD hS => ?_)
  have hP : va_P g.1 vwCl [(h, .inr (12, [.ref q_1, .ref q_2, .int 0, .int 0, .ref q_3, .ref q_4, .ref q_5, .ref q_6, .int 0, .ref q_7, .ref q_8, .ref q_9, .ref q_10, .ref q_11, .ref q_12, .int 0, .ref q_13, .ref q_14, .int 0, .ref q_15])), (q_1, .inl (gI g, 461, .inl (upd (upd (fun _ => 0) 7 36) 9 10))), (q_2, .inl (gI g, 7376, .inl (fun _ => 0))), (q_3, .inl (gI g, 4, .inl (fun _ => 0))), (q_4, .inl (gI g, 4, .inl (fun _ => 0))), (q_5, .inl (gI g, 240, .inl (fun _ => 0))), (q_6, .inl (gI g, 5, .inl (fun _ => 0))), (q_7, .inl (gI g, 7, .inl (fun _ => 0))), (q_8, .inl (gI g, 5, .inl (fun _ => 0))), (q_9, .inl (gI g, 5, .inl (fun _ => 0))), (q_10, .inl (gZ g, 5, .inl (fun _ => 0))), (q_11, .inl (gI g, 7, .inl (fun _ => 0))), (q_12, .inl (gI g, 7, .inl (fun _ => 0))), (q_13, .inl (gI g, 60, .inl (fun _ => 0))), (q_14, .inl (gI g, 480, .inl (fun _ => 0))), (q_15, .inl (gI g, 60, .inl (fun _ => 0)))] H := hP
  have hD : va_D A [(h, .inr (12, [.ref q_1, .ref q_2, .int 0, .int 0, .ref q_3, .ref q_4, .ref q_5, .ref q_6, .int 0, .ref q_7, .ref q_8, .ref q_9, .ref q_10, .ref q_11, .ref q_12, .int 0, .ref q_13, .ref q_14, .int 0, .ref q_15])), (q_1, .inl (gI g, 461, .inl (upd (upd (fun _ => 0) 7 36) 9 10))), (q_2, .inl (gI g, 7376, .inl (fun _ => 0))), (q_3, .inl (gI g, 4, .inl (fun _ => 0))), (q_4, .inl (gI g, 4, .inl (fun _ => 0))), (q_5, .inl (gI g, 240, .inl (fun _ => 0))), (q_6, .inl (gI g, 5, .inl (fun _ => 0))), (q_7, .inl (gI g, 7, .inl (fun _ => 0))), (q_8, .inl (gI g, 5, .inl (fun _ => 0))), (q_9, .inl (gI g, 5, .inl (fun _ => 0))), (q_10, .inl (gZ g, 5, .inl (fun _ => 0))), (q_11, .inl (gI g, 7, .inl (fun _ => 0))), (q_12, .inl (gI g, 7, .inl (fun _ => 0))), (q_13, .inl (gI g, 60, .inl (fun _ => 0))), (q_14, .inl (gI g, 480, .inl (fun _ => 0))), (q_15, .inl (gI g, 60, .inl (fun _ => 0)))] := hD
  rw [show upd (upd (fun _ => 0) 7 36) 9 10 = mD0 from mD0_of] at hP hD
  exact k_vret (fun k => ([0, q_1, q_2, q_3, q_4, q_5, q_6, q_7, q_8, q_9, q_10, q_11, q_12, q_13, q_14, q_15] : List Nat).getD k 0) [0, 1, 2, 3, 4, 5, 6, 7, 8, 9, 10, 11, 12, 13, 14, 15] hx hb hr hlk hP hD hS trivial rfl rfl rfl (Nat.le_of_ble_eq_true rfl) (Nat.le_of_ble_eq_true rfl) dX12_init_140
end
section
theorem dX11_isWithin_0 : decode cX11_isWithin 0 = .ok (.iload_n 0, 1) := by decide +kernel
theorem dX11_isWithin_1 : decode cX11_isWithin 1 = .ok (.iload_n 1, 1) := by decide +kernel
theorem dX11_isWithin_2 : decode cX11_isWithin 2 = .ok (.if_icmp .lt 12, 3) := by decide +kernel
theorem dX11_isWithin_14 : decode cX11_isWithin 14 = .ok (.iconst 0, 1) := by decide +kernel
theorem dX11_isWithin_15 : decode cX11_isWithin 15 = .ok (.ireturn, 1) := by decide +kernel
theorem dX11_isWithin_5 : decode cX11_isWithin 5 = .ok (.iload_n 0, 1) := by decide +kernel
theorem dX11_isWithin_6 : decode cX11_isWithin 6 = .ok (.iload_n 2, 1) := by decide +kernel
theorem dX11_isWithin_7 : decode cX11_isWithin 7 = .ok (.if_icmp .gt 7, 3) := by decide +kernel
theorem dX11_isWithin_10 : decode cX11_isWithin 10 = .ok (.iconst 1, 1) := by decide +kernel
theorem dX11_isWithin_11 : decode cX11_isWithin 11 = .ok (.goto 4, 3) := by decide +kernel
set_option maxHeartbeats 4000000 in
set_option maxRecDepth 100000 in
theorem c_X11_isWithin (l : Launch) (g : kG) (sz : Nat) (v : Int32) (lo : Int32) (hi : Int32) : kMi l g yX11_isWithin cX11_isWithin 3 (some .boolean) 1 0 0 [.int v, .int lo, .int hi] sz [] (fun (r : Int32) (u : Unit) => (r = 1 ∧ (Int32.toInt lo ≤ Int32.toInt v ∧ Int32.toInt v ≤ Int32.toInt hi)) ∨ (r = 0 ∧ ¬ (Int32.toInt lo ≤ Int32.toInt v ∧ Int32.toInt v ≤ Int32.toInt hi))) (fun (u : Unit) => ([] : va_W)) := by
  refine kMi.of (by decide) (Nat.le_of_ble_eq_true rfl) (fun p e s m below meth c A hx hb hr hml hown hts hlk hnm hKW hP hD hS hA ls hl => ?_)
  have hown : s.vm.findClass RX11 = some m.cls := hown
  have hl : lv_has ls 3 [(0, .int v), (1, .int lo), (2, .int hi)] := hl
  refine lv_iload_n hx hb dX11_isWithin_0 rfl (lv_at hl 0 rfl) ?_
  refine lv_iload_n hx hb dX11_isWithin_1 rfl (lv_at hl 1 rfl) ?_
  refine lv_icmp_lt (tgt := 14) hx hb dX11_isWithin_2 (by decide) (fun c_1 => ?_) (fun c_1 => ?_)
  · refine lv_iconst (v := 0) hx hb dX11_isWithin_14 (by decide) ?_
    exact k_zret () [] hx hb hr hlk hP hD hS (by clear hP hD hS hA hts hKW hl; first | exact Or.inl ⟨rfl, by (simp only [Int32.lt_iff_toInt_lt, Int32.le_iff_toInt_le, ← Int32.toInt_inj] at *; simp at *; omega)⟩ | exact Or.inr ⟨rfl, by (simp only [Int32.lt_iff_toInt_lt, Int32.le_iff_toInt_le, ← Int32.toInt_inj] at *; simp at *; omega)⟩ | (exfalso; (simp only [Int32.lt_iff_toInt_lt, Int32.le_iff_toInt_le, ← Int32.toInt_inj] at *; simp at *; omega))) rfl rfl rfl rfl (Nat.le_of_ble_eq_true rfl) (Nat.le_of_ble_eq_true rfl) dX11_isWithin_15
  · refine lv_iload_n hx hb dX11_isWithin_5 rfl (lv_at hl 0 rfl) ?_
    refine lv_iload_n hx hb dX11_isWithin_6 rfl (lv_at hl 2 rfl) ?_
    refine lv_icmp_gt (tgt := 14) hx hb dX11_isWithin_7 (by decide) (fun c_2 => ?_) (fun c_2 => ?_)
    · refine lv_iconst (v := 0) hx hb dX11_isWithin_14 (by decide) ?_
      exact k_zret () [] hx hb hr hlk hP hD hS (by clear hP hD hS hA hts hKW hl; first | exact Or.inl ⟨rfl, by (simp only [Int32.lt_iff_toInt_lt, Int32.le_iff_toInt_le, ← Int32.toInt_inj] at *; simp at *; omega)⟩ | exact Or.inr ⟨rfl, by (simp only [Int32.lt_iff_toInt_lt, Int32.le_iff_toInt_le, ← Int32.toInt_inj] at *; simp at *; omega)⟩ | (exfalso; (simp only [Int32.lt_iff_toInt_lt, Int32.le_iff_toInt_le, ← Int32.toInt_inj] at *; simp at *; omega))) rfl rfl rfl rfl (Nat.le_of_ble_eq_true rfl) (Nat.le_of_ble_eq_true rfl) dX11_isWithin_15
    · refine lv_iconst (v := 1) hx hb dX11_isWithin_10 (by decide) ?_
      refine lv_goto (tgt := 15) hx hb dX11_isWithin_11 (by decide) ?_
      exact k_zret () [] hx hb hr hlk hP hD hS (by clear hP hD hS hA hts hKW hl; first | exact Or.inl ⟨rfl, by (simp only [Int32.lt_iff_toInt_lt, Int32.le_iff_toInt_le, ← Int32.toInt_inj] at *; simp at *; omega)⟩ | exact Or.inr ⟨rfl, by (simp only [Int32.lt_iff_toInt_lt, Int32.le_iff_toInt_le, ← Int32.toInt_inj] at *; simp at *; omega)⟩ | (exfalso; (simp only [Int32.lt_iff_toInt_lt, Int32.le_iff_toInt_le, ← Int32.toInt_inj] at *; simp at *; omega))) rfl rfl rfl rfl (Nat.le_of_ble_eq_true rfl) (Nat.le_of_ble_eq_true rfl) dX11_isWithin_15
theorem dX12_isIn_0 : decode cX12_isIn 0 = .ok (.iload_n 0, 1) := by decide +kernel
theorem dX12_isIn_1 : decode cX12_isIn 1 = .ok (.iload_n 1, 1) := by decide +kernel
theorem dX12_isIn_2 : decode cX12_isIn 2 = .ok (.if_icmp .lt 12, 3) := by decide +kernel
theorem dX12_isIn_14 : decode cX12_isIn 14 = .ok (.iconst 0, 1) := by decide +kernel
theorem dX12_isIn_15 : decode cX12_isIn 15 = .ok (.ireturn, 1) := by decide +kernel
theorem dX12_isIn_5 : decode cX12_isIn 5 = .ok (.iload_n 0, 1) := by decide +kernel
theorem dX12_isIn_6 : decode cX12_isIn 6 = .ok (.iload_n 2, 1) := by decide +kernel
theorem dX12_isIn_7 : decode cX12_isIn 7 = .ok (.if_icmp .gt 7, 3) := by decide +kernel
theorem dX12_isIn_10 : decode cX12_isIn 10 = .ok (.iconst 1, 1) := by decide +kernel
theorem dX12_isIn_11 : decode cX12_isIn 11 = .ok (.goto 4, 3) := by decide +kernel
set_option maxHeartbeats 4000000 in
set_option maxRecDepth 100000 in
theorem c_X12_isIn (l : Launch) (g : kG) (sz : Nat) (v : Int32) (lo : Int32) (hi : Int32) : kMi l g yX12_isIn cX12_isIn 3 (some .boolean) 1 0 0 [.int v, .int lo, .int hi] sz [] (fun (r : Int32) (u : Unit) => (r = 1 ∧ (Int32.toInt lo ≤ Int32.toInt v ∧ Int32.toInt v ≤ Int32.toInt hi)) ∨ (r = 0 ∧ ¬ (Int32.toInt lo ≤ Int32.toInt v ∧ Int32.toInt v ≤ Int32.toInt hi))) (fun (u : Unit) => ([] : va_W)) := by
  refine kMi.of (by decide) (Nat.le_of_ble_eq_true rfl) (fun p e s m below meth c A hx hb hr hml hown hts hlk hnm hKW hP hD hS hA ls hl => ?_)
  have hown : s.vm.findClass RX12 = some m.cls := hown
  have hl : lv_has ls 3 [(0, .int v), (1, .int lo), (2, .int hi)] := hl
  refine lv_iload_n hx hb dX12_isIn_0 rfl (lv_at hl 0 rfl) ?_
  refine lv_iload_n hx hb dX12_isIn_1 rfl (lv_at hl 1 rfl) ?_
  refine lv_icmp_lt (tgt := 14) hx hb dX12_isIn_2 (by decide) (fun c_1 => ?_) (fun c_1 => ?_)
  · refine lv_iconst (v := 0) hx hb dX12_isIn_14 (by decide) ?_
    exact k_zret () [] hx hb hr hlk hP hD hS (by clear hP hD hS hA hts hKW hl; first | exact Or.inl ⟨rfl, by (simp only [Int32.lt_iff_toInt_lt, Int32.le_iff_toInt_le, ← Int32.toInt_inj] at *; simp at *; omega)⟩ | exact Or.inr ⟨rfl, by (simp only [Int32.lt_iff_toInt_lt, Int32.le_iff_toInt_le, ← Int32.toInt_inj] at *; simp at *; omega)⟩ | (exfalso; (simp only [Int32.lt_iff_toInt_lt, Int32.le_iff_toInt_le, ← Int32.toInt_inj] at *; simp at *; omega))) rfl rfl rfl rfl (Nat.le_of_ble_eq_true rfl) (Nat.le_of_ble_eq_true rfl) dX12_isIn_15
  · refine lv_iload_n hx hb dX12_isIn_5 rfl (lv_at hl 0 rfl) ?_
    refine lv_iload_n hx hb dX12_isIn_6 rfl (lv_at hl 2 rfl) ?_
    refine lv_icmp_gt (tgt := 14) hx hb dX12_isIn_7 (by decide) (fun c_2 => ?_) (fun c_2 => ?_)
    · refine lv_iconst (v := 0) hx hb dX12_isIn_14 (by decide) ?_
      exact k_zret () [] hx hb hr hlk hP hD hS (by clear hP hD hS hA hts hKW hl; first | exact Or.inl ⟨rfl, by (simp only [Int32.lt_iff_toInt_lt, Int32.le_iff_toInt_le, ← Int32.toInt_inj] at *; simp at *; omega)⟩ | exact Or.inr ⟨rfl, by (simp only [Int32.lt_iff_toInt_lt, Int32.le_iff_toInt_le, ← Int32.toInt_inj] at *; simp at *; omega)⟩ | (exfalso; (simp only [Int32.lt_iff_toInt_lt, Int32.le_iff_toInt_le, ← Int32.toInt_inj] at *; simp at *; omega))) rfl rfl rfl rfl (Nat.le_of_ble_eq_true rfl) (Nat.le_of_ble_eq_true rfl) dX12_isIn_15
    · refine lv_iconst (v := 1) hx hb dX12_isIn_10 (by decide) ?_
      refine lv_goto (tgt := 15) hx hb dX12_isIn_11 (by decide) ?_
      exact k_zret () [] hx hb hr hlk hP hD hS (by clear hP hD hS hA hts hKW hl; first | exact Or.inl ⟨rfl, by (simp only [Int32.lt_iff_toInt_lt, Int32.le_iff_toInt_le, ← Int32.toInt_inj] at *; simp at *; omega)⟩ | exact Or.inr ⟨rfl, by (simp only [Int32.lt_iff_toInt_lt, Int32.le_iff_toInt_le, ← Int32.toInt_inj] at *; simp at *; omega)⟩ | (exfalso; (simp only [Int32.lt_iff_toInt_lt, Int32.le_iff_toInt_le, ← Int32.toInt_inj] at *; simp at *; omega))) rfl rfl rfl rfl (Nat.le_of_ble_eq_true rfl) (Nat.le_of_ble_eq_true rfl) dX12_isIn_15
theorem dX11_isKind_0 : decode cX11_isKind 0 = .ok (.iload_n 0, 1) := by decide +kernel
theorem dX11_isKind_1 : decode cX11_isKind 1 = .ok (.iconst 0, 1) := by decide +kernel
theorem dX11_isKind_2 : decode cX11_isKind 2 = .ok (.iconst 3, 1) := by decide +kernel
theorem dX11_isKind_3 : decode cX11_isKind 3 = .ok (.invokestatic 51, 3) := by decide +kernel
theorem dX11_isKind_6 : decode cX11_isKind 6 = .ok (.ireturn, 1) := by decide +kernel
set_option maxHeartbeats 4000000 in
set_option maxRecDepth 100000 in
theorem c_X11_isKind (l : Launch) (g : kG) (sz : Nat) (v : Int32) : kMi l g yX11_isKind cX11_isKind 1 (some .boolean) 2 0 0 [.int v] sz [] (fun (r : Int32) (u : Unit) => (r = 1 ∧ ((0 : Int) ≤ Int32.toInt v ∧ Int32.toInt v ≤ 3)) ∨ (r = 0 ∧ ¬ ((0 : Int) ≤ Int32.toInt v ∧ Int32.toInt v ≤ 3))) (fun (u : Unit) => ([] : va_W)) := by
  refine kMi.of (by decide) (Nat.le_of_ble_eq_true rfl) (fun p e s m below meth c A hx hb hr hml hown hts hlk hnm hKW hP hD hS hA ls hl => ?_)
  have hown : s.vm.findClass RX11 = some m.cls := hown
  have hl : lv_has ls 1 [(0, .int v)] := hl
  refine lv_iload_n hx hb dX11_isKind_0 rfl (lv_at hl 0 rfl) ?_
  refine lv_iconst (v := 0) hx hb dX11_isKind_1 (by decide) ?_
  refine lv_iconst (v := 3) hx hb dX11_isKind_2 (by decide) ?_
  refine k_Si [] [] (wr := []) hx hb hml hown hts hKW hP hD hS hA hl.1 (c_X11_isWithin l g _ v 0 3 ) wd_7_8 wd_1_2 wd_7_6 wd_7_7 yd_X11_isWithin ⟨Nat.le_of_ble_eq_true rfl, Nat.le_of_ble_eq_true rfl⟩ rfl rfl rfl rfl rfl (by decide) rfl (Nat.le_of_ble_eq_true rfl) dX11_isKind_3 ⟨Nat.le_of_ble_eq_true rfl, Nat.le_of_ble_eq_true rfl⟩ (fun r_1 u_2 H locs hw_3 hP hD hS => ?_)
  have hP : va_P g.1 vwCl [] H := hP
  have hD : va_D A [] := hD
  rcases (show (r_1 = 1 ∧ (Int32.toInt 0 ≤ Int32.toInt v ∧ Int32.toInt v ≤ Int32.toInt 3)) ∨ (r_1 = 0 ∧ ¬ (Int32.toInt 0 ≤ Int32.toInt v ∧ Int32.toInt v ≤ Int32.toInt 3)) from hw_3) with ⟨rfl, hw_3⟩ | ⟨rfl, hw_3⟩
  · exact k_zret () [] hx hb hr hlk hP hD hS (by clear hP hD hS hA hts hKW hl; first | exact Or.inl ⟨rfl, by (simp only [Int32.lt_iff_toInt_lt, Int32.le_iff_toInt_le, ← Int32.toInt_inj] at *; simp at *; omega)⟩ | exact Or.inr ⟨rfl, by (simp only [Int32.lt_iff_toInt_lt, Int32.le_iff_toInt_le, ← Int32.toInt_inj] at *; simp at *; omega)⟩ | (exfalso; (simp only [Int32.lt_iff_toInt_lt, Int32.le_iff_toInt_le, ← Int32.toInt_inj] at *; simp at *; omega))) rfl rfl rfl rfl (Nat.le_of_ble_eq_true rfl) (Nat.le_of_ble_eq_true rfl) dX11_isKind_6
  · exact k_zret () [] hx hb hr hlk hP hD hS (by clear hP hD hS hA hts hKW hl; first | exact Or.inl ⟨rfl, by (simp only [Int32.lt_iff_toInt_lt, Int32.le_iff_toInt_le, ← Int32.toInt_inj] at *; simp at *; omega)⟩ | exact Or.inr ⟨rfl, by (simp only [Int32.lt_iff_toInt_lt, Int32.le_iff_toInt_le, ← Int32.toInt_inj] at *; simp at *; omega)⟩ | (exfalso; (simp only [Int32.lt_iff_toInt_lt, Int32.le_iff_toInt_le, ← Int32.toInt_inj] at *; simp at *; omega))) rfl rfl rfl rfl (Nat.le_of_ble_eq_true rfl) (Nat.le_of_ble_eq_true rfl) dX11_isKind_6
theorem dX11_isMonth_0 : decode cX11_isMonth 0 = .ok (.iload_n 0, 1) := by decide +kernel
theorem dX11_isMonth_1 : decode cX11_isMonth 1 = .ok (.iconst 0, 1) := by decide +kernel
theorem dX11_isMonth_2 : decode cX11_isMonth 2 = .ok (.bipush 60, 2) := by decide +kernel
theorem dX11_isMonth_4 : decode cX11_isMonth 4 = .ok (.invokestatic 51, 3) := by decide +kernel
theorem dX11_isMonth_7 : decode cX11_isMonth 7 = .ok (.ireturn, 1) := by decide +kernel
set_option maxHeartbeats 4000000 in
set_option maxRecDepth 100000 in
theorem c_X11_isMonth (l : Launch) (g : kG) (sz : Nat) (v : Int32) : kMi l g yX11_isMonth cX11_isMonth 1 (some .boolean) 2 0 0 [.int v] sz [] (fun (r : Int32) (u : Unit) => (r = 1 ∧ ((0 : Int) ≤ Int32.toInt v ∧ Int32.toInt v ≤ 60)) ∨ (r = 0 ∧ ¬ ((0 : Int) ≤ Int32.toInt v ∧ Int32.toInt v ≤ 60))) (fun (u : Unit) => ([] : va_W)) := by
  refine kMi.of (by decide) (Nat.le_of_ble_eq_true rfl) (fun p e s m below meth c A hx hb hr hml hown hts hlk hnm hKW hP hD hS hA ls hl => ?_)
  have hown : s.vm.findClass RX11 = some m.cls := hown
  have hl : lv_has ls 1 [(0, .int v)] := hl
  refine lv_iload_n hx hb dX11_isMonth_0 rfl (lv_at hl 0 rfl) ?_
  refine lv_iconst (v := 0) hx hb dX11_isMonth_1 (by decide) ?_
  refine lv_bipush (v := 60) hx hb dX11_isMonth_2 (by decide) ?_
  refine k_Si [] [] (wr := []) hx hb hml hown hts hKW hP hD hS hA hl.1 (c_X11_isWithin l g _ v 0 60 ) wd_7_8 wd_1_2 wd_7_6 wd_7_7 yd_X11_isWithin ⟨Nat.le_of_ble_eq_true rfl, Nat.le_of_ble_eq_true rfl⟩ rfl rfl rfl rfl rfl (by decide) rfl (Nat.le_of_ble_eq_true rfl) dX11_isMonth_4 ⟨Nat.le_of_ble_eq_true rfl, Nat.le_of_ble_eq_true rfl⟩ (fun r_1 u_2 H locs hw_3 hP hD hS => ?_)
  have hP : va_P g.1 vwCl [] H := hP
  have hD : va_D A [] := hD
  rcases (show (r_1 = 1 ∧ (Int32.toInt 0 ≤ Int32.toInt v ∧ Int32.toInt v ≤ Int32.toInt 60)) ∨ (r_1 = 0 ∧ ¬ (Int32.toInt 0 ≤ Int32.toInt v ∧ Int32.toInt v ≤ Int32.toInt 60)) from hw_3) with ⟨rfl, hw_3⟩ | ⟨rfl, hw_3⟩
  · exact k_zret () [] hx hb hr hlk hP hD hS (by clear hP hD hS hA hts hKW hl; first | exact Or.inl ⟨rfl, by (simp only [Int32.lt_iff_toInt_lt, Int32.le_iff_toInt_le, ← Int32.toInt_inj] at *; simp at *; omega)⟩ | exact Or.inr ⟨rfl, by (simp only [Int32.lt_iff_toInt_lt, Int32.le_iff_toInt_le, ← Int32.toInt_inj] at *; simp at *; omega)⟩ | (exfalso; (simp only [Int32.lt_iff_toInt_lt, Int32.le_iff_toInt_le, ← Int32.toInt_inj] at *; simp at *; omega))) rfl rfl rfl rfl (Nat.le_of_ble_eq_true rfl) (Nat.le_of_ble_eq_true rfl) dX11_isMonth_7
  · exact k_zret () [] hx hb hr hlk hP hD hS (by clear hP hD hS hA hts hKW hl; first | exact Or.inl ⟨rfl, by (simp only [Int32.lt_iff_toInt_lt, Int32.le_iff_toInt_le, ← Int32.toInt_inj] at *; simp at *; omega)⟩ | exact Or.inr ⟨rfl, by (simp only [Int32.lt_iff_toInt_lt, Int32.le_iff_toInt_le, ← Int32.toInt_inj] at *; simp at *; omega)⟩ | (exfalso; (simp only [Int32.lt_iff_toInt_lt, Int32.le_iff_toInt_le, ← Int32.toInt_inj] at *; simp at *; omega))) rfl rfl rfl rfl (Nat.le_of_ble_eq_true rfl) (Nat.le_of_ble_eq_true rfl) dX11_isMonth_7
theorem dX11_isSlot_0 : decode cX11_isSlot 0 = .ok (.iload_n 0, 1) := by decide +kernel
theorem dX11_isSlot_1 : decode cX11_isSlot 1 = .ok (.iconst 0, 1) := by decide +kernel
theorem dX11_isSlot_2 : decode cX11_isSlot 2 = .ok (.bipush 59, 2) := by decide +kernel
theorem dX11_isSlot_4 : decode cX11_isSlot 4 = .ok (.invokestatic 51, 3) := by decide +kernel
theorem dX11_isSlot_7 : decode cX11_isSlot 7 = .ok (.ireturn, 1) := by decide +kernel
set_option maxHeartbeats 4000000 in
set_option maxRecDepth 100000 in
theorem c_X11_isSlot (l : Launch) (g : kG) (sz : Nat) (v : Int32) : kMi l g yX11_isSlot cX11_isSlot 1 (some .boolean) 2 0 0 [.int v] sz [] (fun (r : Int32) (u : Unit) => (r = 1 ∧ ((0 : Int) ≤ Int32.toInt v ∧ Int32.toInt v ≤ 59)) ∨ (r = 0 ∧ ¬ ((0 : Int) ≤ Int32.toInt v ∧ Int32.toInt v ≤ 59))) (fun (u : Unit) => ([] : va_W)) := by
  refine kMi.of (by decide) (Nat.le_of_ble_eq_true rfl) (fun p e s m below meth c A hx hb hr hml hown hts hlk hnm hKW hP hD hS hA ls hl => ?_)
  have hown : s.vm.findClass RX11 = some m.cls := hown
  have hl : lv_has ls 1 [(0, .int v)] := hl
  refine lv_iload_n hx hb dX11_isSlot_0 rfl (lv_at hl 0 rfl) ?_
  refine lv_iconst (v := 0) hx hb dX11_isSlot_1 (by decide) ?_
  refine lv_bipush (v := 59) hx hb dX11_isSlot_2 (by decide) ?_
  refine k_Si [] [] (wr := []) hx hb hml hown hts hKW hP hD hS hA hl.1 (c_X11_isWithin l g _ v 0 59 ) wd_7_8 wd_1_2 wd_7_6 wd_7_7 yd_X11_isWithin ⟨Nat.le_of_ble_eq_true rfl, Nat.le_of_ble_eq_true rfl⟩ rfl rfl rfl rfl rfl (by decide) rfl (Nat.le_of_ble_eq_true rfl) dX11_isSlot_4 ⟨Nat.le_of_ble_eq_true rfl, Nat.le_of_ble_eq_true rfl⟩ (fun r_1 u_2 H locs hw_3 hP hD hS => ?_)
  have hP : va_P g.1 vwCl [] H := hP
  have hD : va_D A [] := hD
  rcases (show (r_1 = 1 ∧ (Int32.toInt 0 ≤ Int32.toInt v ∧ Int32.toInt v ≤ Int32.toInt 59)) ∨ (r_1 = 0 ∧ ¬ (Int32.toInt 0 ≤ Int32.toInt v ∧ Int32.toInt v ≤ Int32.toInt 59)) from hw_3) with ⟨rfl, hw_3⟩ | ⟨rfl, hw_3⟩
  · exact k_zret () [] hx hb hr hlk hP hD hS (by clear hP hD hS hA hts hKW hl; first | exact Or.inl ⟨rfl, by (simp only [Int32.lt_iff_toInt_lt, Int32.le_iff_toInt_le, ← Int32.toInt_inj] at *; simp at *; omega)⟩ | exact Or.inr ⟨rfl, by (simp only [Int32.lt_iff_toInt_lt, Int32.le_iff_toInt_le, ← Int32.toInt_inj] at *; simp at *; omega)⟩ | (exfalso; (simp only [Int32.lt_iff_toInt_lt, Int32.le_iff_toInt_le, ← Int32.toInt_inj] at *; simp at *; omega))) rfl rfl rfl rfl (Nat.le_of_ble_eq_true rfl) (Nat.le_of_ble_eq_true rfl) dX11_isSlot_7
  · exact k_zret () [] hx hb hr hlk hP hD hS (by clear hP hD hS hA hts hKW hl; first | exact Or.inl ⟨rfl, by (simp only [Int32.lt_iff_toInt_lt, Int32.le_iff_toInt_le, ← Int32.toInt_inj] at *; simp at *; omega)⟩ | exact Or.inr ⟨rfl, by (simp only [Int32.lt_iff_toInt_lt, Int32.le_iff_toInt_le, ← Int32.toInt_inj] at *; simp at *; omega)⟩ | (exfalso; (simp only [Int32.lt_iff_toInt_lt, Int32.le_iff_toInt_le, ← Int32.toInt_inj] at *; simp at *; omega))) rfl rfl rfl rfl (Nat.le_of_ble_eq_true rfl) (Nat.le_of_ble_eq_true rfl) dX11_isSlot_7
theorem dX11_isSheet_0 : decode cX11_isSheet 0 = .ok (.iload_n 0, 1) := by decide +kernel
theorem dX11_isSheet_1 : decode cX11_isSheet 1 = .ok (.iconst 0, 1) := by decide +kernel
theorem dX11_isSheet_2 : decode cX11_isSheet 2 = .ok (.iconst 3, 1) := by decide +kernel
theorem dX11_isSheet_3 : decode cX11_isSheet 3 = .ok (.invokestatic 51, 3) := by decide +kernel
theorem dX11_isSheet_6 : decode cX11_isSheet 6 = .ok (.ireturn, 1) := by decide +kernel
set_option maxHeartbeats 4000000 in
set_option maxRecDepth 100000 in
theorem c_X11_isSheet (l : Launch) (g : kG) (sz : Nat) (v : Int32) : kMi l g yX11_isSheet cX11_isSheet 1 (some .boolean) 2 0 0 [.int v] sz [] (fun (r : Int32) (u : Unit) => (r = 1 ∧ ((0 : Int) ≤ Int32.toInt v ∧ Int32.toInt v ≤ 3)) ∨ (r = 0 ∧ ¬ ((0 : Int) ≤ Int32.toInt v ∧ Int32.toInt v ≤ 3))) (fun (u : Unit) => ([] : va_W)) := by
  refine kMi.of (by decide) (Nat.le_of_ble_eq_true rfl) (fun p e s m below meth c A hx hb hr hml hown hts hlk hnm hKW hP hD hS hA ls hl => ?_)
  have hown : s.vm.findClass RX11 = some m.cls := hown
  have hl : lv_has ls 1 [(0, .int v)] := hl
  refine lv_iload_n hx hb dX11_isSheet_0 rfl (lv_at hl 0 rfl) ?_
  refine lv_iconst (v := 0) hx hb dX11_isSheet_1 (by decide) ?_
  refine lv_iconst (v := 3) hx hb dX11_isSheet_2 (by decide) ?_
  refine k_Si [] [] (wr := []) hx hb hml hown hts hKW hP hD hS hA hl.1 (c_X11_isWithin l g _ v 0 3 ) wd_7_8 wd_1_2 wd_7_6 wd_7_7 yd_X11_isWithin ⟨Nat.le_of_ble_eq_true rfl, Nat.le_of_ble_eq_true rfl⟩ rfl rfl rfl rfl rfl (by decide) rfl (Nat.le_of_ble_eq_true rfl) dX11_isSheet_3 ⟨Nat.le_of_ble_eq_true rfl, Nat.le_of_ble_eq_true rfl⟩ (fun r_1 u_2 H locs hw_3 hP hD hS => ?_)
  have hP : va_P g.1 vwCl [] H := hP
  have hD : va_D A [] := hD
  rcases (show (r_1 = 1 ∧ (Int32.toInt 0 ≤ Int32.toInt v ∧ Int32.toInt v ≤ Int32.toInt 3)) ∨ (r_1 = 0 ∧ ¬ (Int32.toInt 0 ≤ Int32.toInt v ∧ Int32.toInt v ≤ Int32.toInt 3)) from hw_3) with ⟨rfl, hw_3⟩ | ⟨rfl, hw_3⟩
  · exact k_zret () [] hx hb hr hlk hP hD hS (by clear hP hD hS hA hts hKW hl; first | exact Or.inl ⟨rfl, by (simp only [Int32.lt_iff_toInt_lt, Int32.le_iff_toInt_le, ← Int32.toInt_inj] at *; simp at *; omega)⟩ | exact Or.inr ⟨rfl, by (simp only [Int32.lt_iff_toInt_lt, Int32.le_iff_toInt_le, ← Int32.toInt_inj] at *; simp at *; omega)⟩ | (exfalso; (simp only [Int32.lt_iff_toInt_lt, Int32.le_iff_toInt_le, ← Int32.toInt_inj] at *; simp at *; omega))) rfl rfl rfl rfl (Nat.le_of_ble_eq_true rfl) (Nat.le_of_ble_eq_true rfl) dX11_isSheet_6
  · exact k_zret () [] hx hb hr hlk hP hD hS (by clear hP hD hS hA hts hKW hl; first | exact Or.inl ⟨rfl, by (simp only [Int32.lt_iff_toInt_lt, Int32.le_iff_toInt_le, ← Int32.toInt_inj] at *; simp at *; omega)⟩ | exact Or.inr ⟨rfl, by (simp only [Int32.lt_iff_toInt_lt, Int32.le_iff_toInt_le, ← Int32.toInt_inj] at *; simp at *; omega)⟩ | (exfalso; (simp only [Int32.lt_iff_toInt_lt, Int32.le_iff_toInt_le, ← Int32.toInt_inj] at *; simp at *; omega))) rfl rfl rfl rfl (Nat.le_of_ble_eq_true rfl) (Nat.le_of_ble_eq_true rfl) dX11_isSheet_6
theorem dX12_isMonth_0 : decode cX12_isMonth 0 = .ok (.iload_n 0, 1) := by decide +kernel
theorem dX12_isMonth_1 : decode cX12_isMonth 1 = .ok (.iconst 0, 1) := by decide +kernel
theorem dX12_isMonth_2 : decode cX12_isMonth 2 = .ok (.bipush 60, 2) := by decide +kernel
theorem dX12_isMonth_4 : decode cX12_isMonth 4 = .ok (.invokestatic 64, 3) := by decide +kernel
theorem dX12_isMonth_7 : decode cX12_isMonth 7 = .ok (.ireturn, 1) := by decide +kernel
set_option maxHeartbeats 4000000 in
set_option maxRecDepth 100000 in
theorem c_X12_isMonth (l : Launch) (g : kG) (sz : Nat) (v : Int32) : kMi l g yX12_isMonth cX12_isMonth 1 (some .boolean) 2 0 0 [.int v] sz [] (fun (r : Int32) (u : Unit) => (r = 1 ∧ ((0 : Int) ≤ Int32.toInt v ∧ Int32.toInt v ≤ 60)) ∨ (r = 0 ∧ ¬ ((0 : Int) ≤ Int32.toInt v ∧ Int32.toInt v ≤ 60))) (fun (u : Unit) => ([] : va_W)) := by
  refine kMi.of (by decide) (Nat.le_of_ble_eq_true rfl) (fun p e s m below meth c A hx hb hr hml hown hts hlk hnm hKW hP hD hS hA ls hl => ?_)
  have hown : s.vm.findClass RX12 = some m.cls := hown
  have hl : lv_has ls 1 [(0, .int v)] := hl
  refine lv_iload_n hx hb dX12_isMonth_0 rfl (lv_at hl 0 rfl) ?_
  refine lv_iconst (v := 0) hx hb dX12_isMonth_1 (by decide) ?_
  refine lv_bipush (v := 60) hx hb dX12_isMonth_2 (by decide) ?_
  refine k_Si [] [] (wr := []) hx hb hml hown hts hKW hP hD hS hA hl.1 (c_X12_isIn l g _ v 0 60 ) wd_10_11 wd_1_5 wd_10_9 wd_10_10 yd_X12_isIn ⟨Nat.le_of_ble_eq_true rfl, Nat.le_of_ble_eq_true rfl⟩ rfl rfl rfl rfl rfl (by decide) rfl (Nat.le_of_ble_eq_true rfl) dX12_isMonth_4 ⟨Nat.le_of_ble_eq_true rfl, Nat.le_of_ble_eq_true rfl⟩ (fun r_1 u_2 H locs hw_3 hP hD hS => ?_)
  have hP : va_P g.1 vwCl [] H := hP
  have hD : va_D A [] := hD
  rcases (show (r_1 = 1 ∧ (Int32.toInt 0 ≤ Int32.toInt v ∧ Int32.toInt v ≤ Int32.toInt 60)) ∨ (r_1 = 0 ∧ ¬ (Int32.toInt 0 ≤ Int32.toInt v ∧ Int32.toInt v ≤ Int32.toInt 60)) from hw_3) with ⟨rfl, hw_3⟩ | ⟨rfl, hw_3⟩
  · exact k_zret () [] hx hb hr hlk hP hD hS (by clear hP hD hS hA hts hKW hl; first | exact Or.inl ⟨rfl, by (simp only [Int32.lt_iff_toInt_lt, Int32.le_iff_toInt_le, ← Int32.toInt_inj] at *; simp at *; omega)⟩ | exact Or.inr ⟨rfl, by (simp only [Int32.lt_iff_toInt_lt, Int32.le_iff_toInt_le, ← Int32.toInt_inj] at *; simp at *; omega)⟩ | (exfalso; (simp only [Int32.lt_iff_toInt_lt, Int32.le_iff_toInt_le, ← Int32.toInt_inj] at *; simp at *; omega))) rfl rfl rfl rfl (Nat.le_of_ble_eq_true rfl) (Nat.le_of_ble_eq_true rfl) dX12_isMonth_7
  · exact k_zret () [] hx hb hr hlk hP hD hS (by clear hP hD hS hA hts hKW hl; first | exact Or.inl ⟨rfl, by (simp only [Int32.lt_iff_toInt_lt, Int32.le_iff_toInt_le, ← Int32.toInt_inj] at *; simp at *; omega)⟩ | exact Or.inr ⟨rfl, by (simp only [Int32.lt_iff_toInt_lt, Int32.le_iff_toInt_le, ← Int32.toInt_inj] at *; simp at *; omega)⟩ | (exfalso; (simp only [Int32.lt_iff_toInt_lt, Int32.le_iff_toInt_le, ← Int32.toInt_inj] at *; simp at *; omega))) rfl rfl rfl rfl (Nat.le_of_ble_eq_true rfl) (Nat.le_of_ble_eq_true rfl) dX12_isMonth_7
theorem dX12_isSheet_0 : decode cX12_isSheet 0 = .ok (.iload_n 0, 1) := by decide +kernel
theorem dX12_isSheet_1 : decode cX12_isSheet 1 = .ok (.iconst 0, 1) := by decide +kernel
theorem dX12_isSheet_2 : decode cX12_isSheet 2 = .ok (.iconst 3, 1) := by decide +kernel
theorem dX12_isSheet_3 : decode cX12_isSheet 3 = .ok (.invokestatic 64, 3) := by decide +kernel
theorem dX12_isSheet_6 : decode cX12_isSheet 6 = .ok (.ireturn, 1) := by decide +kernel
set_option maxHeartbeats 4000000 in
set_option maxRecDepth 100000 in
theorem c_X12_isSheet (l : Launch) (g : kG) (sz : Nat) (v : Int32) : kMi l g yX12_isSheet cX12_isSheet 1 (some .boolean) 2 0 0 [.int v] sz [] (fun (r : Int32) (u : Unit) => (r = 1 ∧ ((0 : Int) ≤ Int32.toInt v ∧ Int32.toInt v ≤ 3)) ∨ (r = 0 ∧ ¬ ((0 : Int) ≤ Int32.toInt v ∧ Int32.toInt v ≤ 3))) (fun (u : Unit) => ([] : va_W)) := by
  refine kMi.of (by decide) (Nat.le_of_ble_eq_true rfl) (fun p e s m below meth c A hx hb hr hml hown hts hlk hnm hKW hP hD hS hA ls hl => ?_)
  have hown : s.vm.findClass RX12 = some m.cls := hown
  have hl : lv_has ls 1 [(0, .int v)] := hl
  refine lv_iload_n hx hb dX12_isSheet_0 rfl (lv_at hl 0 rfl) ?_
  refine lv_iconst (v := 0) hx hb dX12_isSheet_1 (by decide) ?_
  refine lv_iconst (v := 3) hx hb dX12_isSheet_2 (by decide) ?_
  refine k_Si [] [] (wr := []) hx hb hml hown hts hKW hP hD hS hA hl.1 (c_X12_isIn l g _ v 0 3 ) wd_10_11 wd_1_5 wd_10_9 wd_10_10 yd_X12_isIn ⟨Nat.le_of_ble_eq_true rfl, Nat.le_of_ble_eq_true rfl⟩ rfl rfl rfl rfl rfl (by decide) rfl (Nat.le_of_ble_eq_true rfl) dX12_isSheet_3 ⟨Nat.le_of_ble_eq_true rfl, Nat.le_of_ble_eq_true rfl⟩ (fun r_1 u_2 H locs hw_3 hP hD hS => ?_)
  have hP : va_P g.1 vwCl [] H := hP
  have hD : va_D A [] := hD
  rcases (show (r_1 = 1 ∧ (Int32.toInt 0 ≤ Int32.toInt v ∧ Int32.toInt v ≤ Int32.toInt 3)) ∨ (r_1 = 0 ∧ ¬ (Int32.toInt 0 ≤ Int32.toInt v ∧ Int32.toInt v ≤ Int32.toInt 3)) from hw_3) with ⟨rfl, hw_3⟩ | ⟨rfl, hw_3⟩
  · exact k_zret () [] hx hb hr hlk hP hD hS (by clear hP hD hS hA hts hKW hl; first | exact Or.inl ⟨rfl, by (simp only [Int32.lt_iff_toInt_lt, Int32.le_iff_toInt_le, ← Int32.toInt_inj] at *; simp at *; omega)⟩ | exact Or.inr ⟨rfl, by (simp only [Int32.lt_iff_toInt_lt, Int32.le_iff_toInt_le, ← Int32.toInt_inj] at *; simp at *; omega)⟩ | (exfalso; (simp only [Int32.lt_iff_toInt_lt, Int32.le_iff_toInt_le, ← Int32.toInt_inj] at *; simp at *; omega))) rfl rfl rfl rfl (Nat.le_of_ble_eq_true rfl) (Nat.le_of_ble_eq_true rfl) dX12_isSheet_6
  · exact k_zret () [] hx hb hr hlk hP hD hS (by clear hP hD hS hA hts hKW hl; first | exact Or.inl ⟨rfl, by (simp only [Int32.lt_iff_toInt_lt, Int32.le_iff_toInt_le, ← Int32.toInt_inj] at *; simp at *; omega)⟩ | exact Or.inr ⟨rfl, by (simp only [Int32.lt_iff_toInt_lt, Int32.le_iff_toInt_le, ← Int32.toInt_inj] at *; simp at *; omega)⟩ | (exfalso; (simp only [Int32.lt_iff_toInt_lt, Int32.le_iff_toInt_le, ← Int32.toInt_inj] at *; simp at *; omega))) rfl rfl rfl rfl (Nat.le_of_ble_eq_true rfl) (Nat.le_of_ble_eq_true rfl) dX12_isSheet_6
theorem dX11_finding_0 : decode cX11_finding 0 = .ok (.aload_n 0, 1) := by decide +kernel
theorem dX11_finding_1 : decode cX11_finding 1 = .ok (.dup, 1) := by decide +kernel
theorem dX11_finding_2 : decode cX11_finding 2 = .ok (.getfield 364, 3) := by decide +kernel
theorem dX11_finding_5 : decode cX11_finding 5 = .ok (.iconst 1, 1) := by decide +kernel
theorem dX11_finding_6 : decode cX11_finding 6 = .ok (.iadd, 1) := by decide +kernel
theorem dX11_finding_7 : decode cX11_finding 7 = .ok (.putfield 364, 3) := by decide +kernel
theorem dX11_finding_10 : decode cX11_finding 10 = .ok (.iload_n 1, 1) := by decide +kernel
theorem dX11_finding_11 : decode cX11_finding 11 = .ok (.ireturn, 1) := by decide +kernel
set_option maxHeartbeats 4000000 in
set_option maxRecDepth 100000 in
theorem c_X11_finding (l : Launch) (g : kG) (sz : Nat) (h : Nat) (an : Nat) (ah : Nat) (ar : Nat) (ap : Nat) (as_ : Nat) (at_ : Nat) (fnd : Int32) (k : Int32) : kMi l g yX11_finding cX11_finding 2 (some .int) 1 0 0 [.ref h, .int k] sz [(h, .inr (11, [.ref an, .ref ah, .ref ar, .ref ap, .ref as_, .ref at_, .int fnd]))] (fun (r : Int32) (u : Unit) => r = k) (fun (u : Unit) => ([] : va_W)) := by
  refine kMi.of (by decide) (Nat.le_of_ble_eq_true rfl) (fun p e s m below meth c A hx hb hr hml hown hts hlk hnm hKW hP hD hS hA ls hl => ?_)
  have hown : s.vm.findClass RX11 = some m.cls := hown
  have hl : lv_has ls 2 [(0, .ref h), (1, .int k)] := hl
  refine lv_aload_n hx hb dX11_finding_0 rfl (lv_at hl 0 rfl) ?_
  refine lv_dup hx hb dX11_finding_1 rfl ?_
  refine va_get (ci := 11) (C := RX11) (T := TX11) (N := 7) hx hb hts inlX11 hown hKW.1 hP 0 rfl rfl 6 (by decide) (hts _ wd_7_13) (fun _ h => h) rfl dX11_finding_2 ?_
  refine lv_iconst (v := 1) hx hb dX11_finding_5 (by decide) ?_
  refine lv_iadd hx hb dX11_finding_6 ?_
  refine va_put (ci := 11) (v := .int (fnd + 1)) (C := RX11) (T := TX11) (N := 7) hx hb hts inlX11 tyX11 tyX11_ok nmX11 hown hKW.1 hP hD hS 0 rfl rfl 6 (by decide) (hts _ wd_7_13) (fun _ h => h) rfl (tyX11_ok 6 (by decide)) rfl rfl (Nat.le_of_ble_eq_true rfl) dX11_finding_7 (fun H locs hP hD hS => ?_)
  have hP : va_P g.1 vwCl [(h, .inr (11, [.ref an, .ref ah, .ref ar, .ref ap, .ref as_, .ref at_, .int (fnd + 1)]))] H := hP
  have hD : va_D A [(h, .inr (11, [.ref an, .ref ah, .ref ar, .ref ap, .ref as_, .ref at_, .int (fnd + 1)]))] := hD
  refine lv_iload_n hx hb dX11_finding_10 rfl (lv_at hl 1 rfl) ?_
  exact k_iret () [] hx hb hr hlk hP hD hS rfl rfl rfl rfl (Nat.le_of_ble_eq_true rfl) (Nat.le_of_ble_eq_true rfl) dX11_finding_11
theorem dX12_finding_0 : decode cX12_finding 0 = .ok (.aload_n 0, 1) := by decide +kernel
theorem dX12_finding_1 : decode cX12_finding 1 = .ok (.dup, 1) := by decide +kernel
theorem dX12_finding_2 : decode cX12_finding 2 = .ok (.getfield 56, 3) := by decide +kernel
theorem dX12_finding_5 : decode cX12_finding 5 = .ok (.iconst 1, 1) := by decide +kernel
theorem dX12_finding_6 : decode cX12_finding 6 = .ok (.iadd, 1) := by decide +kernel
theorem dX12_finding_7 : decode cX12_finding 7 = .ok (.putfield 56, 3) := by decide +kernel
theorem dX12_finding_10 : decode cX12_finding 10 = .ok (.ldc 60, 2) := by decide +kernel
theorem dX12_finding_12 : decode cX12_finding 12 = .ok (.iload_n 1, 1) := by decide +kernel
theorem dX12_finding_13 : decode cX12_finding 13 = .ok (.isub, 1) := by decide +kernel
theorem dX12_finding_14 : decode cX12_finding 14 = .ok (.ireturn, 1) := by decide +kernel
set_option maxHeartbeats 4000000 in
set_option maxRecDepth 100000 in
theorem c_X12_finding_1 (l : Launch) (g : kG) (sz : Nat) (h : Nat) (m0 : Nat) (m1 : Nat) (m2 : Nat) (m3 : Nat) (m4 : Nat) (m5 : Nat) (m6 : Nat) (m7 : Nat) (m8 : Nat) (m9 : Nat) (m10 : Nat) (m11 : Nat) (m12 : Nat) (m13 : Nat) (m14 : Nat) (xkept : Int32) (xfindings : Int32) (xpiled : Int32) (xfewest : Int32) (xshiftMany : Int32) : kMi l g yX12_finding cX12_finding 2 (some .int) 1 0 0 [.ref h, .int 1] sz [(h, .inr (12, [.ref m0, .ref m1, .int xkept, .int xfindings, .ref m2, .ref m3, .ref m4, .ref m5, .int xpiled, .ref m6, .ref m7, .ref m8, .ref m9, .ref m10, .ref m11, .int xfewest, .ref m12, .ref m13, .int xshiftMany, .ref m14]))] (fun (r : Int32) (u : Unit) => r = (-100001)) (fun (u : Unit) => ([] : va_W)) := by
  refine kMi.of (by decide) (Nat.le_of_ble_eq_true rfl) (fun p e s m below meth c A hx hb hr hml hown hts hlk hnm hKW hP hD hS hA ls hl => ?_)
  have hown : s.vm.findClass RX12 = some m.cls := hown
  have hl : lv_has ls 2 [(0, .ref h), (1, .int 1)] := hl
  refine lv_aload_n hx hb dX12_finding_0 rfl (lv_at hl 0 rfl) ?_
  refine lv_dup hx hb dX12_finding_1 rfl ?_
  refine va_get (ci := 12) (C := RX12) (T := TX12) (N := 20) hx hb hts inlX12 hown hKW.1 hP 0 rfl rfl 3 (by decide) (hts _ wd_10_16) (fun _ h => h) rfl dX12_finding_2 ?_
  refine lv_iconst (v := 1) hx hb dX12_finding_5 (by decide) ?_
  refine lv_iadd hx hb dX12_finding_6 ?_
  refine va_put (ci := 12) (v := .int (xfindings + 1)) (C := RX12) (T := TX12) (N := 20) hx hb hts inlX12 tyX12 tyX12_ok nmX12 hown hKW.1 hP hD hS 0 rfl rfl 3 (by decide) (hts _ wd_10_16) (fun _ h => h) rfl (tyX12_ok 3 (by decide)) rfl rfl (Nat.le_of_ble_eq_true rfl) dX12_finding_7 (fun H locs hP hD hS => ?_)
  have hP : va_P g.1 vwCl [(h, .inr (12, [.ref m0, .ref m1, .int xkept, .int (xfindings + 1), .ref m2, .ref m3, .ref m4, .ref m5, .int xpiled, .ref m6, .ref m7, .ref m8, .ref m9, .ref m10, .ref m11, .int xfewest, .ref m12, .ref m13, .int xshiftMany, .ref m14]))] H := hP
  have hD : va_D A [(h, .inr (12, [.ref m0, .ref m1, .int xkept, .int (xfindings + 1), .ref m2, .ref m3, .ref m4, .ref m5, .int xpiled, .ref m6, .ref m7, .ref m8, .ref m9, .ref m10, .ref m11, .int xfewest, .ref m12, .ref m13, .int xshiftMany, .ref m14]))] := hD
  refine lv_ldc (v := (-100000)) hx hb hown (hts _ wd_10_17) dX12_finding_10 ?_
  refine lv_iload_n hx hb dX12_finding_12 rfl (lv_at hl 1 rfl) ?_
  refine lv_isub hx hb dX12_finding_13 ?_
  refine k_top (y := (-100001)) (by decide) ?_
  exact k_iret () [] hx hb hr hlk hP hD hS rfl rfl rfl rfl (Nat.le_of_ble_eq_true rfl) (Nat.le_of_ble_eq_true rfl) dX12_finding_14

set_option maxHeartbeats 4000000 in
set_option maxRecDepth 100000 in
theorem c_X12_finding_2 (l : Launch) (g : kG) (sz : Nat) (h : Nat) (m0 : Nat) (m1 : Nat) (m2 : Nat) (m3 : Nat) (m4 : Nat) (m5 : Nat) (m6 : Nat) (m7 : Nat) (m8 : Nat) (m9 : Nat) (m10 : Nat) (m11 : Nat) (m12 : Nat) (m13 : Nat) (m14 : Nat) (xkept : Int32) (xfindings : Int32) (xpiled : Int32) (xfewest : Int32) (xshiftMany : Int32) : kMi l g yX12_finding cX12_finding 2 (some .int) 1 0 0 [.ref h, .int 2] sz [(h, .inr (12, [.ref m0, .ref m1, .int xkept, .int xfindings, .ref m2, .ref m3, .ref m4, .ref m5, .int xpiled, .ref m6, .ref m7, .ref m8, .ref m9, .ref m10, .ref m11, .int xfewest, .ref m12, .ref m13, .int xshiftMany, .ref m14]))] (fun (r : Int32) (u : Unit) => r = (-100002)) (fun (u : Unit) => ([] : va_W)) := by
  refine kMi.of (by decide) (Nat.le_of_ble_eq_true rfl) (fun p e s m below meth c A hx hb hr hml hown hts hlk hnm hKW hP hD hS hA ls hl => ?_)
  have hown : s.vm.findClass RX12 = some m.cls := hown
  have hl : lv_has ls 2 [(0, .ref h), (1, .int 2)] := hl
  refine lv_aload_n hx hb dX12_finding_0 rfl (lv_at hl 0 rfl) ?_
  refine lv_dup hx hb dX12_finding_1 rfl ?_
  refine va_get (ci := 12) (C := RX12) (T := TX12) (N := 20) hx hb hts inlX12 hown hKW.1 hP 0 rfl rfl 3 (by decide) (hts _ wd_10_16) (fun _ h => h) rfl dX12_finding_2 ?_
  refine lv_iconst (v := 1) hx hb dX12_finding_5 (by decide) ?_
  refine lv_iadd hx hb dX12_finding_6 ?_
  refine va_put (ci := 12) (v := .int (xfindings + 1)) (C := RX12) (T := TX12) (N := 20) hx hb hts inlX12 tyX12 tyX12_ok nmX12 hown hKW.1 hP hD hS 0 rfl rfl 3 (by decide) (hts _ wd_10_16) (fun _ h => h) rfl (tyX12_ok 3 (by decide)) rfl rfl (Nat.le_of_ble_eq_true rfl) dX12_finding_7 (fun H locs hP hD hS => ?_)
  have hP : va_P g.1 vwCl [(h, .inr (12, [.ref m0, .ref m1, .int xkept, .int (xfindings + 1), .ref m2, .ref m3, .ref m4, .ref m5, .int xpiled, .ref m6, .ref m7, .ref m8, .ref m9, .ref m10, .ref m11, .int xfewest, .ref m12, .ref m13, .int xshiftMany, .ref m14]))] H := hP
  have hD : va_D A [(h, .inr (12, [.ref m0, .ref m1, .int xkept, .int (xfindings + 1), .ref m2, .ref m3, .ref m4, .ref m5, .int xpiled, .ref m6, .ref m7, .ref m8, .ref m9, .ref m10, .ref m11, .int xfewest, .ref m12, .ref m13, .int xshiftMany, .ref m14]))] := hD
  refine lv_ldc (v := (-100000)) hx hb hown (hts _ wd_10_17) dX12_finding_10 ?_
  refine lv_iload_n hx hb dX12_finding_12 rfl (lv_at hl 1 rfl) ?_
  refine lv_isub hx hb dX12_finding_13 ?_
  refine k_top (y := (-100002)) (by decide) ?_
  exact k_iret () [] hx hb hr hlk hP hD hS rfl rfl rfl rfl (Nat.le_of_ble_eq_true rfl) (Nat.le_of_ble_eq_true rfl) dX12_finding_14

set_option maxHeartbeats 4000000 in
set_option maxRecDepth 100000 in
theorem c_X12_finding_3 (l : Launch) (g : kG) (sz : Nat) (h : Nat) (m0 : Nat) (m1 : Nat) (m2 : Nat) (m3 : Nat) (m4 : Nat) (m5 : Nat) (m6 : Nat) (m7 : Nat) (m8 : Nat) (m9 : Nat) (m10 : Nat) (m11 : Nat) (m12 : Nat) (m13 : Nat) (m14 : Nat) (xkept : Int32) (xfindings : Int32) (xpiled : Int32) (xfewest : Int32) (xshiftMany : Int32) : kMi l g yX12_finding cX12_finding 2 (some .int) 1 0 0 [.ref h, .int 3] sz [(h, .inr (12, [.ref m0, .ref m1, .int xkept, .int xfindings, .ref m2, .ref m3, .ref m4, .ref m5, .int xpiled, .ref m6, .ref m7, .ref m8, .ref m9, .ref m10, .ref m11, .int xfewest, .ref m12, .ref m13, .int xshiftMany, .ref m14]))] (fun (r : Int32) (u : Unit) => r = (-100003)) (fun (u : Unit) => ([] : va_W)) := by
  refine kMi.of (by decide) (Nat.le_of_ble_eq_true rfl) (fun p e s m below meth c A hx hb hr hml hown hts hlk hnm hKW hP hD hS hA ls hl => ?_)
  have hown : s.vm.findClass RX12 = some m.cls := hown
  have hl : lv_has ls 2 [(0, .ref h), (1, .int 3)] := hl
  refine lv_aload_n hx hb dX12_finding_0 rfl (lv_at hl 0 rfl) ?_
  refine lv_dup hx hb dX12_finding_1 rfl ?_
  refine va_get (ci := 12) (C := RX12) (T := TX12) (N := 20) hx hb hts inlX12 hown hKW.1 hP 0 rfl rfl 3 (by decide) (hts _ wd_10_16) (fun _ h => h) rfl dX12_finding_2 ?_
  refine lv_iconst (v := 1) hx hb dX12_finding_5 (by decide) ?_
  refine lv_iadd hx hb dX12_finding_6 ?_
  refine va_put (ci := 12) (v := .int (xfindings + 1)) (C := RX12) (T := TX12) (N := 20) hx hb hts inlX12 tyX12 tyX12_ok nmX12 hown hKW.1 hP hD hS 0 rfl rfl 3 (by decide) (hts _ wd_10_16) (fun _ h => h) rfl (tyX12_ok 3 (by decide)) rfl rfl (Nat.le_of_ble_eq_true rfl) dX12_finding_7 (fun H locs hP hD hS => ?_)
  have hP : va_P g.1 vwCl [(h, .inr (12, [.ref m0, .ref m1, .int xkept, .int (xfindings + 1), .ref m2, .ref m3, .ref m4, .ref m5, .int xpiled, .ref m6, .ref m7, .ref m8, .ref m9, .ref m10, .ref m11, .int xfewest, .ref m12, .ref m13, .int xshiftMany, .ref m14]))] H := hP
  have hD : va_D A [(h, .inr (12, [.ref m0, .ref m1, .int xkept, .int (xfindings + 1), .ref m2, .ref m3, .ref m4, .ref m5, .int xpiled, .ref m6, .ref m7, .ref m8, .ref m9, .ref m10, .ref m11, .int xfewest, .ref m12, .ref m13, .int xshiftMany, .ref m14]))] := hD
  refine lv_ldc (v := (-100000)) hx hb hown (hts _ wd_10_17) dX12_finding_10 ?_
  refine lv_iload_n hx hb dX12_finding_12 rfl (lv_at hl 1 rfl) ?_
  refine lv_isub hx hb dX12_finding_13 ?_
  refine k_top (y := (-100003)) (by decide) ?_
  exact k_iret () [] hx hb hr hlk hP hD hS rfl rfl rfl rfl (Nat.le_of_ble_eq_true rfl) (Nat.le_of_ble_eq_true rfl) dX12_finding_14

set_option maxHeartbeats 4000000 in
set_option maxRecDepth 100000 in
theorem c_X12_finding_6 (l : Launch) (g : kG) (sz : Nat) (h : Nat) (m0 : Nat) (m1 : Nat) (m2 : Nat) (m3 : Nat) (m4 : Nat) (m5 : Nat) (m6 : Nat) (m7 : Nat) (m8 : Nat) (m9 : Nat) (m10 : Nat) (m11 : Nat) (m12 : Nat) (m13 : Nat) (m14 : Nat) (xkept : Int32) (xfindings : Int32) (xpiled : Int32) (xfewest : Int32) (xshiftMany : Int32) : kMi l g yX12_finding cX12_finding 2 (some .int) 1 0 0 [.ref h, .int 6] sz [(h, .inr (12, [.ref m0, .ref m1, .int xkept, .int xfindings, .ref m2, .ref m3, .ref m4, .ref m5, .int xpiled, .ref m6, .ref m7, .ref m8, .ref m9, .ref m10, .ref m11, .int xfewest, .ref m12, .ref m13, .int xshiftMany, .ref m14]))] (fun (r : Int32) (u : Unit) => r = (-100006)) (fun (u : Unit) => ([] : va_W)) := by
  refine kMi.of (by decide) (Nat.le_of_ble_eq_true rfl) (fun p e s m below meth c A hx hb hr hml hown hts hlk hnm hKW hP hD hS hA ls hl => ?_)
  have hown : s.vm.findClass RX12 = some m.cls := hown
  have hl : lv_has ls 2 [(0, .ref h), (1, .int 6)] := hl
  refine lv_aload_n hx hb dX12_finding_0 rfl (lv_at hl 0 rfl) ?_
  refine lv_dup hx hb dX12_finding_1 rfl ?_
  refine va_get (ci := 12) (C := RX12) (T := TX12) (N := 20) hx hb hts inlX12 hown hKW.1 hP 0 rfl rfl 3 (by decide) (hts _ wd_10_16) (fun _ h => h) rfl dX12_finding_2 ?_
  refine lv_iconst (v := 1) hx hb dX12_finding_5 (by decide) ?_
  refine lv_iadd hx hb dX12_finding_6 ?_
  refine va_put (ci := 12) (v := .int (xfindings + 1)) (C := RX12) (T := TX12) (N := 20) hx hb hts inlX12 tyX12 tyX12_ok nmX12 hown hKW.1 hP hD hS 0 rfl rfl 3 (by decide) (hts _ wd_10_16) (fun _ h => h) rfl (tyX12_ok 3 (by decide)) rfl rfl (Nat.le_of_ble_eq_true rfl) dX12_finding_7 (fun H locs hP hD hS => ?_)
  have hP : va_P g.1 vwCl [(h, .inr (12, [.ref m0, .ref m1, .int xkept, .int (xfindings + 1), .ref m2, .ref m3, .ref m4, .ref m5, .int xpiled, .ref m6, .ref m7, .ref m8, .ref m9, .ref m10, .ref m11, .int xfewest, .ref m12, .ref m13, .int xshiftMany, .ref m14]))] H := hP
  have hD : va_D A [(h, .inr (12, [.ref m0, .ref m1, .int xkept, .int (xfindings + 1), .ref m2, .ref m3, .ref m4, .ref m5, .int xpiled, .ref m6, .ref m7, .ref m8, .ref m9, .ref m10, .ref m11, .int xfewest, .ref m12, .ref m13, .int xshiftMany, .ref m14]))] := hD
  refine lv_ldc (v := (-100000)) hx hb hown (hts _ wd_10_17) dX12_finding_10 ?_
  refine lv_iload_n hx hb dX12_finding_12 rfl (lv_at hl 1 rfl) ?_
  refine lv_isub hx hb dX12_finding_13 ?_
  refine k_top (y := (-100006)) (by decide) ?_
  exact k_iret () [] hx hb hr hlk hP hD hS rfl rfl rfl rfl (Nat.le_of_ble_eq_true rfl) (Nat.le_of_ble_eq_true rfl) dX12_finding_14
theorem dX0_has_0 : decode cX0_has 0 = .ok (.iload_n 1, 1) := by decide +kernel
theorem dX0_has_1 : decode cX0_has 1 = .ok (.ifCond .lt 15, 3) := by decide +kernel
theorem dX0_has_16 : decode cX0_has 16 = .ok (.iconst 0, 1) := by decide +kernel
theorem dX0_has_17 : decode cX0_has 17 = .ok (.ireturn, 1) := by decide +kernel
theorem dX0_has_4 : decode cX0_has 4 = .ok (.iload_n 1, 1) := by decide +kernel
theorem dX0_has_5 : decode cX0_has 5 = .ok (.aload_n 0, 1) := by decide +kernel
theorem dX0_has_6 : decode cX0_has 6 = .ok (.getfield 36, 3) := by decide +kernel
theorem dX0_has_9 : decode cX0_has 9 = .ok (.if_icmp .ge 7, 3) := by decide +kernel
theorem dX0_has_12 : decode cX0_has 12 = .ok (.iconst 1, 1) := by decide +kernel
theorem dX0_has_13 : decode cX0_has 13 = .ok (.goto 4, 3) := by decide +kernel
set_option maxHeartbeats 4000000 in
set_option maxRecDepth 100000 in
theorem c_X0_has0 (l : Launch) (g : kG) (sz : Nat) (h : Nat) (b0 : Nat) (b1 : Nat) (b2 : Nat) (b3 : Nat) (b4 : Nat) (b5 : Nat) (b6 : Nat) (b7 : Nat) (xa : Int32) (xd : Int32) (xw : Int32) (v : Int32) : kMi l g yX0_has cX0_has 2 (some .boolean) 1 0 0 [.ref h, .int v] sz [(h, .inr (0, [.int 0, .ref b0, .ref b1, .ref b2, .ref b3, .ref b4, .ref b5, .ref b6, .int xa, .int xd, .int xw, .ref b7]))] (fun (r : Int32) (u : Unit) => r = 0) (fun (u : Unit) => ([] : va_W)) := by
  refine kMi.of (by decide) (Nat.le_of_ble_eq_true rfl) (fun p e s m below meth c A hx hb hr hml hown hts hlk hnm hKW hP hD hS hA ls hl => ?_)
  have hown : s.vm.findClass RX0 = some m.cls := hown
  have hl : lv_has ls 2 [(0, .ref h), (1, .int v)] := hl
  refine lv_iload_n hx hb dX0_has_0 rfl (lv_at hl 1 rfl) ?_
  refine lv_if_lt (tgt := 16) hx hb dX0_has_1 (by decide) (fun c_1 => ?_) (fun c_1 => ?_)
  · refine lv_iconst (v := 0) hx hb dX0_has_16 (by decide) ?_
    exact k_zret () [] hx hb hr hlk hP hD hS (by clear hP hD hS hA hts hKW hl; first | rfl | (exfalso; (simp only [Int32.lt_iff_toInt_lt, Int32.le_iff_toInt_le, ← Int32.toInt_inj] at *; simp at *; omega))) rfl rfl rfl rfl (Nat.le_of_ble_eq_true rfl) (Nat.le_of_ble_eq_true rfl) dX0_has_17
  · refine lv_iload_n hx hb dX0_has_4 rfl (lv_at hl 1 rfl) ?_
    refine lv_aload_n hx hb dX0_has_5 rfl (lv_at hl 0 rfl) ?_
    refine va_get (ci := 0) (C := RX0) (T := TX0) (N := 12) hx hb hts inlX0 hown hKW.1 hP 0 rfl rfl 0 (by decide) (hts _ wd_9_7) (fun _ h => h) rfl dX0_has_6 ?_
    refine lv_icmp_ge (tgt := 16) hx hb dX0_has_9 (by decide) (fun c_2 => ?_) (fun c_2 => ?_)
    · refine lv_iconst (v := 0) hx hb dX0_has_16 (by decide) ?_
      exact k_zret () [] hx hb hr hlk hP hD hS (by clear hP hD hS hA hts hKW hl; first | rfl | (exfalso; (simp only [Int32.lt_iff_toInt_lt, Int32.le_iff_toInt_le, ← Int32.toInt_inj] at *; simp at *; omega))) rfl rfl rfl rfl (Nat.le_of_ble_eq_true rfl) (Nat.le_of_ble_eq_true rfl) dX0_has_17
    · refine lv_iconst (v := 1) hx hb dX0_has_12 (by decide) ?_
      refine lv_goto (tgt := 17) hx hb dX0_has_13 (by decide) ?_
      exact k_zret () [] hx hb hr hlk hP hD hS (by clear hP hD hS hA hts hKW hl; first | rfl | (exfalso; (simp only [Int32.lt_iff_toInt_lt, Int32.le_iff_toInt_le, ← Int32.toInt_inj] at *; simp at *; omega))) rfl rfl rfl rfl (Nat.le_of_ble_eq_true rfl) (Nat.le_of_ble_eq_true rfl) dX0_has_17
theorem dX1_has_0 : decode cX1_has 0 = .ok (.iload_n 1, 1) := by decide +kernel
theorem dX1_has_1 : decode cX1_has 1 = .ok (.ifCond .lt 15, 3) := by decide +kernel
theorem dX1_has_16 : decode cX1_has 16 = .ok (.iconst 0, 1) := by decide +kernel
theorem dX1_has_17 : decode cX1_has 17 = .ok (.ireturn, 1) := by decide +kernel
theorem dX1_has_4 : decode cX1_has 4 = .ok (.iload_n 1, 1) := by decide +kernel
theorem dX1_has_5 : decode cX1_has 5 = .ok (.aload_n 0, 1) := by decide +kernel
theorem dX1_has_6 : decode cX1_has 6 = .ok (.getfield 18, 3) := by decide +kernel
theorem dX1_has_9 : decode cX1_has 9 = .ok (.if_icmp .ge 7, 3) := by decide +kernel
theorem dX1_has_12 : decode cX1_has 12 = .ok (.iconst 1, 1) := by decide +kernel
theorem dX1_has_13 : decode cX1_has 13 = .ok (.goto 4, 3) := by decide +kernel
set_option maxHeartbeats 4000000 in
set_option maxRecDepth 100000 in
theorem c_X1_has0 (l : Launch) (g : kG) (sz : Nat) (h : Nat) (b0 : Nat) (b1 : Nat) (xi : Int32) (v : Int32) : kMi l g yX1_has cX1_has 2 (some .boolean) 1 0 0 [.ref h, .int v] sz [(h, .inr (1, [.int 0, .ref b0, .ref b1, .int xi]))] (fun (r : Int32) (u : Unit) => r = 0) (fun (u : Unit) => ([] : va_W)) := by
  refine kMi.of (by decide) (Nat.le_of_ble_eq_true rfl) (fun p e s m below meth c A hx hb hr hml hown hts hlk hnm hKW hP hD hS hA ls hl => ?_)
  have hown : s.vm.findClass RX1 = some m.cls := hown
  have hl : lv_has ls 2 [(0, .ref h), (1, .int v)] := hl
  refine lv_iload_n hx hb dX1_has_0 rfl (lv_at hl 1 rfl) ?_
  refine lv_if_lt (tgt := 16) hx hb dX1_has_1 (by decide) (fun c_1 => ?_) (fun c_1 => ?_)
  · refine lv_iconst (v := 0) hx hb dX1_has_16 (by decide) ?_
    exact k_zret () [] hx hb hr hlk hP hD hS (by clear hP hD hS hA hts hKW hl; first | rfl | (exfalso; (simp only [Int32.lt_iff_toInt_lt, Int32.le_iff_toInt_le, ← Int32.toInt_inj] at *; simp at *; omega))) rfl rfl rfl rfl (Nat.le_of_ble_eq_true rfl) (Nat.le_of_ble_eq_true rfl) dX1_has_17
  · refine lv_iload_n hx hb dX1_has_4 rfl (lv_at hl 1 rfl) ?_
    refine lv_aload_n hx hb dX1_has_5 rfl (lv_at hl 0 rfl) ?_
    refine va_get (ci := 1) (C := RX1) (T := TX1) (N := 4) hx hb hts inlX1 hown hKW.1 hP 0 rfl rfl 0 (by decide) (hts _ wd_9_0) (fun _ h => h) rfl dX1_has_6 ?_
    refine lv_icmp_ge (tgt := 16) hx hb dX1_has_9 (by decide) (fun c_2 => ?_) (fun c_2 => ?_)
    · refine lv_iconst (v := 0) hx hb dX1_has_16 (by decide) ?_
      exact k_zret () [] hx hb hr hlk hP hD hS (by clear hP hD hS hA hts hKW hl; first | rfl | (exfalso; (simp only [Int32.lt_iff_toInt_lt, Int32.le_iff_toInt_le, ← Int32.toInt_inj] at *; simp at *; omega))) rfl rfl rfl rfl (Nat.le_of_ble_eq_true rfl) (Nat.le_of_ble_eq_true rfl) dX1_has_17
    · refine lv_iconst (v := 1) hx hb dX1_has_12 (by decide) ?_
      refine lv_goto (tgt := 17) hx hb dX1_has_13 (by decide) ?_
      exact k_zret () [] hx hb hr hlk hP hD hS (by clear hP hD hS hA hts hKW hl; first | rfl | (exfalso; (simp only [Int32.lt_iff_toInt_lt, Int32.le_iff_toInt_le, ← Int32.toInt_inj] at *; simp at *; omega))) rfl rfl rfl rfl (Nat.le_of_ble_eq_true rfl) (Nat.le_of_ble_eq_true rfl) dX1_has_17
theorem dX8_has_0 : decode cX8_has 0 = .ok (.iload_n 1, 1) := by decide +kernel
theorem dX8_has_1 : decode cX8_has 1 = .ok (.ifCond .lt 15, 3) := by decide +kernel
theorem dX8_has_16 : decode cX8_has 16 = .ok (.iconst 0, 1) := by decide +kernel
theorem dX8_has_17 : decode cX8_has 17 = .ok (.ireturn, 1) := by decide +kernel
theorem dX8_has_4 : decode cX8_has 4 = .ok (.iload_n 1, 1) := by decide +kernel
theorem dX8_has_5 : decode cX8_has 5 = .ok (.aload_n 0, 1) := by decide +kernel
theorem dX8_has_6 : decode cX8_has 6 = .ok (.getfield 21, 3) := by decide +kernel
theorem dX8_has_9 : decode cX8_has 9 = .ok (.if_icmp .ge 7, 3) := by decide +kernel
theorem dX8_has_12 : decode cX8_has 12 = .ok (.iconst 1, 1) := by decide +kernel
theorem dX8_has_13 : decode cX8_has 13 = .ok (.goto 4, 3) := by decide +kernel
set_option maxHeartbeats 4000000 in
set_option maxRecDepth 100000 in
theorem c_X8_has0 (l : Launch) (g : kG) (sz : Nat) (h : Nat) (b0 : Nat) (b1 : Nat) (b2 : Nat) (v : Int32) : kMi l g yX8_has cX8_has 2 (some .boolean) 1 0 0 [.ref h, .int v] sz [(h, .inr (8, [.int 0, .ref b0, .ref b1, .ref b2]))] (fun (r : Int32) (u : Unit) => r = 0) (fun (u : Unit) => ([] : va_W)) := by
  refine kMi.of (by decide) (Nat.le_of_ble_eq_true rfl) (fun p e s m below meth c A hx hb hr hml hown hts hlk hnm hKW hP hD hS hA ls hl => ?_)
  have hown : s.vm.findClass RX8 = some m.cls := hown
  have hl : lv_has ls 2 [(0, .ref h), (1, .int v)] := hl
  refine lv_iload_n hx hb dX8_has_0 rfl (lv_at hl 1 rfl) ?_
  refine lv_if_lt (tgt := 16) hx hb dX8_has_1 (by decide) (fun c_1 => ?_) (fun c_1 => ?_)
  · refine lv_iconst (v := 0) hx hb dX8_has_16 (by decide) ?_
    exact k_zret () [] hx hb hr hlk hP hD hS (by clear hP hD hS hA hts hKW hl; first | rfl | (exfalso; (simp only [Int32.lt_iff_toInt_lt, Int32.le_iff_toInt_le, ← Int32.toInt_inj] at *; simp at *; omega))) rfl rfl rfl rfl (Nat.le_of_ble_eq_true rfl) (Nat.le_of_ble_eq_true rfl) dX8_has_17
  · refine lv_iload_n hx hb dX8_has_4 rfl (lv_at hl 1 rfl) ?_
    refine lv_aload_n hx hb dX8_has_5 rfl (lv_at hl 0 rfl) ?_
    refine va_get (ci := 8) (C := RX8) (T := TX8) (N := 4) hx hb hts inlX8 hown hKW.1 hP 0 rfl rfl 0 (by decide) (hts _ wd_8_18) (fun _ h => h) rfl dX8_has_6 ?_
    refine lv_icmp_ge (tgt := 16) hx hb dX8_has_9 (by decide) (fun c_2 => ?_) (fun c_2 => ?_)
    · refine lv_iconst (v := 0) hx hb dX8_has_16 (by decide) ?_
      exact k_zret () [] hx hb hr hlk hP hD hS (by clear hP hD hS hA hts hKW hl; first | rfl | (exfalso; (simp only [Int32.lt_iff_toInt_lt, Int32.le_iff_toInt_le, ← Int32.toInt_inj] at *; simp at *; omega))) rfl rfl rfl rfl (Nat.le_of_ble_eq_true rfl) (Nat.le_of_ble_eq_true rfl) dX8_has_17
    · refine lv_iconst (v := 1) hx hb dX8_has_12 (by decide) ?_
      refine lv_goto (tgt := 17) hx hb dX8_has_13 (by decide) ?_
      exact k_zret () [] hx hb hr hlk hP hD hS (by clear hP hD hS hA hts hKW hl; first | rfl | (exfalso; (simp only [Int32.lt_iff_toInt_lt, Int32.le_iff_toInt_le, ← Int32.toInt_inj] at *; simp at *; omega))) rfl rfl rfl rfl (Nat.le_of_ble_eq_true rfl) (Nat.le_of_ble_eq_true rfl) dX8_has_17
theorem dX12_isRoom_0 : decode cX12_isRoom 0 = .ok (.iload_n 1, 1) := by decide +kernel
theorem dX12_isRoom_1 : decode cX12_isRoom 1 = .ok (.iconst 0, 1) := by decide +kernel
theorem dX12_isRoom_2 : decode cX12_isRoom 2 = .ok (.aload_n 0, 1) := by decide +kernel
theorem dX12_isRoom_3 : decode cX12_isRoom 3 = .ok (.getfield 7, 3) := by decide +kernel
theorem dX12_isRoom_6 : decode cX12_isRoom 6 = .ok (.iconst 0, 1) := by decide +kernel
theorem dX12_isRoom_7 : decode cX12_isRoom 7 = .ok (.iaload, 1) := by decide +kernel
theorem dX12_isRoom_8 : decode cX12_isRoom 8 = .ok (.iconst 1, 1) := by decide +kernel
theorem dX12_isRoom_9 : decode cX12_isRoom 9 = .ok (.isub, 1) := by decide +kernel
theorem dX12_isRoom_10 : decode cX12_isRoom 10 = .ok (.invokestatic 64, 3) := by decide +kernel
theorem dX12_isRoom_13 : decode cX12_isRoom 13 = .ok (.ireturn, 1) := by decide +kernel
set_option maxHeartbeats 4000000 in
set_option maxRecDepth 100000 in
theorem c_X12_isRoom0 (l : Launch) (g : kG) (sz : Nat) (h : Nat) (m0 : Nat) (m1 : Nat) (m2 : Nat) (m3 : Nat) (m4 : Nat) (m5 : Nat) (m6 : Nat) (m7 : Nat) (m8 : Nat) (m9 : Nat) (m10 : Nat) (m11 : Nat) (m12 : Nat) (m13 : Nat) (m14 : Nat) (xkept : Int32) (xfindings : Int32) (xpiled : Int32) (xfewest : Int32) (xshiftMany : Int32) (v : Int32) : kMi l g yX12_isRoom cX12_isRoom 2 (some .boolean) 2 0 0 [.ref h, .int v] sz [(h, .inr (12, [.ref m0, .ref m1, .int xkept, .int xfindings, .ref m2, .ref m3, .ref m4, .ref m5, .int xpiled, .ref m6, .ref m7, .ref m8, .ref m9, .ref m10, .ref m11, .int xfewest, .ref m12, .ref m13, .int xshiftMany, .ref m14])), (m0, .inl (gI g, 461, .inl mD0))] (fun (r : Int32) (u : Unit) => r = 0) (fun (u : Unit) => ([(h, .inr (12, [.ref m0, .ref m1, .int xkept, .int xfindings, .ref m2, .ref m3, .ref m4, .ref m5, .int xpiled, .ref m6, .ref m7, .ref m8, .ref m9, .ref m10, .ref m11, .int xfewest, .ref m12, .ref m13, .int xshiftMany, .ref m14])), (m0, .inl (gI g, 461, .inl mD0))] : va_W)) := by
  refine kMi.of (by decide) (Nat.le_of_ble_eq_true rfl) (fun p e s m below meth c A hx hb hr hml hown hts hlk hnm hKW hP hD hS hA ls hl => ?_)
  have hown : s.vm.findClass RX12 = some m.cls := hown
  have hl : lv_has ls 2 [(0, .ref h), (1, .int v)] := hl
  refine lv_iload_n hx hb dX12_isRoom_0 rfl (lv_at hl 1 rfl) ?_
  refine lv_iconst (v := 0) hx hb dX12_isRoom_1 (by decide) ?_
  refine lv_aload_n hx hb dX12_isRoom_2 rfl (lv_at hl 0 rfl) ?_
  refine va_get (ci := 12) (C := RX12) (T := TX12) (N := 20) hx hb hts inlX12 hown hKW.1 hP 0 rfl rfl 0 (by decide) (hts _ wd_6_5) (fun _ h => h) rfl dX12_isRoom_3 ?_
  refine lv_iconst (v := 0) hx hb dX12_isRoom_6 (by decide) ?_
  refine va_iald hx hb hKW.1 hP 1 0 rfl rfl (show ¬ _ by decide) dX12_isRoom_7 ?_
  refine k_top (y := mD0 0) rfl ?_
  refine k_top (y := 0) rfl ?_
  refine lv_iconst (v := 1) hx hb dX12_isRoom_8 (by decide) ?_
  refine lv_isub hx hb dX12_isRoom_9 ?_
  refine k_top (y := (-1)) (by decide) ?_
  refine k_Si [] [0, 1] (wr := [(h, .inr (12, [.ref m0, .ref m1, .int xkept, .int xfindings, .ref m2, .ref m3, .ref m4, .ref m5, .int xpiled, .ref m6, .ref m7, .ref m8, .ref m9, .ref m10, .ref m11, .int xfewest, .ref m12, .ref m13, .int xshiftMany, .ref m14])), (m0, .inl (gI g, 461, .inl mD0))]) hx hb hml hown hts hKW hP hD hS hA hl.1 (c_X12_isIn l g _ v 0 (-1) ) wd_10_11 wd_1_5 wd_10_9 wd_10_10 yd_X12_isIn ⟨Nat.le_of_ble_eq_true rfl, Nat.le_of_ble_eq_true rfl⟩ rfl rfl rfl rfl rfl (by decide) rfl (Nat.le_of_ble_eq_true rfl) dX12_isRoom_10 ⟨Nat.le_of_ble_eq_true rfl, Nat.le_of_ble_eq_true rfl⟩ (fun r_1 u_2 H locs hw_3 hP hD hS => ?_)
  have hP : va_P g.1 vwCl [(h, .inr (12, [.ref m0, .ref m1, .int xkept, .int xfindings, .ref m2, .ref m3, .ref m4, .ref m5, .int xpiled, .ref m6, .ref m7, .ref m8, .ref m9, .ref m10, .ref m11, .int xfewest, .ref m12, .ref m13, .int xshiftMany, .ref m14])), (m0, .inl (gI g, 461, .inl mD0))] H := hP
  have hD : va_D A [(h, .inr (12, [.ref m0, .ref m1, .int xkept, .int xfindings, .ref m2, .ref m3, .ref m4, .ref m5, .int xpiled, .ref m6, .ref m7, .ref m8, .ref m9, .ref m10, .ref m11, .int xfewest, .ref m12, .ref m13, .int xshiftMany, .ref m14])), (m0, .inl (gI g, 461, .inl mD0))] := hD
  rcases (show (r_1 = 1 ∧ (Int32.toInt 0 ≤ Int32.toInt v ∧ Int32.toInt v ≤ Int32.toInt (-1))) ∨ (r_1 = 0 ∧ ¬ (Int32.toInt 0 ≤ Int32.toInt v ∧ Int32.toInt v ≤ Int32.toInt (-1))) from hw_3) with ⟨rfl, hw_3⟩ | ⟨rfl, hw_3⟩
  · exact k_zret () [0, 1] hx hb hr hlk hP hD hS (by clear hP hD hS hA hts hKW hl; first | rfl | (exfalso; (simp only [Int32.lt_iff_toInt_lt, Int32.le_iff_toInt_le, ← Int32.toInt_inj] at *; simp at *; omega))) rfl rfl rfl rfl (Nat.le_of_ble_eq_true rfl) (Nat.le_of_ble_eq_true rfl) dX12_isRoom_13
  · exact k_zret () [0, 1] hx hb hr hlk hP hD hS (by clear hP hD hS hA hts hKW hl; first | rfl | (exfalso; (simp only [Int32.lt_iff_toInt_lt, Int32.le_iff_toInt_le, ← Int32.toInt_inj] at *; simp at *; omega))) rfl rfl rfl rfl (Nat.le_of_ble_eq_true rfl) (Nat.le_of_ble_eq_true rfl) dX12_isRoom_13
theorem dX12_isHand_0 : decode cX12_isHand 0 = .ok (.iload_n 1, 1) := by decide +kernel
theorem dX12_isHand_1 : decode cX12_isHand 1 = .ok (.iconst 0, 1) := by decide +kernel
theorem dX12_isHand_2 : decode cX12_isHand 2 = .ok (.aload_n 0, 1) := by decide +kernel
theorem dX12_isHand_3 : decode cX12_isHand 3 = .ok (.getfield 7, 3) := by decide +kernel
theorem dX12_isHand_6 : decode cX12_isHand 6 = .ok (.iconst 1, 1) := by decide +kernel
theorem dX12_isHand_7 : decode cX12_isHand 7 = .ok (.iaload, 1) := by decide +kernel
theorem dX12_isHand_8 : decode cX12_isHand 8 = .ok (.iconst 1, 1) := by decide +kernel
theorem dX12_isHand_9 : decode cX12_isHand 9 = .ok (.isub, 1) := by decide +kernel
theorem dX12_isHand_10 : decode cX12_isHand 10 = .ok (.invokestatic 64, 3) := by decide +kernel
theorem dX12_isHand_13 : decode cX12_isHand 13 = .ok (.ireturn, 1) := by decide +kernel
set_option maxHeartbeats 4000000 in
set_option maxRecDepth 100000 in
theorem c_X12_isHand0 (l : Launch) (g : kG) (sz : Nat) (h : Nat) (m0 : Nat) (m1 : Nat) (m2 : Nat) (m3 : Nat) (m4 : Nat) (m5 : Nat) (m6 : Nat) (m7 : Nat) (m8 : Nat) (m9 : Nat) (m10 : Nat) (m11 : Nat) (m12 : Nat) (m13 : Nat) (m14 : Nat) (xkept : Int32) (xfindings : Int32) (xpiled : Int32) (xfewest : Int32) (xshiftMany : Int32) (v : Int32) : kMi l g yX12_isHand cX12_isHand 2 (some .boolean) 2 0 0 [.ref h, .int v] sz [(h, .inr (12, [.ref m0, .ref m1, .int xkept, .int xfindings, .ref m2, .ref m3, .ref m4, .ref m5, .int xpiled, .ref m6, .ref m7, .ref m8, .ref m9, .ref m10, .ref m11, .int xfewest, .ref m12, .ref m13, .int xshiftMany, .ref m14])), (m0, .inl (gI g, 461, .inl mD0))] (fun (r : Int32) (u : Unit) => r = 0) (fun (u : Unit) => ([(h, .inr (12, [.ref m0, .ref m1, .int xkept, .int xfindings, .ref m2, .ref m3, .ref m4, .ref m5, .int xpiled, .ref m6, .ref m7, .ref m8, .ref m9, .ref m10, .ref m11, .int xfewest, .ref m12, .ref m13, .int xshiftMany, .ref m14])), (m0, .inl (gI g, 461, .inl mD0))] : va_W)) := by
  refine kMi.of (by decide) (Nat.le_of_ble_eq_true rfl) (fun p e s m below meth c A hx hb hr hml hown hts hlk hnm hKW hP hD hS hA ls hl => ?_)
  have hown : s.vm.findClass RX12 = some m.cls := hown
  have hl : lv_has ls 2 [(0, .ref h), (1, .int v)] := hl
  refine lv_iload_n hx hb dX12_isHand_0 rfl (lv_at hl 1 rfl) ?_
  refine lv_iconst (v := 0) hx hb dX12_isHand_1 (by decide) ?_
  refine lv_aload_n hx hb dX12_isHand_2 rfl (lv_at hl 0 rfl) ?_
  refine va_get (ci := 12) (C := RX12) (T := TX12) (N := 20) hx hb hts inlX12 hown hKW.1 hP 0 rfl rfl 0 (by decide) (hts _ wd_6_5) (fun _ h => h) rfl dX12_isHand_3 ?_
  refine lv_iconst (v := 1) hx hb dX12_isHand_6 (by decide) ?_
  refine va_iald hx hb hKW.1 hP 1 0 rfl rfl (show ¬ _ by decide) dX12_isHand_7 ?_
  refine k_top (y := mD0 1) rfl ?_
  refine k_top (y := 0) rfl ?_
  refine lv_iconst (v := 1) hx hb dX12_isHand_8 (by decide) ?_
  refine lv_isub hx hb dX12_isHand_9 ?_
  refine k_top (y := (-1)) (by decide) ?_
  refine k_Si [] [0, 1] (wr := [(h, .inr (12, [.ref m0, .ref m1, .int xkept, .int xfindings, .ref m2, .ref m3, .ref m4, .ref m5, .int xpiled, .ref m6, .ref m7, .ref m8, .ref m9, .ref m10, .ref m11, .int xfewest, .ref m12, .ref m13, .int xshiftMany, .ref m14])), (m0, .inl (gI g, 461, .inl mD0))]) hx hb hml hown hts hKW hP hD hS hA hl.1 (c_X12_isIn l g _ v 0 (-1) ) wd_10_11 wd_1_5 wd_10_9 wd_10_10 yd_X12_isIn ⟨Nat.le_of_ble_eq_true rfl, Nat.le_of_ble_eq_true rfl⟩ rfl rfl rfl rfl rfl (by decide) rfl (Nat.le_of_ble_eq_true rfl) dX12_isHand_10 ⟨Nat.le_of_ble_eq_true rfl, Nat.le_of_ble_eq_true rfl⟩ (fun r_1 u_2 H locs hw_3 hP hD hS => ?_)
  have hP : va_P g.1 vwCl [(h, .inr (12, [.ref m0, .ref m1, .int xkept, .int xfindings, .ref m2, .ref m3, .ref m4, .ref m5, .int xpiled, .ref m6, .ref m7, .ref m8, .ref m9, .ref m10, .ref m11, .int xfewest, .ref m12, .ref m13, .int xshiftMany, .ref m14])), (m0, .inl (gI g, 461, .inl mD0))] H := hP
  have hD : va_D A [(h, .inr (12, [.ref m0, .ref m1, .int xkept, .int xfindings, .ref m2, .ref m3, .ref m4, .ref m5, .int xpiled, .ref m6, .ref m7, .ref m8, .ref m9, .ref m10, .ref m11, .int xfewest, .ref m12, .ref m13, .int xshiftMany, .ref m14])), (m0, .inl (gI g, 461, .inl mD0))] := hD
  rcases (show (r_1 = 1 ∧ (Int32.toInt 0 ≤ Int32.toInt v ∧ Int32.toInt v ≤ Int32.toInt (-1))) ∨ (r_1 = 0 ∧ ¬ (Int32.toInt 0 ≤ Int32.toInt v ∧ Int32.toInt v ≤ Int32.toInt (-1))) from hw_3) with ⟨rfl, hw_3⟩ | ⟨rfl, hw_3⟩
  · exact k_zret () [0, 1] hx hb hr hlk hP hD hS (by clear hP hD hS hA hts hKW hl; first | rfl | (exfalso; (simp only [Int32.lt_iff_toInt_lt, Int32.le_iff_toInt_le, ← Int32.toInt_inj] at *; simp at *; omega))) rfl rfl rfl rfl (Nat.le_of_ble_eq_true rfl) (Nat.le_of_ble_eq_true rfl) dX12_isHand_13
  · exact k_zret () [0, 1] hx hb hr hlk hP hD hS (by clear hP hD hS hA hts hKW hl; first | rfl | (exfalso; (simp only [Int32.lt_iff_toInt_lt, Int32.le_iff_toInt_le, ← Int32.toInt_inj] at *; simp at *; omega))) rfl rfl rfl rfl (Nat.le_of_ble_eq_true rfl) (Nat.le_of_ble_eq_true rfl) dX12_isHand_13
theorem dX12_isChild_0 : decode cX12_isChild 0 = .ok (.iload_n 1, 1) := by decide +kernel
theorem dX12_isChild_1 : decode cX12_isChild 1 = .ok (.iconst 0, 1) := by decide +kernel
theorem dX12_isChild_2 : decode cX12_isChild 2 = .ok (.aload_n 0, 1) := by decide +kernel
theorem dX12_isChild_3 : decode cX12_isChild 3 = .ok (.getfield 7, 3) := by decide +kernel
theorem dX12_isChild_6 : decode cX12_isChild 6 = .ok (.iconst 2, 1) := by decide +kernel
theorem dX12_isChild_7 : decode cX12_isChild 7 = .ok (.iaload, 1) := by decide +kernel
theorem dX12_isChild_8 : decode cX12_isChild 8 = .ok (.iconst 1, 1) := by decide +kernel
theorem dX12_isChild_9 : decode cX12_isChild 9 = .ok (.isub, 1) := by decide +kernel
theorem dX12_isChild_10 : decode cX12_isChild 10 = .ok (.invokestatic 64, 3) := by decide +kernel
theorem dX12_isChild_13 : decode cX12_isChild 13 = .ok (.ireturn, 1) := by decide +kernel
set_option maxHeartbeats 4000000 in
set_option maxRecDepth 100000 in
theorem c_X12_isChild0 (l : Launch) (g : kG) (sz : Nat) (h : Nat) (m0 : Nat) (m1 : Nat) (m2 : Nat) (m3 : Nat) (m4 : Nat) (m5 : Nat) (m6 : Nat) (m7 : Nat) (m8 : Nat) (m9 : Nat) (m10 : Nat) (m11 : Nat) (m12 : Nat) (m13 : Nat) (m14 : Nat) (xkept : Int32) (xfindings : Int32) (xpiled : Int32) (xfewest : Int32) (xshiftMany : Int32) (v : Int32) : kMi l g yX12_isChild cX12_isChild 2 (some .boolean) 2 0 0 [.ref h, .int v] sz [(h, .inr (12, [.ref m0, .ref m1, .int xkept, .int xfindings, .ref m2, .ref m3, .ref m4, .ref m5, .int xpiled, .ref m6, .ref m7, .ref m8, .ref m9, .ref m10, .ref m11, .int xfewest, .ref m12, .ref m13, .int xshiftMany, .ref m14])), (m0, .inl (gI g, 461, .inl mD0))] (fun (r : Int32) (u : Unit) => r = 0) (fun (u : Unit) => ([(h, .inr (12, [.ref m0, .ref m1, .int xkept, .int xfindings, .ref m2, .ref m3, .ref m4, .ref m5, .int xpiled, .ref m6, .ref m7, .ref m8, .ref m9, .ref m10, .ref m11, .int xfewest, .ref m12, .ref m13, .int xshiftMany, .ref m14])), (m0, .inl (gI g, 461, .inl mD0))] : va_W)) := by
  refine kMi.of (by decide) (Nat.le_of_ble_eq_true rfl) (fun p e s m below meth c A hx hb hr hml hown hts hlk hnm hKW hP hD hS hA ls hl => ?_)
  have hown : s.vm.findClass RX12 = some m.cls := hown
  have hl : lv_has ls 2 [(0, .ref h), (1, .int v)] := hl
  refine lv_iload_n hx hb dX12_isChild_0 rfl (lv_at hl 1 rfl) ?_
  refine lv_iconst (v := 0) hx hb dX12_isChild_1 (by decide) ?_
  refine lv_aload_n hx hb dX12_isChild_2 rfl (lv_at hl 0 rfl) ?_
  refine va_get (ci := 12) (C := RX12) (T := TX12) (N := 20) hx hb hts inlX12 hown hKW.1 hP 0 rfl rfl 0 (by decide) (hts _ wd_6_5) (fun _ h => h) rfl dX12_isChild_3 ?_
  refine lv_iconst (v := 2) hx hb dX12_isChild_6 (by decide) ?_
  refine va_iald hx hb hKW.1 hP 1 0 rfl rfl (show ¬ _ by decide) dX12_isChild_7 ?_
  refine k_top (y := mD0 2) rfl ?_
  refine k_top (y := 0) rfl ?_
  refine lv_iconst (v := 1) hx hb dX12_isChild_8 (by decide) ?_
  refine lv_isub hx hb dX12_isChild_9 ?_
  refine k_top (y := (-1)) (by decide) ?_
  refine k_Si [] [0, 1] (wr := [(h, .inr (12, [.ref m0, .ref m1, .int xkept, .int xfindings, .ref m2, .ref m3, .ref m4, .ref m5, .int xpiled, .ref m6, .ref m7, .ref m8, .ref m9, .ref m10, .ref m11, .int xfewest, .ref m12, .ref m13, .int xshiftMany, .ref m14])), (m0, .inl (gI g, 461, .inl mD0))]) hx hb hml hown hts hKW hP hD hS hA hl.1 (c_X12_isIn l g _ v 0 (-1) ) wd_10_11 wd_1_5 wd_10_9 wd_10_10 yd_X12_isIn ⟨Nat.le_of_ble_eq_true rfl, Nat.le_of_ble_eq_true rfl⟩ rfl rfl rfl rfl rfl (by decide) rfl (Nat.le_of_ble_eq_true rfl) dX12_isChild_10 ⟨Nat.le_of_ble_eq_true rfl, Nat.le_of_ble_eq_true rfl⟩ (fun r_1 u_2 H locs hw_3 hP hD hS => ?_)
  have hP : va_P g.1 vwCl [(h, .inr (12, [.ref m0, .ref m1, .int xkept, .int xfindings, .ref m2, .ref m3, .ref m4, .ref m5, .int xpiled, .ref m6, .ref m7, .ref m8, .ref m9, .ref m10, .ref m11, .int xfewest, .ref m12, .ref m13, .int xshiftMany, .ref m14])), (m0, .inl (gI g, 461, .inl mD0))] H := hP
  have hD : va_D A [(h, .inr (12, [.ref m0, .ref m1, .int xkept, .int xfindings, .ref m2, .ref m3, .ref m4, .ref m5, .int xpiled, .ref m6, .ref m7, .ref m8, .ref m9, .ref m10, .ref m11, .int xfewest, .ref m12, .ref m13, .int xshiftMany, .ref m14])), (m0, .inl (gI g, 461, .inl mD0))] := hD
  rcases (show (r_1 = 1 ∧ (Int32.toInt 0 ≤ Int32.toInt v ∧ Int32.toInt v ≤ Int32.toInt (-1))) ∨ (r_1 = 0 ∧ ¬ (Int32.toInt 0 ≤ Int32.toInt v ∧ Int32.toInt v ≤ Int32.toInt (-1))) from hw_3) with ⟨rfl, hw_3⟩ | ⟨rfl, hw_3⟩
  · exact k_zret () [0, 1] hx hb hr hlk hP hD hS (by clear hP hD hS hA hts hKW hl; first | rfl | (exfalso; (simp only [Int32.lt_iff_toInt_lt, Int32.le_iff_toInt_le, ← Int32.toInt_inj] at *; simp at *; omega))) rfl rfl rfl rfl (Nat.le_of_ble_eq_true rfl) (Nat.le_of_ble_eq_true rfl) dX12_isChild_13
  · exact k_zret () [0, 1] hx hb hr hlk hP hD hS (by clear hP hD hS hA hts hKW hl; first | rfl | (exfalso; (simp only [Int32.lt_iff_toInt_lt, Int32.le_iff_toInt_le, ← Int32.toInt_inj] at *; simp at *; omega))) rfl rfl rfl rfl (Nat.le_of_ble_eq_true rfl) (Nat.le_of_ble_eq_true rfl) dX12_isChild_13
end
