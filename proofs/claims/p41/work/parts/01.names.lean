def nmOf (o : Option Cond) : MethodName := match o with | some (Cond.instanceMethod y) => y | _ => objectInit
-- ===== PART A: goes FIRST, ahead of the names: the tables' words, and 'selects' of the private methods out of them =====
/-- a private method of a class that the tables say can be made, by its rows of tables_1 -/
def lw_okq (q : MethodName × Nat) : Prop := (q.1.cls ≠ "java/lang/invoke/MethodHandle" ∧ q.1.cls ≠ "java/lang/invoke/VarHandle") ∧ Cond.instantiable q.1.cls q.2 ∈ tables_1 ∧ Cond.privateMethod q.1 ∈ tables_1 ∧ Cond.instanceMethod q.1 ∈ tables_1
theorem lw_p0 : lw_okq (⟨"SmallRooms", "finding", "(I)I"⟩, 7) := ⟨⟨by decide +kernel, by decide +kernel⟩, List.mem_of_getElem? (i := 19) (by decide +kernel), List.mem_of_getElem? (i := 352) (by decide +kernel), List.mem_of_getElem? (i := 353) (by decide +kernel)⟩
theorem lw_p1 : lw_okq (⟨"SmallRooms", "keep", "()V"⟩, 7) := ⟨⟨by decide +kernel, by decide +kernel⟩, List.mem_of_getElem? (i := 19) (by decide +kernel), List.mem_of_getElem? (i := 358) (by decide +kernel), List.mem_of_getElem? (i := 359) (by decide +kernel)⟩
theorem lw_p2 : lw_okq (⟨"SmallRooms$Log", "dropOldest", "()V"⟩, 4) := ⟨⟨by decide +kernel, by decide +kernel⟩, List.mem_of_getElem? (i := 145) (by decide +kernel), List.mem_of_getElem? (i := 540) (by decide +kernel), List.mem_of_getElem? (i := 541) (by decide +kernel)⟩
theorem lw_p3 : lw_okq (⟨"SmallRooms$Reckoning", "countChildren", "(LSmallRooms$Nursery;I)V"⟩, 2) := ⟨⟨by decide +kernel, by decide +kernel⟩, List.mem_of_getElem? (i := 252) (by decide +kernel), List.mem_of_getElem? (i := 592) (by decide +kernel), List.mem_of_getElem? (i := 593) (by decide +kernel)⟩
theorem lw_p4 : lw_okq (⟨"SmallRooms$Reckoning", "workOut", "(LSmallRooms$Ratio;)J"⟩, 2) := ⟨⟨by decide +kernel, by decide +kernel⟩, List.mem_of_getElem? (i := 252) (by decide +kernel), List.mem_of_getElem? (i := 605) (by decide +kernel), List.mem_of_getElem? (i := 606) (by decide +kernel)⟩
theorem lw_p5 : lw_okq (⟨"SmallRooms$Reckoning", "numberOf", "(I)I"⟩, 2) := ⟨⟨by decide +kernel, by decide +kernel⟩, List.mem_of_getElem? (i := 252) (by decide +kernel), List.mem_of_getElem? (i := 621) (by decide +kernel), List.mem_of_getElem? (i := 622) (by decide +kernel)⟩
theorem lw_p6 : lw_okq (⟨"SmallRooms$Reckoning", "usualNeed", "()J"⟩, 2) := ⟨⟨by decide +kernel, by decide +kernel⟩, List.mem_of_getElem? (i := 252) (by decide +kernel), List.mem_of_getElem? (i := 626) (by decide +kernel), List.mem_of_getElem? (i := 627) (by decide +kernel)⟩
theorem lw_p7 : lw_okq (⟨"SmallRooms", "hasEnough", "(I)Z"⟩, 7) := ⟨⟨by decide +kernel, by decide +kernel⟩, List.mem_of_getElem? (i := 19) (by decide +kernel), List.mem_of_getElem? (i := 648) (by decide +kernel), List.mem_of_getElem? (i := 649) (by decide +kernel)⟩
theorem lw_p8 : lw_okq (⟨"SmallRooms", "planMoves", "()Z"⟩, 7) := ⟨⟨by decide +kernel, by decide +kernel⟩, List.mem_of_getElem? (i := 19) (by decide +kernel), List.mem_of_getElem? (i := 665) (by decide +kernel), List.mem_of_getElem? (i := 666) (by decide +kernel)⟩
theorem lw_p9 : lw_okq (⟨"SmallRooms$Planner", "sumWorths", "(LSmallRooms$Hands;)V"⟩, 5) := ⟨⟨by decide +kernel, by decide +kernel⟩, List.mem_of_getElem? (i := 266) (by decide +kernel), List.mem_of_getElem? (i := 678) (by decide +kernel), List.mem_of_getElem? (i := 679) (by decide +kernel)⟩
theorem lw_p10 : lw_okq (⟨"SmallRooms$Planner", "sumCosts", "(LSmallRooms$Hands;I)V"⟩, 5) := ⟨⟨by decide +kernel, by decide +kernel⟩, List.mem_of_getElem? (i := 266) (by decide +kernel), List.mem_of_getElem? (i := 692) (by decide +kernel), List.mem_of_getElem? (i := 693) (by decide +kernel)⟩
theorem lw_p11 : lw_okq (⟨"SmallRooms$Planner", "leastWith", "(IIZ)I"⟩, 5) := ⟨⟨by decide +kernel, by decide +kernel⟩, List.mem_of_getElem? (i := 266) (by decide +kernel), List.mem_of_getElem? (i := 703) (by decide +kernel), List.mem_of_getElem? (i := 704) (by decide +kernel)⟩
theorem lw_p12 : lw_okq (⟨"SmallRooms$Log", "isMissedFrom", "(II)Z"⟩, 4) := ⟨⟨by decide +kernel, by decide +kernel⟩, List.mem_of_getElem? (i := 145) (by decide +kernel), List.mem_of_getElem? (i := 757) (by decide +kernel), List.mem_of_getElem? (i := 758) (by decide +kernel)⟩
theorem lw_p13 : lw_okq (⟨"SmallRooms$ShiftPlan", "endedAt", "(II)I"⟩, 1) := ⟨⟨by decide +kernel, by decide +kernel⟩, List.mem_of_getElem? (i := 288) (by decide +kernel), List.mem_of_getElem? (i := 782) (by decide +kernel), List.mem_of_getElem? (i := 783) (by decide +kernel)⟩
theorem lw_p14 : lw_okq (⟨"SmallRooms", "sheetFinding", "(I)I"⟩, 7) := ⟨⟨by decide +kernel, by decide +kernel⟩, List.mem_of_getElem? (i := 19) (by decide +kernel), List.mem_of_getElem? (i := 798) (by decide +kernel), List.mem_of_getElem? (i := 799) (by decide +kernel)⟩
theorem lw_p15 : lw_okq (⟨"SmallRooms$Children", "waiterOf", "(ZI)I"⟩, 12) := ⟨⟨by decide +kernel, by decide +kernel⟩, List.mem_of_getElem? (i := 81) (by decide +kernel), List.mem_of_getElem? (i := 858) (by decide +kernel), List.mem_of_getElem? (i := 859) (by decide +kernel)⟩
def lw_privs_1 : List (MethodName × Nat) := [(⟨"SmallRooms", "finding", "(I)I"⟩, 7), (⟨"SmallRooms", "keep", "()V"⟩, 7), (⟨"SmallRooms$Log", "dropOldest", "()V"⟩, 4), (⟨"SmallRooms$Reckoning", "countChildren", "(LSmallRooms$Nursery;I)V"⟩, 2), (⟨"SmallRooms$Reckoning", "workOut", "(LSmallRooms$Ratio;)J"⟩, 2), (⟨"SmallRooms$Reckoning", "numberOf", "(I)I"⟩, 2), (⟨"SmallRooms$Reckoning", "usualNeed", "()J"⟩, 2), (⟨"SmallRooms", "hasEnough", "(I)Z"⟩, 7), (⟨"SmallRooms", "planMoves", "()Z"⟩, 7), (⟨"SmallRooms$Planner", "sumWorths", "(LSmallRooms$Hands;)V"⟩, 5), (⟨"SmallRooms$Planner", "sumCosts", "(LSmallRooms$Hands;I)V"⟩, 5), (⟨"SmallRooms$Planner", "leastWith", "(IIZ)I"⟩, 5), (⟨"SmallRooms$Log", "isMissedFrom", "(II)Z"⟩, 4), (⟨"SmallRooms$ShiftPlan", "endedAt", "(II)I"⟩, 1), (⟨"SmallRooms", "sheetFinding", "(I)I"⟩, 7), (⟨"SmallRooms$Children", "waiterOf", "(ZI)I"⟩, 12)]
theorem lw_r1 : ∀ q ∈ lw_privs_1, lw_okq q := List.forall_mem_cons.mpr ⟨lw_p0, List.forall_mem_cons.mpr ⟨lw_p1, List.forall_mem_cons.mpr ⟨lw_p2, List.forall_mem_cons.mpr ⟨lw_p3, List.forall_mem_cons.mpr ⟨lw_p4, List.forall_mem_cons.mpr ⟨lw_p5, List.forall_mem_cons.mpr ⟨lw_p6, List.forall_mem_cons.mpr ⟨lw_p7, List.forall_mem_cons.mpr ⟨lw_p8, List.forall_mem_cons.mpr ⟨lw_p9, List.forall_mem_cons.mpr ⟨lw_p10, List.forall_mem_cons.mpr ⟨lw_p11, List.forall_mem_cons.mpr ⟨lw_p12, List.forall_mem_cons.mpr ⟨lw_p13, List.forall_mem_cons.mpr ⟨lw_p14, List.forall_mem_cons.mpr ⟨lw_p15, fun _ h => absurd h List.not_mem_nil⟩⟩⟩⟩⟩⟩⟩⟩⟩⟩⟩⟩⟩⟩⟩⟩
theorem lw_p16 : lw_okq (⟨"SmallRooms", "leastMonth", "(I)I"⟩, 7) := ⟨⟨by decide +kernel, by decide +kernel⟩, List.mem_of_getElem? (i := 19) (by decide +kernel), List.mem_of_getElem? (i := 866) (by decide +kernel), List.mem_of_getElem? (i := 867) (by decide +kernel)⟩
theorem lw_p17 : lw_okq (⟨"SmallRooms$Nursery", "fits", "(II)Z"⟩, 11) := ⟨⟨by decide +kernel, by decide +kernel⟩, List.mem_of_getElem? (i := 27) (by decide +kernel), List.mem_of_getElem? (i := 874) (by decide +kernel), List.mem_of_getElem? (i := 875) (by decide +kernel)⟩
theorem lw_p18 : lw_okq (⟨"SmallRooms$Ratio", "firstWrong", "()I"⟩, 3) := ⟨⟨by decide +kernel, by decide +kernel⟩, List.mem_of_getElem? (i := 166) (by decide +kernel), List.mem_of_getElem? (i := 930) (by decide +kernel), List.mem_of_getElem? (i := 931) (by decide +kernel)⟩
theorem lw_p19 : lw_okq (⟨"SmallRoomsModel", "finding", "(I)I"⟩, 20) := ⟨⟨by decide +kernel, by decide +kernel⟩, List.mem_of_getElem? (i := 976) (by decide +kernel), List.mem_of_getElem? (i := 1051) (by decide +kernel), List.mem_of_getElem? (i := 1052) (by decide +kernel)⟩
theorem lw_p20 : lw_okq (⟨"SmallRoomsModel", "keep", "()V"⟩, 20) := ⟨⟨by decide +kernel, by decide +kernel⟩, List.mem_of_getElem? (i := 976) (by decide +kernel), List.mem_of_getElem? (i := 1056) (by decide +kernel), List.mem_of_getElem? (i := 1057) (by decide +kernel)⟩
theorem lw_p21 : lw_okq (⟨"SmallRoomsModel", "isHand", "(I)Z"⟩, 20) := ⟨⟨by decide +kernel, by decide +kernel⟩, List.mem_of_getElem? (i := 976) (by decide +kernel), List.mem_of_getElem? (i := 1068) (by decide +kernel), List.mem_of_getElem? (i := 1069) (by decide +kernel)⟩
theorem lw_p22 : lw_okq (⟨"SmallRoomsModel", "isTrained", "(I)Z"⟩, 20) := ⟨⟨by decide +kernel, by decide +kernel⟩, List.mem_of_getElem? (i := 976) (by decide +kernel), List.mem_of_getElem? (i := 1072) (by decide +kernel), List.mem_of_getElem? (i := 1073) (by decide +kernel)⟩
theorem lw_p23 : lw_okq (⟨"SmallRoomsModel", "isChild", "(I)Z"⟩, 20) := ⟨⟨by decide +kernel, by decide +kernel⟩, List.mem_of_getElem? (i := 976) (by decide +kernel), List.mem_of_getElem? (i := 1080) (by decide +kernel), List.mem_of_getElem? (i := 1081) (by decide +kernel)⟩
theorem lw_p24 : lw_okq (⟨"SmallRoomsModel", "roomIn", "(II)I"⟩, 20) := ⟨⟨by decide +kernel, by decide +kernel⟩, List.mem_of_getElem? (i := 976) (by decide +kernel), List.mem_of_getElem? (i := 1095) (by decide +kernel), List.mem_of_getElem? (i := 1096) (by decide +kernel)⟩
theorem lw_p25 : lw_okq (⟨"SmallRoomsModel", "takes", "(II)Z"⟩, 20) := ⟨⟨by decide +kernel, by decide +kernel⟩, List.mem_of_getElem? (i := 976) (by decide +kernel), List.mem_of_getElem? (i := 1099) (by decide +kernel), List.mem_of_getElem? (i := 1100) (by decide +kernel)⟩
theorem lw_p26 : lw_okq (⟨"SmallRoomsModel", "isRoom", "(I)Z"⟩, 20) := ⟨⟨by decide +kernel, by decide +kernel⟩, List.mem_of_getElem? (i := 976) (by decide +kernel), List.mem_of_getElem? (i := 1119) (by decide +kernel), List.mem_of_getElem? (i := 1120) (by decide +kernel)⟩
theorem lw_p27 : lw_okq (⟨"SmallRoomsModel", "childrenIn", "(I)I"⟩, 20) := ⟨⟨by decide +kernel, by decide +kernel⟩, List.mem_of_getElem? (i := 976) (by decide +kernel), List.mem_of_getElem? (i := 1123) (by decide +kernel), List.mem_of_getElem? (i := 1124) (by decide +kernel)⟩
theorem lw_p28 : lw_okq (⟨"SmallRoomsModel", "leadRoll", "(II)V"⟩, 20) := ⟨⟨by decide +kernel, by decide +kernel⟩, List.mem_of_getElem? (i := 976) (by decide +kernel), List.mem_of_getElem? (i := 1130) (by decide +kernel), List.mem_of_getElem? (i := 1131) (by decide +kernel)⟩
theorem lw_p29 : lw_okq (⟨"SmallRoomsModel", "lead", "(IIIIII)V"⟩, 20) := ⟨⟨by decide +kernel, by decide +kernel⟩, List.mem_of_getElem? (i := 976) (by decide +kernel), List.mem_of_getElem? (i := 1134) (by decide +kernel), List.mem_of_getElem? (i := 1135) (by decide +kernel)⟩
theorem lw_p30 : lw_okq (⟨"SmallRoomsModel", "leadSleep", "(II)V"⟩, 20) := ⟨⟨by decide +kernel, by decide +kernel⟩, List.mem_of_getElem? (i := 976) (by decide +kernel), List.mem_of_getElem? (i := 1146) (by decide +kernel), List.mem_of_getElem? (i := 1147) (by decide +kernel)⟩
theorem lw_p31 : lw_okq (⟨"SmallRoomsModel", "worthOf", "(I)I"⟩, 20) := ⟨⟨by decide +kernel, by decide +kernel⟩, List.mem_of_getElem? (i := 976) (by decide +kernel), List.mem_of_getElem? (i := 1166) (by decide +kernel), List.mem_of_getElem? (i := 1167) (by decide +kernel)⟩
def lw_privs_2 : List (MethodName × Nat) := [(⟨"SmallRooms", "leastMonth", "(I)I"⟩, 7), (⟨"SmallRooms$Nursery", "fits", "(II)Z"⟩, 11), (⟨"SmallRooms$Ratio", "firstWrong", "()I"⟩, 3), (⟨"SmallRoomsModel", "finding", "(I)I"⟩, 20), (⟨"SmallRoomsModel", "keep", "()V"⟩, 20), (⟨"SmallRoomsModel", "isHand", "(I)Z"⟩, 20), (⟨"SmallRoomsModel", "isTrained", "(I)Z"⟩, 20), (⟨"SmallRoomsModel", "isChild", "(I)Z"⟩, 20), (⟨"SmallRoomsModel", "roomIn", "(II)I"⟩, 20), (⟨"SmallRoomsModel", "takes", "(II)Z"⟩, 20), (⟨"SmallRoomsModel", "isRoom", "(I)Z"⟩, 20), (⟨"SmallRoomsModel", "childrenIn", "(I)I"⟩, 20), (⟨"SmallRoomsModel", "leadRoll", "(II)V"⟩, 20), (⟨"SmallRoomsModel", "lead", "(IIIIII)V"⟩, 20), (⟨"SmallRoomsModel", "leadSleep", "(II)V"⟩, 20), (⟨"SmallRoomsModel", "worthOf", "(I)I"⟩, 20)]
theorem lw_r2 : ∀ q ∈ lw_privs_2, lw_okq q := List.forall_mem_cons.mpr ⟨lw_p16, List.forall_mem_cons.mpr ⟨lw_p17, List.forall_mem_cons.mpr ⟨lw_p18, List.forall_mem_cons.mpr ⟨lw_p19, List.forall_mem_cons.mpr ⟨lw_p20, List.forall_mem_cons.mpr ⟨lw_p21, List.forall_mem_cons.mpr ⟨lw_p22, List.forall_mem_cons.mpr ⟨lw_p23, List.forall_mem_cons.mpr ⟨lw_p24, List.forall_mem_cons.mpr ⟨lw_p25, List.forall_mem_cons.mpr ⟨lw_p26, List.forall_mem_cons.mpr ⟨lw_p27, List.forall_mem_cons.mpr ⟨lw_p28, List.forall_mem_cons.mpr ⟨lw_p29, List.forall_mem_cons.mpr ⟨lw_p30, List.forall_mem_cons.mpr ⟨lw_p31, fun _ h => absurd h List.not_mem_nil⟩⟩⟩⟩⟩⟩⟩⟩⟩⟩⟩⟩⟩⟩⟩⟩
theorem lw_p32 : lw_okq (⟨"SmallRoomsModel", "handsIn", "(I)I"⟩, 20) := ⟨⟨by decide +kernel, by decide +kernel⟩, List.mem_of_getElem? (i := 976) (by decide +kernel), List.mem_of_getElem? (i := 1170) (by decide +kernel), List.mem_of_getElem? (i := 1171) (by decide +kernel)⟩
theorem lw_p33 : lw_okq (⟨"SmallRoomsModel", "needOf", "(I)I"⟩, 20) := ⟨⟨by decide +kernel, by decide +kernel⟩, List.mem_of_getElem? (i := 976) (by decide +kernel), List.mem_of_getElem? (i := 1174) (by decide +kernel), List.mem_of_getElem? (i := 1175) (by decide +kernel)⟩
theorem lw_p34 : lw_okq (⟨"SmallRoomsModel", "read", "()I"⟩, 20) := ⟨⟨by decide +kernel, by decide +kernel⟩, List.mem_of_getElem? (i := 976) (by decide +kernel), List.mem_of_getElem? (i := 1178) (by decide +kernel), List.mem_of_getElem? (i := 1179) (by decide +kernel)⟩
theorem lw_p35 : lw_okq (⟨"SmallRoomsModel", "goes", "(I)Z"⟩, 20) := ⟨⟨by decide +kernel, by decide +kernel⟩, List.mem_of_getElem? (i := 976) (by decide +kernel), List.mem_of_getElem? (i := 1182) (by decide +kernel), List.mem_of_getElem? (i := 1183) (by decide +kernel)⟩
theorem lw_p36 : lw_okq (⟨"SmallRoomsModel", "hasEnough", "(I)Z"⟩, 20) := ⟨⟨by decide +kernel, by decide +kernel⟩, List.mem_of_getElem? (i := 976) (by decide +kernel), List.mem_of_getElem? (i := 1189) (by decide +kernel), List.mem_of_getElem? (i := 1190) (by decide +kernel)⟩
theorem lw_p37 : lw_okq (⟨"SmallRoomsModel", "areEnough", "(IIZ)Z"⟩, 20) := ⟨⟨by decide +kernel, by decide +kernel⟩, List.mem_of_getElem? (i := 976) (by decide +kernel), List.mem_of_getElem? (i := 1193) (by decide +kernel), List.mem_of_getElem? (i := 1194) (by decide +kernel)⟩
theorem lw_p38 : lw_okq (⟨"SmallRoomsModel", "findMoves", "()Z"⟩, 20) := ⟨⟨by decide +kernel, by decide +kernel⟩, List.mem_of_getElem? (i := 976) (by decide +kernel), List.mem_of_getElem? (i := 1205) (by decide +kernel), List.mem_of_getElem? (i := 1206) (by decide +kernel)⟩
theorem lw_p39 : lw_okq (⟨"SmallRoomsModel", "tries", "(II)V"⟩, 20) := ⟨⟨by decide +kernel, by decide +kernel⟩, List.mem_of_getElem? (i := 976) (by decide +kernel), List.mem_of_getElem? (i := 1209) (by decide +kernel), List.mem_of_getElem? (i := 1210) (by decide +kernel)⟩
theorem lw_p40 : lw_okq (⟨"SmallRoomsModel", "wasIn", "(II)Z"⟩, 20) := ⟨⟨by decide +kernel, by decide +kernel⟩, List.mem_of_getElem? (i := 976) (by decide +kernel), List.mem_of_getElem? (i := 1225) (by decide +kernel), List.mem_of_getElem? (i := 1226) (by decide +kernel)⟩
theorem lw_p41 : lw_okq (⟨"SmallRoomsModel", "findShifts", "()V"⟩, 20) := ⟨⟨by decide +kernel, by decide +kernel⟩, List.mem_of_getElem? (i := 976) (by decide +kernel), List.mem_of_getElem? (i := 1253) (by decide +kernel), List.mem_of_getElem? (i := 1254) (by decide +kernel)⟩
theorem lw_p42 : lw_okq (⟨"SmallRoomsModel", "putShift", "(I)V"⟩, 20) := ⟨⟨by decide +kernel, by decide +kernel⟩, List.mem_of_getElem? (i := 976) (by decide +kernel), List.mem_of_getElem? (i := 1257) (by decide +kernel), List.mem_of_getElem? (i := 1258) (by decide +kernel)⟩
theorem lw_p43 : lw_okq (⟨"SmallRoomsModel", "listed", "(I)I"⟩, 20) := ⟨⟨by decide +kernel, by decide +kernel⟩, List.mem_of_getElem? (i := 976) (by decide +kernel), List.mem_of_getElem? (i := 1272) (by decide +kernel), List.mem_of_getElem? (i := 1273) (by decide +kernel)⟩
theorem lw_p44 : lw_okq (⟨"SmallRoomsModel", "hasSibling", "(I)Z"⟩, 20) := ⟨⟨by decide +kernel, by decide +kernel⟩, List.mem_of_getElem? (i := 976) (by decide +kernel), List.mem_of_getElem? (i := 1280) (by decide +kernel), List.mem_of_getElem? (i := 1281) (by decide +kernel)⟩
theorem lw_p45 : lw_okq (⟨"SmallRoomsModel", "areSiblings", "(II)Z"⟩, 20) := ⟨⟨by decide +kernel, by decide +kernel⟩, List.mem_of_getElem? (i := 976) (by decide +kernel), List.mem_of_getElem? (i := 1284) (by decide +kernel), List.mem_of_getElem? (i := 1285) (by decide +kernel)⟩
theorem lw_p46 : lw_okq (⟨"SmallRoomsModel", "leastMonth", "(I)I"⟩, 20) := ⟨⟨by decide +kernel, by decide +kernel⟩, List.mem_of_getElem? (i := 976) (by decide +kernel), List.mem_of_getElem? (i := 1292) (by decide +kernel), List.mem_of_getElem? (i := 1293) (by decide +kernel)⟩
theorem lw_p47 : lw_okq (⟨"SmallRoomsModel", "can", "(II)Z"⟩, 20) := ⟨⟨by decide +kernel, by decide +kernel⟩, List.mem_of_getElem? (i := 976) (by decide +kernel), List.mem_of_getElem? (i := 1296) (by decide +kernel), List.mem_of_getElem? (i := 1297) (by decide +kernel)⟩
def lw_privs_3 : List (MethodName × Nat) := [(⟨"SmallRoomsModel", "handsIn", "(I)I"⟩, 20), (⟨"SmallRoomsModel", "needOf", "(I)I"⟩, 20), (⟨"SmallRoomsModel", "read", "()I"⟩, 20), (⟨"SmallRoomsModel", "goes", "(I)Z"⟩, 20), (⟨"SmallRoomsModel", "hasEnough", "(I)Z"⟩, 20), (⟨"SmallRoomsModel", "areEnough", "(IIZ)Z"⟩, 20), (⟨"SmallRoomsModel", "findMoves", "()Z"⟩, 20), (⟨"SmallRoomsModel", "tries", "(II)V"⟩, 20), (⟨"SmallRoomsModel", "wasIn", "(II)Z"⟩, 20), (⟨"SmallRoomsModel", "findShifts", "()V"⟩, 20), (⟨"SmallRoomsModel", "putShift", "(I)V"⟩, 20), (⟨"SmallRoomsModel", "listed", "(I)I"⟩, 20), (⟨"SmallRoomsModel", "hasSibling", "(I)Z"⟩, 20), (⟨"SmallRoomsModel", "areSiblings", "(II)Z"⟩, 20), (⟨"SmallRoomsModel", "leastMonth", "(I)I"⟩, 20), (⟨"SmallRoomsModel", "can", "(II)Z"⟩, 20)]
theorem lw_r3 : ∀ q ∈ lw_privs_3, lw_okq q := List.forall_mem_cons.mpr ⟨lw_p32, List.forall_mem_cons.mpr ⟨lw_p33, List.forall_mem_cons.mpr ⟨lw_p34, List.forall_mem_cons.mpr ⟨lw_p35, List.forall_mem_cons.mpr ⟨lw_p36, List.forall_mem_cons.mpr ⟨lw_p37, List.forall_mem_cons.mpr ⟨lw_p38, List.forall_mem_cons.mpr ⟨lw_p39, List.forall_mem_cons.mpr ⟨lw_p40, List.forall_mem_cons.mpr ⟨lw_p41, List.forall_mem_cons.mpr ⟨lw_p42, List.forall_mem_cons.mpr ⟨lw_p43, List.forall_mem_cons.mpr ⟨lw_p44, List.forall_mem_cons.mpr ⟨lw_p45, List.forall_mem_cons.mpr ⟨lw_p46, List.forall_mem_cons.mpr ⟨lw_p47, fun _ h => absurd h List.not_mem_nil⟩⟩⟩⟩⟩⟩⟩⟩⟩⟩⟩⟩⟩⟩⟩⟩
theorem lw_p48 : lw_okq (⟨"SmallRoomsModel", "haveIn", "(III)I"⟩, 20) := ⟨⟨by decide +kernel, by decide +kernel⟩, List.mem_of_getElem? (i := 976) (by decide +kernel), List.mem_of_getElem? (i := 1300) (by decide +kernel), List.mem_of_getElem? (i := 1301) (by decide +kernel)⟩
def lw_privs_4 : List (MethodName × Nat) := [(⟨"SmallRoomsModel", "haveIn", "(III)I"⟩, 20)]
theorem lw_r4 : ∀ q ∈ lw_privs_4, lw_okq q := List.forall_mem_cons.mpr ⟨lw_p48, fun _ h => absurd h List.not_mem_nil⟩
def lw_privs : List (MethodName × Nat) := lw_privs_1 ++ (lw_privs_2 ++ (lw_privs_3 ++ (lw_privs_4)))
def lw_tbl : List Cond := k2_sels lw_privs ++ tables_1
theorem lw_privs_ok : ∀ q ∈ lw_privs, lw_okq q := by
  show ∀ q ∈ lw_privs_1 ++ (lw_privs_2 ++ (lw_privs_3 ++ (lw_privs_4))), lw_okq q
  exact List.forall_mem_append.mpr ⟨lw_r1, List.forall_mem_append.mpr ⟨lw_r2, List.forall_mem_append.mpr ⟨lw_r3, lw_r4⟩⟩⟩
theorem goodIn_r {big : List Cond} (ws : List Cond) (ps : List Nat) (hp : ws = ps.filterMap (fun i => big[i]?)) (h : ws.all goodWord = true) : GoodIn big ws := by
  intro w hw
  have h1 := List.all_eq_true.mp h w hw
  rw [hp] at hw
  obtain ⟨i, -, hi⟩ := List.mem_filterMap.mp hw
  have hm : w ∈ big := by first | exact List.mem_of_getElem? hi | exact List.getElem?_mem hi
  exact ⟨hm, good_of_word h1⟩
theorem goodIn_app {big a b : List Cond} (ha : GoodIn big a) (hb : GoodIn big b) : GoodIn big (a ++ b) := fun w h => (List.mem_append.mp h).elim (ha w) (hb w)
theorem goodIn_ca {big a b : List Cond} {c : Cond} (ha : GoodIn big (c :: a)) (hb : GoodIn big b) : GoodIn big (c :: (a ++ b)) := fun w h => (List.mem_cons.mp h).elim (fun e => ha w (List.mem_cons.mpr (Or.inl e))) (fun h => (List.mem_append.mp h).elim (fun h => ha w (List.mem_cons.mpr (Or.inr h))) (hb w))
theorem goodIn_sub {big ws : List Cond} (hm : ∀ w ∈ ws, w ∈ big) (h : ws.all goodWord = true) : GoodIn big ws := fun w hw => ⟨hm w hw, good_of_word (List.all_eq_true.mp h w hw)⟩
def RX0 : String := "SmallRooms$Children"
def TX0 : u_T := fun k => match k with
  | 0 => ("SmallRooms$Children", "count", "I", false)
  | 1 => ("SmallRooms$Children", "birth", "[I", true)
  | 2 => ("SmallRooms$Children", "sibling", "[I", true)
  | 3 => ("SmallRooms$Children", "sessions", "[I", true)
  | 4 => ("SmallRooms$Children", "first", "[I", true)
  | 5 => ("SmallRooms$Children", "last", "[I", true)
  | 6 => ("SmallRooms$Children", "room", "[I", true)
  | 7 => ("SmallRooms$Children", "persons", "[I", true)
  | 8 => ("SmallRooms$Children", "asleep", "I", false)
  | 9 => ("SmallRooms$Children", "admitted", "I", false)
  | 10 => ("SmallRooms$Children", "waiters", "I", false)
  | _ => ("SmallRooms$Children", "waiting", "[I", true)
def tyX0 : Nat → FieldType := fun k => match k with
  | 0 => .int
  | 1 => .array .int
  | 2 => .array .int
  | 3 => .array .int
  | 4 => .array .int
  | 5 => .array .int
  | 6 => .array .int
  | 7 => .array .int
  | 8 => .int
  | 9 => .int
  | 10 => .int
  | _ => .array .int
abbrev wsX00 : List Cond := u_ws RX0 TX0 12
theorem nmX0 : ∀ a, a < 12 → ∀ b, b < 12 → a ≠ b → (TX0 a).2.1 ≠ (TX0 b).2.1 := by decide +kernel
theorem tyX0_ok : ∀ k, k < 12 → parseFieldDescriptor (TX0 k).2.2.1 = some (tyX0 k) := by decide +kernel
abbrev cX0_init : ByteArray := prog_2_method_1_code
def yX0_init : MethodName := ⟨RX0, "<init>", "()V"⟩
abbrev cX0_has : ByteArray := prog_2_method_2_code
def yX0_has : MethodName := ⟨RX0, "has", "(I)Z"⟩
abbrev cX0_add : ByteArray := prog_2_method_3_code
def yX0_add : MethodName := ⟨RX0, "add", "(IIIII)I"⟩
abbrev cX0_inRoom : ByteArray := prog_2_method_4_code
def yX0_inRoom : MethodName := ⟨RX0, "inRoom", "(I)I"⟩
abbrev cX0_countIn : ByteArray := prog_2_method_5_code
def yX0_countIn : MethodName := ⟨RX0, "countIn", "()I"⟩
abbrev cX0_allOut : ByteArray := prog_2_method_6_code
def yX0_allOut : MethodName := ⟨RX0, "allOut", "()V"⟩
abbrev cX0_areSiblings : ByteArray := prog_2_method_7_code
def yX0_areSiblings : MethodName := ⟨RX0, "areSiblings", "(II)Z"⟩
abbrev cX0_hasAdmittedSibling : ByteArray := prog_2_method_8_code
def yX0_hasAdmittedSibling : MethodName := ⟨RX0, "hasAdmittedSibling", "(I)Z"⟩
abbrev cX0_isAwaited : ByteArray := prog_2_method_9_code
def yX0_isAwaited : MethodName := ⟨RX0, "isAwaited", "(III)Z"⟩
abbrev cX0_isWaiting : ByteArray := prog_2_method_10_code
def yX0_isWaiting : MethodName := ⟨RX0, "isWaiting", "(I)Z"⟩
abbrev cX0_addWaiter : ByteArray := prog_2_method_11_code
def yX0_addWaiter : MethodName := ⟨RX0, "addWaiter", "(I)V"⟩
abbrev cX0_removeWaiter : ByteArray := prog_2_method_12_code
def yX0_removeWaiter : MethodName := ⟨RX0, "removeWaiter", "(I)V"⟩
abbrev cX0_waiterAt : ByteArray := prog_2_method_13_code
def yX0_waiterAt : MethodName := ⟨RX0, "waiterAt", "(I)I"⟩
abbrev cX0_waiterOf : ByteArray := prog_2_method_14_code
def yX0_waiterOf : MethodName := ⟨RX0, "waiterOf", "(ZI)I"⟩
abbrev cX0_become : ByteArray := prog_2_method_15_code
def yX0_become : MethodName := ⟨RX0, "become", "(LSmallRooms$Children;)V"⟩
def RX1 : String := "SmallRooms$Hands"
def TX1 : u_T := fun k => match k with
  | 0 => ("SmallRooms$Hands", "count", "I", false)
  | 1 => ("SmallRooms$Hands", "kind", "[I", true)
  | 2 => ("SmallRooms$Hands", "room", "[I", true)
  | _ => ("SmallRooms$Hands", "ill", "I", false)
def tyX1 : Nat → FieldType := fun k => match k with
  | 0 => .int
  | 1 => .array .int
  | 2 => .array .int
  | _ => .int
abbrev wsX10 : List Cond := u_ws RX1 TX1 4
theorem nmX1 : ∀ a, a < 4 → ∀ b, b < 4 → a ≠ b → (TX1 a).2.1 ≠ (TX1 b).2.1 := by decide +kernel
theorem tyX1_ok : ∀ k, k < 4 → parseFieldDescriptor (TX1 k).2.2.1 = some (tyX1 k) := by decide +kernel
abbrev cX1_init : ByteArray := prog_3_method_1_code
def yX1_init : MethodName := ⟨RX1, "<init>", "()V"⟩
abbrev cX1_has : ByteArray := prog_3_method_2_code
def yX1_has : MethodName := ⟨RX1, "has", "(I)Z"⟩
abbrev cX1_add : ByteArray := prog_3_method_3_code
def yX1_add : MethodName := ⟨RX1, "add", "(I)I"⟩
abbrev cX1_worth : ByteArray := prog_3_method_4_code
def yX1_worth : MethodName := ⟨RX1, "worth", "(I)I"⟩
abbrev cX1_inRoom : ByteArray := prog_3_method_5_code
def yX1_inRoom : MethodName := ⟨RX1, "inRoom", "(I)I"⟩
abbrev cX1_worthIn : ByteArray := prog_3_method_6_code
def yX1_worthIn : MethodName := ⟨RX1, "worthIn", "(I)I"⟩
abbrev cX1_trained : ByteArray := prog_3_method_7_code
def yX1_trained : MethodName := ⟨RX1, "trained", "()I"⟩
abbrev cX1_able : ByteArray := prog_3_method_8_code
def yX1_able : MethodName := ⟨RX1, "able", "()I"⟩
abbrev cX1_become : ByteArray := prog_3_method_9_code
def yX1_become : MethodName := ⟨RX1, "become", "(LSmallRooms$Hands;)V"⟩
def RX2 : String := "SmallRooms$History"
def TX2 : u_T := fun k => match k with
  | 0 => ("SmallRooms$History", "count", "I", false)
  | 1 => ("SmallRooms$History", "next", "I", false)
  | _ => ("SmallRooms$History", "kept", "[LSmallRooms$Nursery;", true)
def tyX2 : Nat → FieldType := fun k => match k with
  | 0 => .int
  | 1 => .int
  | _ => .array (.object "SmallRooms$Nursery")
abbrev wsX20 : List Cond := u_ws RX2 TX2 3
theorem nmX2 : ∀ a, a < 3 → ∀ b, b < 3 → a ≠ b → (TX2 a).2.1 ≠ (TX2 b).2.1 := by decide +kernel
theorem tyX2_ok : ∀ k, k < 3 → parseFieldDescriptor (TX2 k).2.2.1 = some (tyX2 k) := by decide +kernel
abbrev cX2_init : ByteArray := prog_4_method_1_code
def yX2_init : MethodName := ⟨RX2, "<init>", "()V"⟩
abbrev cX2_add : ByteArray := prog_4_method_2_code
def yX2_add : MethodName := ⟨RX2, "add", "(LSmallRooms$Nursery;)V"⟩
abbrev cX2_bringBack : ByteArray := prog_4_method_3_code
def yX2_bringBack : MethodName := ⟨RX2, "bringBack", "(LSmallRooms$Nursery;)V"⟩
def RX3 : String := "SmallRooms$Log"
def TX3 : u_T := fun k => match k with
  | 0 => ("SmallRooms$Log", "count", "I", false)
  | 1 => ("SmallRooms$Log", "slots", "[I", true)
  | 2 => ("SmallRooms$Log", "children", "[I", true)
  | _ => ("SmallRooms$Log", "acts", "[I", true)
def tyX3 : Nat → FieldType := fun k => match k with
  | 0 => .int
  | 1 => .array .int
  | 2 => .array .int
  | _ => .array .int
abbrev wsX30 : List Cond := u_ws RX3 TX3 4
theorem nmX3 : ∀ a, a < 4 → ∀ b, b < 4 → a ≠ b → (TX3 a).2.1 ≠ (TX3 b).2.1 := by decide +kernel
theorem tyX3_ok : ∀ k, k < 4 → parseFieldDescriptor (TX3 k).2.2.1 = some (tyX3 k) := by decide +kernel
abbrev cX3_init : ByteArray := prog_5_method_1_code
def yX3_init : MethodName := ⟨RX3, "<init>", "()V"⟩
abbrev cX3_lead : ByteArray := prog_5_method_2_code
def yX3_lead : MethodName := ⟨RX3, "lead", "(III)V"⟩
abbrev cX3_dropOldest : ByteArray := prog_5_method_3_code
def yX3_dropOldest : MethodName := ⟨RX3, "dropOldest", "()V"⟩
abbrev cX3_countOf : ByteArray := prog_5_method_4_code
def yX3_countOf : MethodName := ⟨RX3, "countOf", "(I)I"⟩
abbrev cX3_wasIn : ByteArray := prog_5_method_5_code
def yX3_wasIn : MethodName := ⟨RX3, "wasIn", "(II)Z"⟩
abbrev cX3_latestGoingOut : ByteArray := prog_5_method_6_code
def yX3_latestGoingOut : MethodName := ⟨RX3, "latestGoingOut", "(I)I"⟩
abbrev cX3_missedOf : ByteArray := prog_5_method_7_code
def yX3_missedOf : MethodName := ⟨RX3, "missedOf", "(II)I"⟩
abbrev cX3_firstMissedOf : ByteArray := prog_5_method_8_code
def yX3_firstMissedOf : MethodName := ⟨RX3, "firstMissedOf", "(II)I"⟩
abbrev cX3_isMissedFrom : ByteArray := prog_5_method_9_code
def yX3_isMissedFrom : MethodName := ⟨RX3, "isMissedFrom", "(II)Z"⟩
abbrev cX3_become : ByteArray := prog_5_method_10_code
def yX3_become : MethodName := ⟨RX3, "become", "(LSmallRooms$Log;)V"⟩
def RX4 : String := "SmallRooms$Nursery"
def TX4 : u_T := fun k => match k with
  | 0 => ("SmallRooms$Nursery", "rooms", "LSmallRooms$Rooms;", true)
  | 1 => ("SmallRooms$Nursery", "hands", "LSmallRooms$Hands;", true)
  | 2 => ("SmallRooms$Nursery", "children", "LSmallRooms$Children;", true)
  | 3 => ("SmallRooms$Nursery", "roll", "LSmallRooms$Log;", true)
  | 4 => ("SmallRooms$Nursery", "sleep", "LSmallRooms$Log;", true)
  | 5 => ("SmallRooms$Nursery", "ratio", "LSmallRooms$Ratio;", true)
  | 6 => ("SmallRooms$Nursery", "needed", "[I", true)
  | 7 => ("SmallRooms$Nursery", "month", "I", false)
  | 8 => ("SmallRooms$Nursery", "slot", "I", false)
  | 9 => ("SmallRooms$Nursery", "longSlots", "I", false)
  | _ => ("SmallRooms$Nursery", "rate", "I", false)
def tyX4 : Nat → FieldType := fun k => match k with
  | 0 => .object "SmallRooms$Rooms"
  | 1 => .object "SmallRooms$Hands"
  | 2 => .object "SmallRooms$Children"
  | 3 => .object "SmallRooms$Log"
  | 4 => .object "SmallRooms$Log"
  | 5 => .object "SmallRooms$Ratio"
  | 6 => .array .int
  | 7 => .int
  | 8 => .int
  | 9 => .int
  | _ => .int
abbrev wsX40 : List Cond := u_ws RX4 TX4 11
theorem nmX4 : ∀ a, a < 11 → ∀ b, b < 11 → a ≠ b → (TX4 a).2.1 ≠ (TX4 b).2.1 := by decide +kernel
theorem tyX4_ok : ∀ k, k < 11 → parseFieldDescriptor (TX4 k).2.2.1 = some (tyX4 k) := by decide +kernel
abbrev cX4_init : ByteArray := prog_6_method_1_code
def yX4_init : MethodName := ⟨RX4, "<init>", "()V"⟩
abbrev cX4_ageNow : ByteArray := prog_6_method_2_code
def yX4_ageNow : MethodName := ⟨RX4, "ageNow", "(I)I"⟩
abbrev cX4_roomInMonth : ByteArray := prog_6_method_3_code
def yX4_roomInMonth : MethodName := ⟨RX4, "roomInMonth", "(II)I"⟩
abbrev cX4_refusal : ByteArray := prog_6_method_4_code
def yX4_refusal : MethodName := ⟨RX4, "refusal", "(II)I"⟩
abbrev cX4_goOut : ByteArray := prog_6_method_5_code
def yX4_goOut : MethodName := ⟨RX4, "goOut", "(I)V"⟩
abbrev cX4_beginDay : ByteArray := prog_6_method_6_code
def yX4_beginDay : MethodName := ⟨RX4, "beginDay", "()V"⟩
abbrev cX4_placesTaken : ByteArray := prog_6_method_7_code
def yX4_placesTaken : MethodName := ⟨RX4, "placesTaken", "(III)I"⟩
abbrev cX4_fits : ByteArray := prog_6_method_8_code
def yX4_fits : MethodName := ⟨RX4, "fits", "(II)Z"⟩
abbrev cX4_earliestMonth : ByteArray := prog_6_method_9_code
def yX4_earliestMonth : MethodName := ⟨RX4, "earliestMonth", "(I)I"⟩
abbrev cX4_become : ByteArray := prog_6_method_10_code
def yX4_become : MethodName := ⟨RX4, "become", "(LSmallRooms$Nursery;)V"⟩
def RX5 : String := "SmallRooms$Planner"
def TX5 : u_T := fun k => match k with
  | 0 => ("SmallRooms$Planner", "least", "[I", true)
  | 1 => ("SmallRooms$Planner", "cost", "[I", true)
  | 2 => ("SmallRooms$Planner", "worth", "[I", true)
  | 3 => ("SmallRooms$Planner", "able", "I", false)
  | _ => ("SmallRooms$Planner", "trained", "I", false)
def tyX5 : Nat → FieldType := fun k => match k with
  | 0 => .array .int
  | 1 => .array .int
  | 2 => .array .int
  | 3 => .int
  | _ => .int
abbrev wsX50 : List Cond := u_ws RX5 TX5 5
theorem nmX5 : ∀ a, a < 5 → ∀ b, b < 5 → a ≠ b → (TX5 a).2.1 ≠ (TX5 b).2.1 := by decide +kernel
theorem tyX5_ok : ∀ k, k < 5 → parseFieldDescriptor (TX5 k).2.2.1 = some (tyX5 k) := by decide +kernel
abbrev cX5_init : ByteArray := prog_7_method_1_code
def yX5_init : MethodName := ⟨RX5, "<init>", "()V"⟩
abbrev cX5_begin : ByteArray := prog_7_method_2_code
def yX5_begin : MethodName := ⟨RX5, "begin", "(LSmallRooms$Hands;)V"⟩
abbrev cX5_sumWorths : ByteArray := prog_7_method_3_code
def yX5_sumWorths : MethodName := ⟨RX5, "sumWorths", "(LSmallRooms$Hands;)V"⟩
abbrev cX5_sumCosts : ByteArray := prog_7_method_4_code
def yX5_sumCosts : MethodName := ⟨RX5, "sumCosts", "(LSmallRooms$Hands;I)V"⟩
abbrev cX5_addForHand : ByteArray := prog_7_method_5_code
def yX5_addForHand : MethodName := ⟨RX5, "addForHand", "([III)V"⟩
abbrev cX5_fill : ByteArray := prog_7_method_6_code
def yX5_fill : MethodName := ⟨RX5, "fill", "(LSmallRooms$Hands;IIZ)V"⟩
abbrev cX5_leastWith : ByteArray := prog_7_method_7_code
def yX5_leastWith : MethodName := ⟨RX5, "leastWith", "(IIZ)I"⟩
abbrev cX5_partsOf : ByteArray := prog_7_method_8_code
def yX5_partsOf : MethodName := ⟨RX5, "partsOf", "(I)I"⟩
abbrev cX5_isPossible : ByteArray := prog_7_method_9_code
def yX5_isPossible : MethodName := ⟨RX5, "isPossible", "()Z"⟩
abbrev cX5_movedHands : ByteArray := prog_7_method_10_code
def yX5_movedHands : MethodName := ⟨RX5, "movedHands", "()I"⟩
abbrev cX5_roomFor : ByteArray := prog_7_method_11_code
def yX5_roomFor : MethodName := ⟨RX5, "roomFor", "(I)I"⟩
def RX6 : String := "SmallRooms$Ratio"
def TX6 : u_T := fun k => match k with
  | 0 => ("SmallRooms$Ratio", "count", "I", false)
  | 1 => ("SmallRooms$Ratio", "wrongAt", "I", false)
  | _ => ("SmallRooms$Ratio", "signs", "[I", true)
def tyX6 : Nat → FieldType := fun k => match k with
  | 0 => .int
  | 1 => .int
  | _ => .array .int
abbrev wsX60 : List Cond := u_ws RX6 TX6 3
theorem nmX6 : ∀ a, a < 3 → ∀ b, b < 3 → a ≠ b → (TX6 a).2.1 ≠ (TX6 b).2.1 := by decide +kernel
theorem tyX6_ok : ∀ k, k < 3 → parseFieldDescriptor (TX6 k).2.2.1 = some (tyX6 k) := by decide +kernel
abbrev cX6_init : ByteArray := prog_8_method_1_code
def yX6_init : MethodName := ⟨RX6, "<init>", "()V"⟩
abbrev cX6_read : ByteArray := prog_8_method_2_code
def yX6_read : MethodName := ⟨RX6, "read", "(LSmallRooms$Sheet;)V"⟩
abbrev cX6_isSign : ByteArray := prog_8_method_3_code
def yX6_isSign : MethodName := ⟨RX6, "isSign", "(I)Z"⟩
abbrev cX6_firstWrong : ByteArray := prog_8_method_4_code
def yX6_firstWrong : MethodName := ⟨RX6, "firstWrong", "()I"⟩
abbrev cX6_become : ByteArray := prog_8_method_5_code
def yX6_become : MethodName := ⟨RX6, "become", "(LSmallRooms$Ratio;)V"⟩
def RX7 : String := "SmallRooms$Reckoning"
def TX7 : u_T := fun k => match k with
  | 0 => ("SmallRooms$Reckoning", "counted", "[I", true)
  | _ => ("SmallRooms$Reckoning", "row", "[J", true)
def tyX7 : Nat → FieldType := fun k => match k with
  | 0 => .array .int
  | _ => .array .long
abbrev wsX70 : List Cond := u_ws RX7 TX7 2
theorem nmX7 : ∀ a, a < 2 → ∀ b, b < 2 → a ≠ b → (TX7 a).2.1 ≠ (TX7 b).2.1 := by decide +kernel
theorem tyX7_ok : ∀ k, k < 2 → parseFieldDescriptor (TX7 k).2.2.1 = some (tyX7 k) := by decide +kernel
abbrev cX7_init : ByteArray := prog_9_method_1_code
def yX7_init : MethodName := ⟨RX7, "<init>", "()V"⟩
abbrev cX7_needOf : ByteArray := prog_9_method_2_code
def yX7_needOf : MethodName := ⟨RX7, "needOf", "(LSmallRooms$Nursery;I)I"⟩
abbrev cX7_countChildren : ByteArray := prog_9_method_3_code
def yX7_countChildren : MethodName := ⟨RX7, "countChildren", "(LSmallRooms$Nursery;I)V"⟩
abbrev cX7_ageGroup : ByteArray := prog_9_method_4_code
def yX7_ageGroup : MethodName := ⟨RX7, "ageGroup", "(I)I"⟩
abbrev cX7_usualNeed : ByteArray := prog_9_method_5_code
def yX7_usualNeed : MethodName := ⟨RX7, "usualNeed", "()J"⟩
abbrev cX7_workOut : ByteArray := prog_9_method_6_code
def yX7_workOut : MethodName := ⟨RX7, "workOut", "(LSmallRooms$Ratio;)J"⟩
abbrev cX7_numberOf : ByteArray := prog_9_method_7_code
def yX7_numberOf : MethodName := ⟨RX7, "numberOf", "(I)I"⟩
abbrev cX7_joined : ByteArray := prog_9_method_8_code
def yX7_joined : MethodName := ⟨RX7, "joined", "(IJJ)J"⟩
def RX8 : String := "SmallRooms$Rooms"
def TX8 : u_T := fun k => match k with
  | 0 => ("SmallRooms$Rooms", "count", "I", false)
  | 1 => ("SmallRooms$Rooms", "from", "[I", true)
  | 2 => ("SmallRooms$Rooms", "to", "[I", true)
  | _ => ("SmallRooms$Rooms", "most", "[I", true)
def tyX8 : Nat → FieldType := fun k => match k with
  | 0 => .int
  | 1 => .array .int
  | 2 => .array .int
  | _ => .array .int
abbrev wsX80 : List Cond := u_ws RX8 TX8 4
theorem nmX8 : ∀ a, a < 4 → ∀ b, b < 4 → a ≠ b → (TX8 a).2.1 ≠ (TX8 b).2.1 := by decide +kernel
theorem tyX8_ok : ∀ k, k < 4 → parseFieldDescriptor (TX8 k).2.2.1 = some (tyX8 k) := by decide +kernel
abbrev cX8_init : ByteArray := prog_10_method_1_code
def yX8_init : MethodName := ⟨RX8, "<init>", "()V"⟩
abbrev cX8_has : ByteArray := prog_10_method_2_code
def yX8_has : MethodName := ⟨RX8, "has", "(I)Z"⟩
abbrev cX8_add : ByteArray := prog_10_method_3_code
def yX8_add : MethodName := ⟨RX8, "add", "(III)I"⟩
abbrev cX8_takes : ByteArray := prog_10_method_4_code
def yX8_takes : MethodName := ⟨RX8, "takes", "(II)Z"⟩
abbrev cX8_forAge : ByteArray := prog_10_method_5_code
def yX8_forAge : MethodName := ⟨RX8, "forAge", "(I)I"⟩
abbrev cX8_become : ByteArray := prog_10_method_6_code
def yX8_become : MethodName := ⟨RX8, "become", "(LSmallRooms$Rooms;)V"⟩
def RX9 : String := "SmallRooms$Sheet"
def TX9 : u_T := fun k => match k with
  | 0 => ("SmallRooms$Sheet", "bits", "I", false)
  | 1 => ("SmallRooms$Sheet", "size", "I", false)
  | _ => ("SmallRooms$Sheet", "numbers", "[I", true)
def tyX9 : Nat → FieldType := fun k => match k with
  | 0 => .int
  | 1 => .int
  | _ => .array .int
abbrev wsX90 : List Cond := u_ws RX9 TX9 3
theorem nmX9 : ∀ a, a < 3 → ∀ b, b < 3 → a ≠ b → (TX9 a).2.1 ≠ (TX9 b).2.1 := by decide +kernel
theorem tyX9_ok : ∀ k, k < 3 → parseFieldDescriptor (TX9 k).2.2.1 = some (tyX9 k) := by decide +kernel
abbrev cX9_init : ByteArray := prog_11_method_1_code
def yX9_init : MethodName := ⟨RX9, "<init>", "()V"⟩
abbrev cX9_isMissing : ByteArray := prog_11_method_2_code
def yX9_isMissing : MethodName := ⟨RX9, "isMissing", "()Z"⟩
abbrev cX9_begin : ByteArray := prog_11_method_3_code
def yX9_begin : MethodName := ⟨RX9, "begin", "(II)V"⟩
abbrev cX9_write : ByteArray := prog_11_method_4_code
def yX9_write : MethodName := ⟨RX9, "write", "(II)V"⟩
abbrev cX9_hasStretch : ByteArray := prog_11_method_5_code
def yX9_hasStretch : MethodName := ⟨RX9, "hasStretch", "(II)Z"⟩
abbrev cX9_rises : ByteArray := prog_11_method_6_code
def yX9_rises : MethodName := ⟨RX9, "rises", "()Z"⟩
abbrev cX9_isAllWithin : ByteArray := prog_11_method_7_code
def yX9_isAllWithin : MethodName := ⟨RX9, "isAllWithin", "(II)Z"⟩
abbrev cX9_isAllSigns : ByteArray := prog_11_method_8_code
def yX9_isAllSigns : MethodName := ⟨RX9, "isAllSigns", "()Z"⟩
def RX10 : String := "SmallRooms$ShiftPlan"
def TX10 : u_T := fun k => match k with
  | _ => ("SmallRooms$ShiftPlan", "begins", "[I", true)
def tyX10 : Nat → FieldType := fun k => match k with
  | _ => .array .int
abbrev wsX100 : List Cond := u_ws RX10 TX10 1
theorem nmX10 : ∀ a, a < 1 → ∀ b, b < 1 → a ≠ b → (TX10 a).2.1 ≠ (TX10 b).2.1 := by decide +kernel
theorem tyX10_ok : ∀ k, k < 1 → parseFieldDescriptor (TX10 k).2.2.1 = some (tyX10 k) := by decide +kernel
abbrev cX10_init : ByteArray := prog_12_method_1_code
def yX10_init : MethodName := ⟨RX10, "<init>", "()V"⟩
abbrev cX10_plan : ByteArray := prog_12_method_2_code
def yX10_plan : MethodName := ⟨RX10, "plan", "([II)I"⟩
abbrev cX10_endedAt : ByteArray := prog_12_method_3_code
def yX10_endedAt : MethodName := ⟨RX10, "endedAt", "(II)I"⟩
abbrev cX10_beginOf : ByteArray := prog_12_method_4_code
def yX10_beginOf : MethodName := ⟨RX10, "beginOf", "(I)I"⟩
abbrev cX10_take : ByteArray := prog_12_method_5_code
def yX10_take : MethodName := ⟨RX10, "take", "(LSmallRooms$Sheet;)V"⟩
abbrev cX10_firstLacking : ByteArray := prog_12_method_6_code
def yX10_firstLacking : MethodName := ⟨RX10, "firstLacking", "([II)I"⟩
def RX11 : String := "SmallRooms"
def TX11 : u_T := fun k => match k with
  | 0 => ("SmallRooms", "nursery", "LSmallRooms$Nursery;", true)
  | 1 => ("SmallRooms", "history", "LSmallRooms$History;", true)
  | 2 => ("SmallRooms", "reckoning", "LSmallRooms$Reckoning;", true)
  | 3 => ("SmallRooms", "planner", "LSmallRooms$Planner;", true)
  | 4 => ("SmallRooms", "shiftPlan", "LSmallRooms$ShiftPlan;", true)
  | 5 => ("SmallRooms", "sheets", "[LSmallRooms$Sheet;", true)
  | _ => ("SmallRooms", "findings", "I", false)
def tyX11 : Nat → FieldType := fun k => match k with
  | 0 => .object "SmallRooms$Nursery"
  | 1 => .object "SmallRooms$History"
  | 2 => .object "SmallRooms$Reckoning"
  | 3 => .object "SmallRooms$Planner"
  | 4 => .object "SmallRooms$ShiftPlan"
  | 5 => .array (.object "SmallRooms$Sheet")
  | _ => .int
abbrev wsX110 : List Cond := u_ws RX11 TX11 7
theorem nmX11 : ∀ a, a < 7 → ∀ b, b < 7 → a ≠ b → (TX11 a).2.1 ≠ (TX11 b).2.1 := by decide +kernel
theorem tyX11_ok : ∀ k, k < 7 → parseFieldDescriptor (TX11 k).2.2.1 = some (tyX11 k) := by decide +kernel
abbrev cX11_init : ByteArray := prog_1_method_1_code
def yX11_init : MethodName := ⟨RX11, "<init>", "()V"⟩
abbrev cX11_room : ByteArray := prog_1_method_2_code
def yX11_room : MethodName := ⟨RX11, "room", "(II)I"⟩
abbrev cX11_hand : ByteArray := prog_1_method_3_code
def yX11_hand : MethodName := ⟨RX11, "hand", "(I)I"⟩
abbrev cX11_as : ByteArray := prog_1_method_4_code
def yX11_as : MethodName := ⟨RX11, "as", "(II)I"⟩
abbrev cX11_child : ByteArray := prog_1_method_5_code
def yX11_child : MethodName := ⟨RX11, "child", "(IIII)I"⟩
abbrev cX11_childIs : ByteArray := prog_1_method_6_code
def yX11_childIs : MethodName := ⟨RX11, "childIs", "(II)I"⟩
abbrev cX11_roomOf : ByteArray := prog_1_method_7_code
def yX11_roomOf : MethodName := ⟨RX11, "roomOf", "(II)I"⟩
abbrev cX11_month : ByteArray := prog_1_method_8_code
def yX11_month : MethodName := ⟨RX11, "month", "(I)I"⟩
abbrev cX11_slot : ByteArray := prog_1_method_9_code
def yX11_slot : MethodName := ⟨RX11, "slot", "(I)I"⟩
abbrev cX11_day : ByteArray := prog_1_method_10_code
def yX11_day : MethodName := ⟨RX11, "day", "()I"⟩
abbrev cX11_in : ByteArray := prog_1_method_11_code
def yX11_in : MethodName := ⟨RX11, "in", "(II)I"⟩
abbrev cX11_to : ByteArray := prog_1_method_12_code
def yX11_to : MethodName := ⟨RX11, "to", "(II)I"⟩
abbrev cX11_over : ByteArray := prog_1_method_13_code
def yX11_over : MethodName := ⟨RX11, "over", "(II)I"⟩
abbrev cX11_fetches : ByteArray := prog_1_method_14_code
def yX11_fetches : MethodName := ⟨RX11, "fetches", "(IIZ)I"⟩
abbrev cX11_place : ByteArray := prog_1_method_15_code
def yX11_place : MethodName := ⟨RX11, "place", "(II)I"⟩
abbrev cX11_ill : ByteArray := prog_1_method_16_code
def yX11_ill : MethodName := ⟨RX11, "ill", "(I)I"⟩
abbrev cX11_now : ByteArray := prog_1_method_17_code
def yX11_now : MethodName := ⟨RX11, "now", "(II)I"⟩
abbrev cX11_lacking : ByteArray := prog_1_method_18_code
def yX11_lacking : MethodName := ⟨RX11, "lacking", "()I"⟩
abbrev cX11_moves : ByteArray := prog_1_method_19_code
def yX11_moves : MethodName := ⟨RX11, "moves", "()I"⟩
abbrev cX11_moved : ByteArray := prog_1_method_20_code
def yX11_moved : MethodName := ⟨RX11, "moved", "(I)I"⟩
abbrev cX11_move : ByteArray := prog_1_method_21_code
def yX11_move : MethodName := ⟨RX11, "move", "()I"⟩
abbrev cX11_roll : ByteArray := prog_1_method_22_code
def yX11_roll : MethodName := ⟨RX11, "roll", "(II)I"⟩
abbrev cX11_sleeps : ByteArray := prog_1_method_23_code
def yX11_sleeps : MethodName := ⟨RX11, "sleeps", "(IZ)I"⟩
abbrev cX11_look : ByteArray := prog_1_method_24_code
def yX11_look : MethodName := ⟨RX11, "look", "(I)I"⟩
abbrev cX11_missed : ByteArray := prog_1_method_25_code
def yX11_missed : MethodName := ⟨RX11, "missed", "(IZ)I"⟩
abbrev cX11_needed : ByteArray := prog_1_method_26_code
def yX11_needed : MethodName := ⟨RX11, "needed", "(III)I"⟩
abbrev cX11_longer : ByteArray := prog_1_method_27_code
def yX11_longer : MethodName := ⟨RX11, "longer", "(I)I"⟩
abbrev cX11_shifts : ByteArray := prog_1_method_28_code
def yX11_shifts : MethodName := ⟨RX11, "shifts", "(I)I"⟩
abbrev cX11_proves : ByteArray := prog_1_method_29_code
def yX11_proves : MethodName := ⟨RX11, "proves", "(I)I"⟩
abbrev cX11_waits : ByteArray := prog_1_method_30_code
def yX11_waits : MethodName := ⟨RX11, "waits", "(I)I"⟩
abbrev cX11_list : ByteArray := prog_1_method_31_code
def yX11_list : MethodName := ⟨RX11, "list", "(I)I"⟩
abbrev cX11_earliest : ByteArray := prog_1_method_32_code
def yX11_earliest : MethodName := ⟨RX11, "earliest", "(I)I"⟩
abbrev cX11_admit : ByteArray := prog_1_method_33_code
def yX11_admit : MethodName := nmOf (tables_1_4[167]?)
abbrev cX11_places : ByteArray := prog_1_method_34_code
def yX11_places : MethodName := ⟨RX11, "places", "(III)I"⟩
abbrev cX11_rate : ByteArray := prog_1_method_35_code
def yX11_rate : MethodName := ⟨RX11, "rate", "(I)I"⟩
abbrev cX11_bill : ByteArray := prog_1_method_36_code
def yX11_bill : MethodName := ⟨RX11, "bill", "(IIIZ)I"⟩
abbrev cX11_text : ByteArray := prog_1_method_37_code
def yX11_text : MethodName := ⟨RX11, "text", "(I)I"⟩
abbrev cX11_wrong : ByteArray := prog_1_method_38_code
def yX11_wrong : MethodName := ⟨RX11, "wrong", "()I"⟩
abbrev cX11_sheet : ByteArray := prog_1_method_39_code
def yX11_sheet : MethodName := ⟨RX11, "sheet", "(III)I"⟩
abbrev cX11_put : ByteArray := prog_1_method_40_code
def yX11_put : MethodName := ⟨RX11, "put", "(III)I"⟩
abbrev cX11_copy : ByteArray := prog_1_method_41_code
def yX11_copy : MethodName := ⟨RX11, "copy", "(IIIII)I"⟩
abbrev cX11_undo : ByteArray := prog_1_method_42_code
def yX11_undo : MethodName := ⟨RX11, "undo", "()I"⟩
abbrev cX11_all : ByteArray := prog_1_method_43_code
def yX11_all : MethodName := ⟨RX11, "all", "(I)I"⟩
abbrev cX11_finding : ByteArray := prog_1_method_44_code
def yX11_finding : MethodName := ⟨RX11, "finding", "(I)I"⟩
abbrev cX11_keep : ByteArray := prog_1_method_45_code
def yX11_keep : MethodName := ⟨RX11, "keep", "()V"⟩
abbrev cX11_sheetFinding : ByteArray := prog_1_method_46_code
def yX11_sheetFinding : MethodName := ⟨RX11, "sheetFinding", "(I)I"⟩
abbrev cX11_hasEnough : ByteArray := prog_1_method_47_code
def yX11_hasEnough : MethodName := ⟨RX11, "hasEnough", "(I)Z"⟩
abbrev cX11_planMoves : ByteArray := prog_1_method_48_code
def yX11_planMoves : MethodName := ⟨RX11, "planMoves", "()Z"⟩
abbrev cX11_leastMonth : ByteArray := prog_1_method_49_code
def yX11_leastMonth : MethodName := ⟨RX11, "leastMonth", "(I)I"⟩
abbrev cX11_isWithin : ByteArray := prog_1_method_50_code
def yX11_isWithin : MethodName := ⟨RX11, "isWithin", "(III)Z"⟩
abbrev cX11_isKind : ByteArray := prog_1_method_51_code
def yX11_isKind : MethodName := ⟨RX11, "isKind", "(I)Z"⟩
abbrev cX11_isMonth : ByteArray := prog_1_method_52_code
def yX11_isMonth : MethodName := ⟨RX11, "isMonth", "(I)Z"⟩
abbrev cX11_isSlot : ByteArray := prog_1_method_53_code
def yX11_isSlot : MethodName := ⟨RX11, "isSlot", "(I)Z"⟩
abbrev cX11_isPerson : ByteArray := prog_1_method_54_code
def yX11_isPerson : MethodName := ⟨RX11, "isPerson", "(I)Z"⟩
abbrev cX11_isSheet : ByteArray := prog_1_method_55_code
def yX11_isSheet : MethodName := ⟨RX11, "isSheet", "(I)Z"⟩
abbrev cX11_isUnder : ByteArray := prog_1_method_56_code
def yX11_isUnder : MethodName := ⟨RX11, "isUnder", "(II)Z"⟩
abbrev cX11_hasBit : ByteArray := prog_1_method_57_code
def yX11_hasBit : MethodName := ⟨RX11, "hasBit", "(II)Z"⟩
abbrev cX11_with : ByteArray := prog_1_method_58_code
def yX11_with : MethodName := ⟨RX11, "with", "(II)I"⟩
abbrev cX11_without : ByteArray := prog_1_method_59_code
def yX11_without : MethodName := ⟨RX11, "without", "(II)I"⟩
abbrev cX11_oneIf : ByteArray := prog_1_method_60_code
def yX11_oneIf : MethodName := ⟨RX11, "oneIf", "(Z)I"⟩
abbrev cX11_quotientUpwards : ByteArray := prog_1_method_61_code
def yX11_quotientUpwards : MethodName := ⟨RX11, "quotientUpwards", "(JJ)J"⟩
def RX12 : String := "SmallRoomsModel"
def TX12 : u_T := fun k => match k with
  | 0 => ("SmallRoomsModel", "d", "[I", true)
  | 1 => ("SmallRoomsModel", "was", "[I", true)
  | 2 => ("SmallRoomsModel", "kept", "I", false)
  | 3 => ("SmallRoomsModel", "findings", "I", false)
  | 4 => ("SmallRoomsModel", "bits", "[I", true)
  | 5 => ("SmallRoomsModel", "sizes", "[I", true)
  | 6 => ("SmallRoomsModel", "numbers", "[I", true)
  | 7 => ("SmallRoomsModel", "pile", "[I", true)
  | 8 => ("SmallRoomsModel", "piled", "I", false)
  | 9 => ("SmallRoomsModel", "counts", "[I", true)
  | 10 => ("SmallRoomsModel", "sets", "[I", true)
  | 11 => ("SmallRoomsModel", "needs", "[I", true)
  | 12 => ("SmallRoomsModel", "filled", "[Z", true)
  | 13 => ("SmallRoomsModel", "tried", "[I", true)
  | 14 => ("SmallRoomsModel", "best", "[I", true)
  | 15 => ("SmallRoomsModel", "fewest", "I", false)
  | 16 => ("SmallRoomsModel", "there", "[I", true)
  | 17 => ("SmallRoomsModel", "begins", "[I", true)
  | 18 => ("SmallRoomsModel", "shiftMany", "I", false)
  | _ => ("SmallRoomsModel", "carried", "[I", true)
def tyX12 : Nat → FieldType := fun k => match k with
  | 0 => .array .int
  | 1 => .array .int
  | 2 => .int
  | 3 => .int
  | 4 => .array .int
  | 5 => .array .int
  | 6 => .array .int
  | 7 => .array .int
  | 8 => .int
  | 9 => .array .int
  | 10 => .array .int
  | 11 => .array .int
  | 12 => .array .boolean
  | 13 => .array .int
  | 14 => .array .int
  | 15 => .int
  | 16 => .array .int
  | 17 => .array .int
  | 18 => .int
  | _ => .array .int
abbrev wsX120 : List Cond := u_ws RX12 TX12 20
theorem nmX12 : ∀ a, a < 20 → ∀ b, b < 20 → a ≠ b → (TX12 a).2.1 ≠ (TX12 b).2.1 := by decide +kernel
theorem tyX12_ok : ∀ k, k < 20 → parseFieldDescriptor (TX12 k).2.2.1 = some (tyX12 k) := by decide +kernel
abbrev cX12_init : ByteArray := prog_14_method_1_code
def yX12_init : MethodName := ⟨RX12, "<init>", "()V"⟩
abbrev cX12_finding : ByteArray := prog_14_method_2_code
def yX12_finding : MethodName := ⟨RX12, "finding", "(I)I"⟩
abbrev cX12_isIn : ByteArray := prog_14_method_3_code
def yX12_isIn : MethodName := ⟨RX12, "isIn", "(III)Z"⟩
abbrev cX12_keep : ByteArray := prog_14_method_4_code
def yX12_keep : MethodName := ⟨RX12, "keep", "()V"⟩
abbrev cX12_isRoom : ByteArray := prog_14_method_5_code
def yX12_isRoom : MethodName := ⟨RX12, "isRoom", "(I)Z"⟩
abbrev cX12_isHand : ByteArray := prog_14_method_6_code
def yX12_isHand : MethodName := ⟨RX12, "isHand", "(I)Z"⟩
abbrev cX12_isChild : ByteArray := prog_14_method_7_code
def yX12_isChild : MethodName := ⟨RX12, "isChild", "(I)Z"⟩
abbrev cX12_ones : ByteArray := prog_14_method_8_code
def yX12_ones : MethodName := ⟨RX12, "ones", "(I)I"⟩
abbrev cX12_room : ByteArray := prog_14_method_9_code
def yX12_room : MethodName := ⟨RX12, "room", "(II)I"⟩
abbrev cX12_hand : ByteArray := prog_14_method_10_code
def yX12_hand : MethodName := ⟨RX12, "hand", "(I)I"⟩
abbrev cX12_isTrained : ByteArray := prog_14_method_11_code
def yX12_isTrained : MethodName := ⟨RX12, "isTrained", "(I)Z"⟩
abbrev cX12_as : ByteArray := prog_14_method_12_code
def yX12_as : MethodName := ⟨RX12, "as", "(II)I"⟩
abbrev cX12_child : ByteArray := prog_14_method_13_code
def yX12_child : MethodName := ⟨RX12, "child", "(IIII)I"⟩
abbrev cX12_childIs : ByteArray := prog_14_method_14_code
def yX12_childIs : MethodName := ⟨RX12, "childIs", "(II)I"⟩
abbrev cX12_takes : ByteArray := prog_14_method_15_code
def yX12_takes : MethodName := ⟨RX12, "takes", "(II)Z"⟩
abbrev cX12_roomIn : ByteArray := prog_14_method_16_code
def yX12_roomIn : MethodName := ⟨RX12, "roomIn", "(II)I"⟩
abbrev cX12_isMonth : ByteArray := prog_14_method_17_code
def yX12_isMonth : MethodName := ⟨RX12, "isMonth", "(I)Z"⟩
abbrev cX12_roomOf : ByteArray := prog_14_method_18_code
def yX12_roomOf : MethodName := ⟨RX12, "roomOf", "(II)I"⟩
abbrev cX12_month : ByteArray := prog_14_method_19_code
def yX12_month : MethodName := ⟨RX12, "month", "(I)I"⟩
abbrev cX12_slot : ByteArray := prog_14_method_20_code
def yX12_slot : MethodName := ⟨RX12, "slot", "(I)I"⟩
abbrev cX12_day : ByteArray := prog_14_method_21_code
def yX12_day : MethodName := ⟨RX12, "day", "()I"⟩
abbrev cX12_childrenIn : ByteArray := prog_14_method_22_code
def yX12_childrenIn : MethodName := ⟨RX12, "childrenIn", "(I)I"⟩
abbrev cX12_lead : ByteArray := prog_14_method_23_code
def yX12_lead : MethodName := ⟨RX12, "lead", "(IIIIII)V"⟩
abbrev cX12_leadRoll : ByteArray := prog_14_method_24_code
def yX12_leadRoll : MethodName := ⟨RX12, "leadRoll", "(II)V"⟩
abbrev cX12_leadSleep : ByteArray := prog_14_method_25_code
def yX12_leadSleep : MethodName := ⟨RX12, "leadSleep", "(II)V"⟩
abbrev cX12_in : ByteArray := prog_14_method_26_code
def yX12_in : MethodName := ⟨RX12, "in", "(II)I"⟩
abbrev cX12_to : ByteArray := prog_14_method_27_code
def yX12_to : MethodName := ⟨RX12, "to", "(II)I"⟩
abbrev cX12_over : ByteArray := prog_14_method_28_code
def yX12_over : MethodName := ⟨RX12, "over", "(II)I"⟩
abbrev cX12_fetches : ByteArray := prog_14_method_29_code
def yX12_fetches : MethodName := ⟨RX12, "fetches", "(IIZ)I"⟩
abbrev cX12_place : ByteArray := prog_14_method_30_code
def yX12_place : MethodName := ⟨RX12, "place", "(II)I"⟩
abbrev cX12_ill : ByteArray := prog_14_method_31_code
def yX12_ill : MethodName := ⟨RX12, "ill", "(I)I"⟩
abbrev cX12_goes : ByteArray := prog_14_method_32_code
def yX12_goes : MethodName := ⟨RX12, "goes", "(I)Z"⟩
abbrev cX12_read : ByteArray := prog_14_method_33_code
def yX12_read : MethodName := ⟨RX12, "read", "()I"⟩
abbrev cX12_upwards : ByteArray := prog_14_method_34_code
def yX12_upwards : MethodName := ⟨RX12, "upwards", "(II)I"⟩
abbrev cX12_needOf : ByteArray := prog_14_method_35_code
def yX12_needOf : MethodName := ⟨RX12, "needOf", "(I)I"⟩
abbrev cX12_worthOf : ByteArray := prog_14_method_36_code
def yX12_worthOf : MethodName := ⟨RX12, "worthOf", "(I)I"⟩
abbrev cX12_handsIn : ByteArray := prog_14_method_37_code
def yX12_handsIn : MethodName := ⟨RX12, "handsIn", "(I)I"⟩
abbrev cX12_areEnough : ByteArray := prog_14_method_38_code
def yX12_areEnough : MethodName := ⟨RX12, "areEnough", "(IIZ)Z"⟩
abbrev cX12_hasEnough : ByteArray := prog_14_method_39_code
def yX12_hasEnough : MethodName := ⟨RX12, "hasEnough", "(I)Z"⟩
abbrev cX12_now : ByteArray := prog_14_method_40_code
def yX12_now : MethodName := ⟨RX12, "now", "(II)I"⟩
abbrev cX12_lacking : ByteArray := prog_14_method_41_code
def yX12_lacking : MethodName := ⟨RX12, "lacking", "()I"⟩
abbrev cX12_tries : ByteArray := prog_14_method_42_code
def yX12_tries : MethodName := ⟨RX12, "tries", "(II)V"⟩
abbrev cX12_findMoves : ByteArray := prog_14_method_43_code
def yX12_findMoves : MethodName := ⟨RX12, "findMoves", "()Z"⟩
abbrev cX12_moves : ByteArray := prog_14_method_44_code
def yX12_moves : MethodName := ⟨RX12, "moves", "()I"⟩
abbrev cX12_moved : ByteArray := prog_14_method_45_code
def yX12_moved : MethodName := ⟨RX12, "moved", "(I)I"⟩
abbrev cX12_move : ByteArray := prog_14_method_46_code
def yX12_move : MethodName := ⟨RX12, "move", "()I"⟩
abbrev cX12_wasIn : ByteArray := prog_14_method_47_code
def yX12_wasIn : MethodName := ⟨RX12, "wasIn", "(II)Z"⟩
abbrev cX12_roll : ByteArray := prog_14_method_48_code
def yX12_roll : MethodName := ⟨RX12, "roll", "(II)I"⟩
abbrev cX12_sleeps : ByteArray := prog_14_method_49_code
def yX12_sleeps : MethodName := ⟨RX12, "sleeps", "(IZ)I"⟩
abbrev cX12_look : ByteArray := prog_14_method_50_code
def yX12_look : MethodName := ⟨RX12, "look", "(I)I"⟩
abbrev cX12_missed : ByteArray := prog_14_method_51_code
def yX12_missed : MethodName := ⟨RX12, "missed", "(IZ)I"⟩
abbrev cX12_needed : ByteArray := prog_14_method_52_code
def yX12_needed : MethodName := ⟨RX12, "needed", "(III)I"⟩
abbrev cX12_longer : ByteArray := prog_14_method_53_code
def yX12_longer : MethodName := ⟨RX12, "longer", "(I)I"⟩
abbrev cX12_putShift : ByteArray := prog_14_method_54_code
def yX12_putShift : MethodName := ⟨RX12, "putShift", "(I)V"⟩
abbrev cX12_findShifts : ByteArray := prog_14_method_55_code
def yX12_findShifts : MethodName := ⟨RX12, "findShifts", "()V"⟩
abbrev cX12_shifts : ByteArray := prog_14_method_56_code
def yX12_shifts : MethodName := ⟨RX12, "shifts", "(I)I"⟩
abbrev cX12_proves : ByteArray := prog_14_method_57_code
def yX12_proves : MethodName := ⟨RX12, "proves", "(I)I"⟩
abbrev cX12_listed : ByteArray := prog_14_method_58_code
def yX12_listed : MethodName := ⟨RX12, "listed", "(I)I"⟩
abbrev cX12_waits : ByteArray := prog_14_method_59_code
def yX12_waits : MethodName := ⟨RX12, "waits", "(I)I"⟩
abbrev cX12_areSiblings : ByteArray := prog_14_method_60_code
def yX12_areSiblings : MethodName := ⟨RX12, "areSiblings", "(II)Z"⟩
abbrev cX12_hasSibling : ByteArray := prog_14_method_61_code
def yX12_hasSibling : MethodName := ⟨RX12, "hasSibling", "(I)Z"⟩
abbrev cX12_list : ByteArray := prog_14_method_62_code
def yX12_list : MethodName := ⟨RX12, "list", "(I)I"⟩
abbrev cX12_haveIn : ByteArray := prog_14_method_63_code
def yX12_haveIn : MethodName := ⟨RX12, "haveIn", "(III)I"⟩
abbrev cX12_can : ByteArray := prog_14_method_64_code
def yX12_can : MethodName := ⟨RX12, "can", "(II)Z"⟩
abbrev cX12_leastMonth : ByteArray := prog_14_method_65_code
def yX12_leastMonth : MethodName := ⟨RX12, "leastMonth", "(I)I"⟩
abbrev cX12_earliest : ByteArray := prog_14_method_66_code
def yX12_earliest : MethodName := ⟨RX12, "earliest", "(I)I"⟩
abbrev cX12_admit : ByteArray := prog_14_method_67_code
def yX12_admit : MethodName := nmOf (tables_1_6[104]?)
abbrev cX12_places : ByteArray := prog_14_method_68_code
def yX12_places : MethodName := ⟨RX12, "places", "(III)I"⟩
abbrev cX12_rate : ByteArray := prog_14_method_69_code
def yX12_rate : MethodName := ⟨RX12, "rate", "(I)I"⟩
abbrev cX12_bill : ByteArray := prog_14_method_70_code
def yX12_bill : MethodName := ⟨RX12, "bill", "(IIIZ)I"⟩
abbrev cX12_isSheet : ByteArray := prog_14_method_71_code
def yX12_isSheet : MethodName := ⟨RX12, "isSheet", "(I)Z"⟩
abbrev cX12_text : ByteArray := prog_14_method_72_code
def yX12_text : MethodName := ⟨RX12, "text", "(I)I"⟩
abbrev cX12_wrong : ByteArray := prog_14_method_73_code
def yX12_wrong : MethodName := ⟨RX12, "wrong", "()I"⟩
abbrev cX12_lowest : ByteArray := prog_14_method_74_code
def yX12_lowest : MethodName := ⟨RX12, "lowest", "(II)I"⟩
abbrev cX12_sheet : ByteArray := prog_14_method_75_code
def yX12_sheet : MethodName := ⟨RX12, "sheet", "(III)I"⟩
abbrev cX12_put : ByteArray := prog_14_method_76_code
def yX12_put : MethodName := ⟨RX12, "put", "(III)I"⟩
abbrev cX12_copy : ByteArray := prog_14_method_77_code
def yX12_copy : MethodName := ⟨RX12, "copy", "(IIIII)I"⟩
abbrev cX12_undo : ByteArray := prog_14_method_78_code
def yX12_undo : MethodName := ⟨RX12, "undo", "()I"⟩
abbrev cX12_all : ByteArray := prog_14_method_79_code
def yX12_all : MethodName := ⟨RX12, "all", "(I)I"⟩
def RJ6 : String := "java/lang/Integer"
def TJ6 : u_T := fun k => match k with
  | _ => ("", "", "", false)
def tyJ6 : Nat → FieldType := fun k => match k with
  | _ => .int
abbrev wsJ60 : List Cond := u_ws RJ6 TJ6 0
theorem nmJ6 : ∀ a, a < 0 → ∀ b, b < 0 → a ≠ b → (TJ6 a).2.1 ≠ (TJ6 b).2.1 := by decide +kernel
theorem tyJ6_ok : ∀ k, k < 0 → parseFieldDescriptor (TJ6 k).2.2.1 = some (tyJ6 k) := by decide +kernel
abbrev cJ6_bitCount_0f7a4 : ByteArray := prog_15_method_49_code
def yJ6_bitCount_0f7a4 : MethodName := ⟨RJ6, "bitCount", "(I)I"⟩
def RJ9 : String := "java/lang/Math"
def TJ9 : u_T := fun k => match k with
  | _ => ("", "", "", false)
def tyJ9 : Nat → FieldType := fun k => match k with
  | _ => .int
abbrev wsJ90 : List Cond := u_ws RJ9 TJ9 0
theorem nmJ9 : ∀ a, a < 0 → ∀ b, b < 0 → a ≠ b → (TJ9 a).2.1 ≠ (TJ9 b).2.1 := by decide +kernel
theorem tyJ9_ok : ∀ k, k < 0 → parseFieldDescriptor (TJ9 k).2.2.1 = some (tyJ9 k) := by decide +kernel
abbrev cJ9_floorDiv_f86c9 : ByteArray := prog_16_method_49_code
def yJ9_floorDiv_f86c9 : MethodName := ⟨RJ9, "floorDiv", "(JJ)J"⟩
abbrev cJ9_max_7cf53 : ByteArray := prog_16_method_65_code
def yJ9_max_7cf53 : MethodName := ⟨RJ9, "max", "(II)I"⟩
abbrev cJ9_max_f86c9 : ByteArray := prog_16_method_66_code
def yJ9_max_f86c9 : MethodName := ⟨RJ9, "max", "(JJ)J"⟩
abbrev cJ9_min_7cf53 : ByteArray := prog_16_method_69_code
def yJ9_min_7cf53 : MethodName := ⟨RJ9, "min", "(II)I"⟩
abbrev cJ9_min_f86c9 : ByteArray := prog_16_method_70_code
def yJ9_min_f86c9 : MethodName := ⟨RJ9, "min", "(JJ)J"⟩
def RJ10 : String := "java/lang/System"
def TJ10 : u_T := fun k => match k with
  | _ => ("", "", "", false)
def tyJ10 : Nat → FieldType := fun k => match k with
  | _ => .int
abbrev wsJ100 : List Cond := u_ws RJ10 TJ10 0
theorem nmJ10 : ∀ a, a < 0 → ∀ b, b < 0 → a ≠ b → (TJ10 a).2.1 ≠ (TJ10 b).2.1 := by decide +kernel
theorem tyJ10_ok : ∀ k, k < 0 → parseFieldDescriptor (TJ10 k).2.2.1 = some (tyJ10 k) := by decide +kernel
def RJ7 : String := "java/util/Arrays"
def TJ7 : u_T := fun k => match k with
  | _ => ("", "", "", false)
def tyJ7 : Nat → FieldType := fun k => match k with
  | _ => .int
abbrev wsJ70 : List Cond := u_ws RJ7 TJ7 0
theorem nmJ7 : ∀ a, a < 0 → ∀ b, b < 0 → a ≠ b → (TJ7 a).2.1 ≠ (TJ7 b).2.1 := by decide +kernel
theorem tyJ7_ok : ∀ k, k < 0 → parseFieldDescriptor (TJ7 k).2.2.1 = some (tyJ7 k) := by decide +kernel
abbrev cJ7_fill_53178 : ByteArray := prog_18_method_103_code
def yJ7_fill_53178 : MethodName := ⟨RJ7, "fill", "([II)V"⟩
def RL : String := "SmallRoomsLaw"
abbrev cL_law : ByteArray := code
def yL_law : MethodName := ⟨RL, "law", "([I)Z"⟩
def wsL_law_r1 : List Cond := [Cond.classLink RL 7 RX11, Cond.instantiable RX11 7, Cond.initialized RX11, Cond.classLink RL 10 RX12, Cond.instantiable RX12 20, Cond.initialized RX12, Cond.methodLink RL 9 yX11_init, Cond.instanceMethod yX11_init, Cond.code yX11_init cX11_init 2 none, Cond.methodLink RX11 1 objectInit, Cond.instanceMethod objectInit, Cond.code objectInit ⟨#[0xb1]⟩ 1 none, Cond.classLink RX11 7 RX4, Cond.instantiable RX4 11, Cond.initialized RX4, Cond.fieldLink RX11 10 "SmallRooms" "nursery" "LSmallRooms$Nursery;", Cond.classLink RX11 16 RX2, Cond.instantiable RX2 3, Cond.initialized RX2, Cond.fieldLink RX11 19 "SmallRooms" "history" "LSmallRooms$History;", Cond.classLink RX11 23 RX7, Cond.instantiable RX7 2, Cond.initialized RX7, Cond.fieldLink RX11 26 "SmallRooms" "reckoning" "LSmallRooms$Reckoning;"]
def wsL_law_r2 : List Cond := [Cond.classLink RX11 30 RX5, Cond.instantiable RX5 5, Cond.initialized RX5, Cond.fieldLink RX11 33 "SmallRooms" "planner" "LSmallRooms$Planner;", Cond.classLink RX11 37 RX10, Cond.instantiable RX10 1, Cond.initialized RX10, Cond.fieldLink RX11 40 "SmallRooms" "shiftPlan" "LSmallRooms$ShiftPlan;", Cond.classLink RX11 44 RX9, Cond.fieldLink RX11 46 "SmallRooms" "sheets" "[LSmallRooms$Sheet;", Cond.instantiable RX9 3, Cond.initialized RX9, Cond.instanceMethod yX4_init, Cond.code yX4_init cX4_init 1 none, Cond.methodLink RX4 3 objectInit, Cond.classLink RX4 9 RX8, Cond.instantiable RX8 4, Cond.initialized RX8, Cond.fieldLink RX4 12 "SmallRooms$Nursery" "rooms" "LSmallRooms$Rooms;", Cond.classLink RX4 18 RX1, Cond.instantiable RX1 4, Cond.initialized RX1, Cond.fieldLink RX4 21 "SmallRooms$Nursery" "hands" "LSmallRooms$Hands;", Cond.classLink RX4 25 RX0]
def wsL_law_r3 : List Cond := [Cond.instantiable RX0 12, Cond.initialized RX0, Cond.fieldLink RX4 28 "SmallRooms$Nursery" "children" "LSmallRooms$Children;", Cond.classLink RX4 32 RX3, Cond.instantiable RX3 4, Cond.initialized RX3, Cond.fieldLink RX4 35 "SmallRooms$Nursery" "roll" "LSmallRooms$Log;", Cond.fieldLink RX4 39 "SmallRooms$Nursery" "sleep" "LSmallRooms$Log;", Cond.classLink RX4 42 RX6, Cond.instantiable RX6 3, Cond.initialized RX6, Cond.fieldLink RX4 45 "SmallRooms$Nursery" "ratio" "LSmallRooms$Ratio;", Cond.arrayClass .int, Cond.fieldLink RX4 49 "SmallRooms$Nursery" "needed" "[I", Cond.fieldLink RX4 53 "SmallRooms$Nursery" "longSlots" "I", Cond.fieldLink RX4 57 "SmallRooms$Nursery" "rate" "I", Cond.instanceMethod yX8_init, Cond.code yX8_init cX8_init 1 none, Cond.methodLink RX8 3 objectInit, Cond.fieldLink RX8 9 "SmallRooms$Rooms" "from" "[I", Cond.fieldLink RX8 15 "SmallRooms$Rooms" "to" "[I", Cond.fieldLink RX8 18 "SmallRooms$Rooms" "most" "[I", Cond.instanceMethod yX1_init, Cond.code yX1_init cX1_init 1 none]
def wsL_law_r4 : List Cond := [Cond.methodLink RX1 3 objectInit, Cond.fieldLink RX1 9 "SmallRooms$Hands" "kind" "[I", Cond.fieldLink RX1 15 "SmallRooms$Hands" "room" "[I", Cond.instanceMethod yX0_init, Cond.code yX0_init cX0_init 1 none, Cond.methodLink RX0 3 objectInit, Cond.fieldLink RX0 9 "SmallRooms$Children" "birth" "[I", Cond.fieldLink RX0 15 "SmallRooms$Children" "sibling" "[I", Cond.fieldLink RX0 18 "SmallRooms$Children" "sessions" "[I", Cond.fieldLink RX0 21 "SmallRooms$Children" "first" "[I", Cond.fieldLink RX0 24 "SmallRooms$Children" "last" "[I", Cond.fieldLink RX0 27 "SmallRooms$Children" "room" "[I", Cond.fieldLink RX0 30 "SmallRooms$Children" "persons" "[I", Cond.fieldLink RX0 33 "SmallRooms$Children" "waiting" "[I", Cond.instanceMethod yX3_init, Cond.code yX3_init cX3_init 1 none, Cond.methodLink RX3 3 objectInit, Cond.fieldLink RX3 9 "SmallRooms$Log" "slots" "[I", Cond.fieldLink RX3 15 "SmallRooms$Log" "children" "[I", Cond.fieldLink RX3 18 "SmallRooms$Log" "acts" "[I", Cond.instanceMethod yX6_init, Cond.code yX6_init cX6_init 1 none, Cond.methodLink RX6 3 objectInit, Cond.fieldLink RX6 9 "SmallRooms$Ratio" "signs" "[I"]
def wsL_law_r5 : List Cond := [Cond.instanceMethod yX2_init, Cond.code yX2_init cX2_init 1 none, Cond.methodLink RX2 3 objectInit, Cond.classLink RX2 9 RX4, Cond.fieldLink RX2 11 "SmallRooms$History" "kept" "[LSmallRooms$Nursery;", Cond.instanceMethod yX7_init, Cond.code yX7_init cX7_init 1 none, Cond.methodLink RX7 3 objectInit, Cond.fieldLink RX7 9 "SmallRooms$Reckoning" "counted" "[I", Cond.arrayClass .long, Cond.fieldLink RX7 15 "SmallRooms$Reckoning" "row" "[J", Cond.instanceMethod yX5_init, Cond.code yX5_init cX5_init 1 none, Cond.methodLink RX5 3 objectInit, Cond.fieldLink RX5 11 "SmallRooms$Planner" "least" "[I", Cond.fieldLink RX5 15 "SmallRooms$Planner" "cost" "[I", Cond.fieldLink RX5 18 "SmallRooms$Planner" "worth" "[I", Cond.instanceMethod yX10_init, Cond.code yX10_init cX10_init 1 none, Cond.methodLink RX10 3 objectInit, Cond.fieldLink RX10 9 "SmallRooms$ShiftPlan" "begins" "[I", Cond.instanceMethod yX9_init, Cond.code yX9_init cX9_init 1 none, Cond.methodLink RX9 3 objectInit]
def wsL_law_r6 : List Cond := [Cond.fieldLink RX9 9 "SmallRooms$Sheet" "numbers" "[I", Cond.methodLink RL 12 yX12_init, Cond.instanceMethod yX12_init, Cond.code yX12_init cX12_init 1 none, Cond.methodLink RX12 1 objectInit, Cond.fieldLink RX12 7 "SmallRoomsModel" "d" "[I", Cond.fieldLink RX12 13 "SmallRoomsModel" "was" "[I", Cond.fieldLink RX12 16 "SmallRoomsModel" "bits" "[I", Cond.fieldLink RX12 19 "SmallRoomsModel" "sizes" "[I", Cond.fieldLink RX12 22 "SmallRoomsModel" "numbers" "[I", Cond.fieldLink RX12 25 "SmallRoomsModel" "pile" "[I", Cond.fieldLink RX12 28 "SmallRoomsModel" "counts" "[I", Cond.fieldLink RX12 31 "SmallRoomsModel" "sets" "[I", Cond.fieldLink RX12 34 "SmallRoomsModel" "needs" "[I", Cond.arrayClass .boolean, Cond.fieldLink RX12 37 "SmallRoomsModel" "filled" "[Z", Cond.fieldLink RX12 41 "SmallRoomsModel" "tried" "[I", Cond.fieldLink RX12 44 "SmallRoomsModel" "best" "[I", Cond.fieldLink RX12 47 "SmallRoomsModel" "there" "[I", Cond.fieldLink RX12 50 "SmallRoomsModel" "begins" "[I", Cond.fieldLink RX12 53 "SmallRoomsModel" "carried" "[I", Cond.methodLink RL 13 yX11_room, Cond.instanceMethod yX11_room, Cond.selects RX11 yX11_room yX11_room]
def wsL_law_r7 : List Cond := [Cond.code yX11_room cX11_room 5 (some .int), Cond.constant RX11 55 (-100001), Cond.constant RX11 60 (-100003), Cond.fieldLink RX11 61 "SmallRooms$Nursery" "rooms" "LSmallRooms$Rooms;", Cond.fieldLink RX11 65 "SmallRooms$Rooms" "count" "I", Cond.constant RX11 71 (-100005), Cond.methodLink RX11 51 yX11_isWithin, Cond.static yX11_isWithin, Cond.code yX11_isWithin cX11_isWithin 3 (some .boolean), Cond.methodLink RX11 56 yX11_finding, Cond.instanceMethod yX11_finding, Cond.selects RX11 yX11_finding yX11_finding, Cond.code yX11_finding cX11_finding 2 (some .int), Cond.fieldLink RX11 364 "SmallRooms" "findings" "I", Cond.methodLink RX11 72 yX11_keep, Cond.instanceMethod yX11_keep, Cond.selects RX11 yX11_keep yX11_keep, Cond.code yX11_keep cX11_keep 1 none, Cond.methodLink RX11 367 yX2_add, Cond.instanceMethod yX2_add, Cond.selects RX2 yX2_add yX2_add, Cond.code yX2_add cX2_add 2 none, Cond.fieldLink RX2 17 "SmallRooms$History" "next" "I", Cond.fieldLink RX2 26 "SmallRooms$History" "count" "I"]
def wsL_law_r8 : List Cond := [Cond.methodLink RX2 29 Lib.Math.min.name, Cond.static Lib.Math.min.name, Cond.initialized "java/lang/Math", Cond.code Lib.Math.min.name Lib.Math.min.code 2 (some .int), Cond.methodLink RX2 22 yX4_become, Cond.instanceMethod yX4_become, Cond.selects RX4 yX4_become yX4_become, Cond.code yX4_become cX4_become 2 none, Cond.methodLink RX4 159 arraycopyName, Cond.native arraycopyName, Cond.static arraycopyName, Cond.initialized "java/lang/System", Cond.fieldLink RX4 60 "SmallRooms$Nursery" "month" "I", Cond.fieldLink RX4 93 "SmallRooms$Nursery" "slot" "I", Cond.methodLink RX4 143 yX8_become, Cond.instanceMethod yX8_become, Cond.selects RX8 yX8_become yX8_become, Cond.code yX8_become cX8_become 2 none, Cond.fieldLink RX8 21 "SmallRooms$Rooms" "count" "I", Cond.methodLink RX8 25 arraycopyName, Cond.methodLink RX4 147 yX1_become, Cond.instanceMethod yX1_become, Cond.selects RX1 yX1_become yX1_become, Cond.code yX1_become cX1_become 2 none]
def wsL_law_r9 : List Cond := [Cond.fieldLink RX1 18 "SmallRooms$Hands" "count" "I", Cond.methodLink RX1 43 arraycopyName, Cond.fieldLink RX1 22 "SmallRooms$Hands" "ill" "I", Cond.methodLink RX4 150 yX0_become, Cond.instanceMethod yX0_become, Cond.selects RX0 yX0_become yX0_become, Cond.code yX0_become cX0_become 2 none, Cond.fieldLink RX0 36 "SmallRooms$Children" "count" "I", Cond.fieldLink RX0 69 "SmallRooms$Children" "waiters" "I", Cond.methodLink RX0 84 arraycopyName, Cond.fieldLink RX0 40 "SmallRooms$Children" "asleep" "I", Cond.fieldLink RX0 47 "SmallRooms$Children" "admitted" "I", Cond.methodLink RX4 153 yX3_become, Cond.instanceMethod yX3_become, Cond.selects RX3 yX3_become yX3_become, Cond.code yX3_become cX3_become 2 none, Cond.fieldLink RX3 21 "SmallRooms$Log" "count" "I", Cond.methodLink RX3 28 arraycopyName, Cond.methodLink RX4 156 yX6_become, Cond.instanceMethod yX6_become, Cond.selects RX6 yX6_become yX6_become, Cond.code yX6_become cX6_become 2 none, Cond.fieldLink RX6 27 "SmallRooms$Ratio" "count" "I", Cond.fieldLink RX6 43 "SmallRooms$Ratio" "wrongAt" "I"]
def wsL_law_r10 : List Cond := [Cond.methodLink RX6 33 arraycopyName, Cond.methodLink RX11 75 yX8_add, Cond.instanceMethod yX8_add, Cond.selects RX8 yX8_add yX8_add, Cond.code yX8_add cX8_add 4 (some .int), Cond.methodLink RL 17 yX12_room, Cond.instanceMethod yX12_room, Cond.selects RX12 yX12_room yX12_room, Cond.code yX12_room cX12_room 4 (some .int), Cond.methodLink RX12 64 yX12_isIn, Cond.static yX12_isIn, Cond.code yX12_isIn cX12_isIn 3 (some .boolean), Cond.methodLink RX12 68 yX12_finding, Cond.instanceMethod yX12_finding, Cond.selects RX12 yX12_finding yX12_finding, Cond.code yX12_finding cX12_finding 2 (some .int), Cond.fieldLink RX12 56 "SmallRoomsModel" "findings" "I", Cond.constant RX12 60 (-100000), Cond.methodLink RX12 72 yX12_keep, Cond.instanceMethod yX12_keep, Cond.selects RX12 yX12_keep yX12_keep, Cond.code yX12_keep cX12_keep 2 none, Cond.fieldLink RX12 61 "SmallRoomsModel" "kept" "I", Cond.methodLink RL 18 yX11_hand]
def wsL_law_r11 : List Cond := [Cond.instanceMethod yX11_hand, Cond.selects RX11 yX11_hand yX11_hand, Cond.code yX11_hand cX11_hand 2 (some .int), Cond.fieldLink RX11 83 "SmallRooms$Nursery" "hands" "LSmallRooms$Hands;", Cond.fieldLink RX11 87 "SmallRooms$Hands" "count" "I", Cond.methodLink RX11 79 yX11_isKind, Cond.static yX11_isKind, Cond.code yX11_isKind cX11_isKind 1 (some .boolean), Cond.methodLink RX11 90 yX1_add, Cond.instanceMethod yX1_add, Cond.selects RX1 yX1_add yX1_add, Cond.code yX1_add cX1_add 2 (some .int), Cond.static yX11_without, Cond.code yX11_without cX11_without 2 (some .int), Cond.methodLink RL 22 yX12_hand, Cond.instanceMethod yX12_hand, Cond.selects RX12 yX12_hand yX12_hand, Cond.code yX12_hand cX12_hand 3 (some .int), Cond.methodLink RL 23 yX11_as, Cond.instanceMethod yX11_as, Cond.selects RX11 yX11_as yX11_as, Cond.code yX11_as cX11_as 3 (some .int), Cond.fieldLink RX11 95 "SmallRooms$Hands" "kind" "[I", Cond.constant RX11 103 (-100004)]
def wsL_law_r12 : List Cond := [Cond.methodLink RX11 92 yX1_has, Cond.instanceMethod yX1_has, Cond.selects RX1 yX1_has yX1_has, Cond.code yX1_has cX1_has 2 (some .boolean), Cond.methodLink RX11 99 yX11_isUnder, Cond.static yX11_isUnder, Cond.code yX11_isUnder cX11_isUnder 2 (some .boolean), Cond.methodLink RL 26 yX12_as, Cond.instanceMethod yX12_as, Cond.selects RX12 yX12_as yX12_as, Cond.code yX12_as cX12_as 3 (some .int), Cond.methodLink RX12 75 yX12_isHand, Cond.instanceMethod yX12_isHand, Cond.selects RX12 yX12_isHand yX12_isHand, Cond.code yX12_isHand cX12_isHand 2 (some .boolean), Cond.methodLink RX12 79 yX12_isTrained, Cond.instanceMethod yX12_isTrained, Cond.selects RX12 yX12_isTrained yX12_isTrained, Cond.code yX12_isTrained cX12_isTrained 2 (some .boolean), Cond.methodLink RL 27 yX11_child, Cond.instanceMethod yX11_child, Cond.selects RX11 yX11_child yX11_child, Cond.code yX11_child cX11_child 8 (some .int), Cond.fieldLink RX11 104 "SmallRooms$Nursery" "children" "LSmallRooms$Children;"]
def wsL_law_r13 : List Cond := [Cond.fieldLink RX11 114 "SmallRooms$Children" "count" "I", Cond.methodLink RX11 108 yX0_has, Cond.instanceMethod yX0_has, Cond.selects RX0 yX0_has yX0_has, Cond.code yX0_has cX0_has 2 (some .boolean), Cond.methodLink RX11 111 yX11_isMonth, Cond.static yX11_isMonth, Cond.code yX11_isMonth cX11_isMonth 1 (some .boolean), Cond.methodLink RX11 115 yX0_add, Cond.instanceMethod yX0_add, Cond.selects RX0 yX0_add yX0_add, Cond.code yX0_add cX0_add 6 (some .int), Cond.methodLink RL 31 yX12_child, Cond.instanceMethod yX12_child, Cond.selects RX12 yX12_child yX12_child, Cond.code yX12_child cX12_child 6 (some .int), Cond.methodLink RX12 82 yX12_isChild, Cond.instanceMethod yX12_isChild, Cond.selects RX12 yX12_isChild yX12_isChild, Cond.code yX12_isChild cX12_isChild 2 (some .boolean), Cond.methodLink RL 32 yX11_childIs, Cond.instanceMethod yX11_childIs, Cond.selects RX11 yX11_childIs yX11_childIs, Cond.code yX11_childIs cX11_childIs 4 (some .int)]
def wsL_law_r14 : List Cond := [Cond.fieldLink RX11 118 "SmallRooms$Children" "birth" "[I", Cond.fieldLink RX11 121 "SmallRooms$Children" "sibling" "[I", Cond.fieldLink RX11 124 "SmallRooms$Children" "sessions" "[I", Cond.fieldLink RX11 127 "SmallRooms$Children" "first" "[I", Cond.fieldLink RX11 130 "SmallRooms$Children" "last" "[I", Cond.fieldLink RX11 133 "SmallRooms$Children" "room" "[I", Cond.fieldLink RX11 136 "SmallRooms$Children" "asleep" "I", Cond.fieldLink RX11 146 "SmallRooms$Children" "admitted" "I", Cond.fieldLink RX11 149 "SmallRooms$Children" "persons" "[I", Cond.methodLink RX11 139 yX11_hasBit, Cond.static yX11_hasBit, Cond.code yX11_hasBit cX11_hasBit 2 (some .boolean), Cond.methodLink RX11 142 yX11_oneIf, Cond.static yX11_oneIf, Cond.code yX11_oneIf cX11_oneIf 1 (some .int), Cond.methodLink RL 35 yX12_childIs, Cond.instanceMethod yX12_childIs, Cond.selects RX12 yX12_childIs yX12_childIs, Cond.code yX12_childIs cX12_childIs 3 (some .int), Cond.methodLink RL 36 yX11_roomOf, Cond.instanceMethod yX11_roomOf, Cond.selects RX11 yX11_roomOf yX11_roomOf, Cond.code yX11_roomOf cX11_roomOf 4 (some .int), Cond.constant RX11 156 (-100006)]
def wsL_law_r15 : List Cond := [Cond.methodLink RX11 152 yX4_roomInMonth, Cond.instanceMethod yX4_roomInMonth, Cond.selects RX4 yX4_roomInMonth yX4_roomInMonth, Cond.code yX4_roomInMonth cX4_roomInMonth 3 (some .int), Cond.fieldLink RX4 63 "SmallRooms$Children" "birth" "[I", Cond.methodLink RX4 66 yX8_forAge, Cond.instanceMethod yX8_forAge, Cond.selects RX8 yX8_forAge yX8_forAge, Cond.code yX8_forAge cX8_forAge 3 (some .int), Cond.methodLink RL 39 yX12_roomOf, Cond.instanceMethod yX12_roomOf, Cond.selects RX12 yX12_roomOf yX12_roomOf, Cond.code yX12_roomOf cX12_roomOf 4 (some .int), Cond.methodLink RX12 89 yX12_isMonth, Cond.static yX12_isMonth, Cond.code yX12_isMonth cX12_isMonth 1 (some .boolean), Cond.methodLink RX12 92 yX12_roomIn, Cond.instanceMethod yX12_roomIn, Cond.selects RX12 yX12_roomIn yX12_roomIn, Cond.code yX12_roomIn cX12_roomIn 4 (some .int), Cond.methodLink RX12 85 yX12_takes, Cond.instanceMethod yX12_takes, Cond.selects RX12 yX12_takes yX12_takes, Cond.code yX12_takes cX12_takes 3 (some .boolean)]
def wsL_law_r16 : List Cond := [Cond.methodLink RL 40 yX11_month, Cond.instanceMethod yX11_month, Cond.selects RX11 yX11_month yX11_month, Cond.code yX11_month cX11_month 3 (some .int), Cond.fieldLink RX11 157 "SmallRooms$Nursery" "month" "I", Cond.methodLink RL 43 yX12_month, Cond.instanceMethod yX12_month, Cond.selects RX12 yX12_month yX12_month, Cond.code yX12_month cX12_month 3 (some .int), Cond.methodLink RL 44 yX11_slot, Cond.instanceMethod yX11_slot, Cond.selects RX11 yX11_slot yX11_slot, Cond.code yX11_slot cX11_slot 3 (some .int), Cond.fieldLink RX11 163 "SmallRooms$Nursery" "slot" "I", Cond.methodLink RX11 160 yX11_isSlot, Cond.static yX11_isSlot, Cond.code yX11_isSlot cX11_isSlot 1 (some .boolean), Cond.methodLink RL 47 yX12_slot, Cond.instanceMethod yX12_slot, Cond.selects RX12 yX12_slot yX12_slot, Cond.code yX12_slot cX12_slot 3 (some .int), Cond.methodLink RL 48 yX11_day, Cond.instanceMethod yX11_day, Cond.selects RX11 yX11_day yX11_day]
def wsL_law_r17 : List Cond := [Cond.code yX11_day cX11_day 2 (some .int), Cond.methodLink RX11 166 yX0_countIn, Cond.instanceMethod yX0_countIn, Cond.selects RX0 yX0_countIn yX0_countIn, Cond.code yX0_countIn cX0_countIn 1 (some .int), Cond.methodLink RX0 53 yX0_inRoom, Cond.instanceMethod yX0_inRoom, Cond.selects RX0 yX0_inRoom yX0_inRoom, Cond.code yX0_inRoom cX0_inRoom 4 (some .int), Cond.static yX11_with, Cond.code yX11_with cX11_with 2 (some .int), Cond.methodLink RX0 57 yJ6_bitCount_0f7a4, Cond.static yJ6_bitCount_0f7a4, Cond.initialized RJ6, Cond.code yJ6_bitCount_0f7a4 cJ6_bitCount_0f7a4 1 (some .int), Cond.constant RJ6 265 (1431655765), Cond.constant RJ6 266 (858993459), Cond.constant RJ6 267 (252645135), Cond.methodLink RX11 170 yX4_beginDay, Cond.instanceMethod yX4_beginDay, Cond.selects RX4 yX4_beginDay yX4_beginDay, Cond.code yX4_beginDay cX4_beginDay 1 none, Cond.fieldLink RX4 113 "SmallRooms$Hands" "ill" "I", Cond.fieldLink RX4 116 "SmallRooms$Log" "count" "I"]
def wsL_law_r18 : List Cond := [Cond.methodLink RX4 110 yX0_allOut, Cond.instanceMethod yX0_allOut, Cond.selects RX0 yX0_allOut yX0_allOut, Cond.code yX0_allOut cX0_allOut 2 none, Cond.methodLink RL 52 yX12_day, Cond.instanceMethod yX12_day, Cond.selects RX12 yX12_day yX12_day, Cond.code yX12_day cX12_day 3 (some .int), Cond.methodLink RL 53 yX11_in, Cond.instanceMethod yX11_in, Cond.selects RX11 yX11_in yX11_in, Cond.code yX11_in cX11_in 4 (some .int), Cond.constant RX11 174 (-100007), Cond.fieldLink RX11 178 "SmallRooms$Nursery" "roll" "LSmallRooms$Log;", Cond.methodLink RX11 173 yX8_has, Cond.instanceMethod yX8_has, Cond.selects RX8 yX8_has yX8_has, Cond.code yX8_has cX8_has 2 (some .boolean), Cond.methodLink RX11 175 yX4_refusal, Cond.instanceMethod yX4_refusal, Cond.selects RX4 yX4_refusal yX4_refusal, Cond.code yX4_refusal cX4_refusal 3 (some .int), Cond.constant RX4 77 (-100004), Cond.fieldLink RX4 86 "SmallRooms$Rooms" "most" "[I"]
def wsL_law_r19 : List Cond := [Cond.constant RX4 89 (-100005), Cond.methodLink RX4 70 yX4_ageNow, Cond.instanceMethod yX4_ageNow, Cond.selects RX4 yX4_ageNow yX4_ageNow, Cond.code yX4_ageNow cX4_ageNow 2 (some .int), Cond.methodLink RX4 73 yX8_takes, Cond.instanceMethod yX8_takes, Cond.selects RX8 yX8_takes yX8_takes, Cond.code yX8_takes cX8_takes 3 (some .boolean), Cond.methodLink RX4 78 yX0_inRoom, Cond.methodLink RX4 81 yJ6_bitCount_0f7a4, Cond.methodLink RX11 182 yX3_lead, Cond.instanceMethod yX3_lead, Cond.selects RX3 yX3_lead yX3_lead, Cond.code yX3_lead cX3_lead 4 none, Cond.methodLink RX3 25 yX3_dropOldest, Cond.instanceMethod yX3_dropOldest, Cond.selects RX3 yX3_dropOldest yX3_dropOldest, Cond.code yX3_dropOldest cX3_dropOldest 1 none, Cond.methodLink RX11 188 yX0_inRoom, Cond.methodLink RX11 191 yJ6_bitCount_0f7a4, Cond.methodLink RL 56 yX12_in, Cond.instanceMethod yX12_in, Cond.selects RX12 yX12_in yX12_in]
def wsL_law_r20 : List Cond := [Cond.code yX12_in cX12_in 3 (some .int), Cond.methodLink RX12 100 yX12_isRoom, Cond.instanceMethod yX12_isRoom, Cond.selects RX12 yX12_isRoom yX12_isRoom, Cond.code yX12_isRoom cX12_isRoom 2 (some .boolean), Cond.methodLink RX12 103 yX12_childrenIn, Cond.instanceMethod yX12_childrenIn, Cond.selects RX12 yX12_childrenIn yX12_childrenIn, Cond.code yX12_childrenIn cX12_childrenIn 4 (some .int), Cond.methodLink RX12 106 yX12_ones, Cond.static yX12_ones, Cond.code yX12_ones cX12_ones 3 (some .int), Cond.methodLink RX12 109 yX12_leadRoll, Cond.instanceMethod yX12_leadRoll, Cond.selects RX12 yX12_leadRoll yX12_leadRoll, Cond.code yX12_leadRoll cX12_leadRoll 3 none, Cond.methodLink RX12 96 yX12_lead, Cond.instanceMethod yX12_lead, Cond.selects RX12 yX12_lead yX12_lead, Cond.code yX12_lead cX12_lead 8 none, Cond.methodLink RL 57 yX11_to, Cond.instanceMethod yX11_to, Cond.selects RX11 yX11_to yX11_to, Cond.code yX11_to cX11_to 5 (some .int)]
def wsL_law_r21 : List Cond := [Cond.methodLink RL 60 yX12_to, Cond.instanceMethod yX12_to, Cond.selects RX12 yX12_to yX12_to, Cond.code yX12_to cX12_to 4 (some .int), Cond.methodLink RL 61 yX11_over, Cond.instanceMethod yX11_over, Cond.selects RX11 yX11_over yX11_over, Cond.code yX11_over cX11_over 3 (some .int), Cond.constant RX11 199 (-100008), Cond.methodLink RX11 196 yX11_isPerson, Cond.static yX11_isPerson, Cond.code yX11_isPerson cX11_isPerson 1 (some .boolean), Cond.methodLink RX11 200 yX4_goOut, Cond.instanceMethod yX4_goOut, Cond.selects RX4 yX4_goOut yX4_goOut, Cond.code yX4_goOut cX4_goOut 2 none, Cond.fieldLink RX4 90 "SmallRooms$Children" "room" "[I", Cond.fieldLink RX4 100 "SmallRooms$Children" "asleep" "I", Cond.methodLink RX4 96 yX3_lead, Cond.methodLink RL 64 yX12_over, Cond.instanceMethod yX12_over, Cond.selects RX12 yX12_over yX12_over, Cond.code yX12_over cX12_over 3 (some .int), Cond.methodLink RX12 113 yX12_leadSleep]
def wsL_law_r22 : List Cond := [Cond.instanceMethod yX12_leadSleep, Cond.selects RX12 yX12_leadSleep yX12_leadSleep, Cond.code yX12_leadSleep cX12_leadSleep 3 none, Cond.methodLink RL 65 yX11_fetches, Cond.instanceMethod yX11_fetches, Cond.selects RX11 yX11_fetches yX11_fetches, Cond.code yX11_fetches cX11_fetches 6 (some .int), Cond.methodLink RX11 204 yX11_with, Cond.methodLink RX11 207 yX11_without, Cond.methodLink RL 69 yX12_fetches, Cond.instanceMethod yX12_fetches, Cond.selects RX12 yX12_fetches yX12_fetches, Cond.code yX12_fetches cX12_fetches 5 (some .int), Cond.methodLink RL 70 yX11_place, Cond.instanceMethod yX11_place, Cond.selects RX11 yX11_place yX11_place, Cond.code yX11_place cX11_place 4 (some .int), Cond.fieldLink RX11 210 "SmallRooms$Hands" "ill" "I", Cond.fieldLink RX11 213 "SmallRooms$Hands" "room" "[I", Cond.methodLink RL 73 yX12_place, Cond.instanceMethod yX12_place, Cond.selects RX12 yX12_place yX12_place, Cond.code yX12_place cX12_place 4 (some .int), Cond.methodLink RL 74 yX11_ill]
def wsL_law_r23 : List Cond := [Cond.instanceMethod yX11_ill, Cond.selects RX11 yX11_ill yX11_ill, Cond.code yX11_ill cX11_ill 3 (some .int), Cond.methodLink RL 77 yX12_ill, Cond.instanceMethod yX12_ill, Cond.selects RX12 yX12_ill yX12_ill, Cond.code yX12_ill cX12_ill 3 (some .int), Cond.methodLink RL 78 yX11_now, Cond.instanceMethod yX11_now, Cond.selects RX11 yX11_now yX11_now, Cond.code yX11_now cX11_now 3 (some .int), Cond.methodLink RX11 214 yX1_inRoom, Cond.instanceMethod yX1_inRoom, Cond.selects RX1 yX1_inRoom yX1_inRoom, Cond.code yX1_inRoom cX1_inRoom 4 (some .int), Cond.methodLink RX11 215 yX7_needOf, Cond.instanceMethod yX7_needOf, Cond.selects RX7 yX7_needOf yX7_needOf, Cond.code yX7_needOf cX7_needOf 5 (some .int), Cond.fieldLink RX7 23 "SmallRooms$Nursery" "ratio" "LSmallRooms$Ratio;", Cond.fieldLink RX7 29 "SmallRooms$Ratio" "wrongAt" "I", Cond.constantLong RX7 43 (2147483647), Cond.methodLink RX7 45 Lib.MathLoose.min_long.x, Cond.static Lib.MathLoose.min_long.x]
def wsL_law_r24 : List Cond := [Cond.code Lib.MathLoose.min_long.x Lib.MathLoose.min_long.code 4 (some .long), Cond.methodLink RX7 51 Lib.MathLoose.max_long.x, Cond.static Lib.MathLoose.max_long.x, Cond.code Lib.MathLoose.max_long.x Lib.MathLoose.max_long.code 4 (some .long), Cond.methodLink RX7 19 yX7_countChildren, Cond.instanceMethod yX7_countChildren, Cond.selects RX7 yX7_countChildren yX7_countChildren, Cond.code yX7_countChildren cX7_countChildren 4 none, Cond.fieldLink RX7 60 "SmallRooms$Nursery" "children" "LSmallRooms$Children;", Cond.fieldLink RX7 64 "SmallRooms$Children" "count" "I", Cond.fieldLink RX7 69 "SmallRooms$Children" "room" "[I", Cond.fieldLink RX7 79 "SmallRooms$Children" "asleep" "I", Cond.methodLink RX7 54 yJ7_fill_53178, Cond.static yJ7_fill_53178, Cond.initialized RJ7, Cond.code yJ7_fill_53178 cJ7_fill_53178 4 none, Cond.methodLink RX7 72 yX4_ageNow, Cond.methodLink RX7 76 yX7_ageGroup, Cond.static yX7_ageGroup, Cond.code yX7_ageGroup cX7_ageGroup 1 (some .int), Cond.methodLink RX7 35 yX7_workOut, Cond.instanceMethod yX7_workOut, Cond.selects RX7 yX7_workOut yX7_workOut, Cond.code yX7_workOut cX7_workOut 5 (some .long)]
def wsL_law_r25 : List Cond := [Cond.fieldLink RX7 101 "SmallRooms$Ratio" "count" "I", Cond.fieldLink RX7 102 "SmallRooms$Ratio" "signs" "[I", Cond.methodLink RX7 105 yX7_joined, Cond.static yX7_joined, Cond.code yX7_joined cX7_joined 5 (some .long), Cond.static yX11_quotientUpwards, Cond.code yX11_quotientUpwards cX11_quotientUpwards 4 (some .long), Cond.methodLink RX11 385 yJ9_floorDiv_f86c9, Cond.static yJ9_floorDiv_f86c9, Cond.initialized RJ9, Cond.code yJ9_floorDiv_f86c9 cJ9_floorDiv_f86c9 6 (some .long), Cond.methodLink RX7 109 yX7_numberOf, Cond.instanceMethod yX7_numberOf, Cond.selects RX7 yX7_numberOf yX7_numberOf, Cond.code yX7_numberOf cX7_numberOf 2 (some .int), Cond.methodLink RX7 39 yX7_usualNeed, Cond.instanceMethod yX7_usualNeed, Cond.selects RX7 yX7_usualNeed yX7_usualNeed, Cond.code yX7_usualNeed cX7_usualNeed 1 (some .long), Cond.constantLong RX7 90 (2), Cond.constantLong RX7 92 (3), Cond.constantLong RX7 97 (4), Cond.constantLong RX7 99 (8), Cond.methodLink RX11 219 yX1_worthIn]
def wsL_law_r26 : List Cond := [Cond.instanceMethod yX1_worthIn, Cond.selects RX1 yX1_worthIn yX1_worthIn, Cond.code yX1_worthIn cX1_worthIn 4 (some .int), Cond.methodLink RX1 35 yX1_worth, Cond.instanceMethod yX1_worth, Cond.selects RX1 yX1_worth yX1_worth, Cond.code yX1_worth cX1_worth 2 (some .int), Cond.methodLink RX11 222 yX11_hasEnough, Cond.instanceMethod yX11_hasEnough, Cond.selects RX11 yX11_hasEnough yX11_hasEnough, Cond.code yX11_hasEnough cX11_hasEnough 4 (some .boolean), Cond.methodLink RX11 369 yX1_trained, Cond.instanceMethod yX1_trained, Cond.selects RX1 yX1_trained yX1_trained, Cond.code yX1_trained cX1_trained 3 (some .int), Cond.methodLink RL 81 yX12_now, Cond.instanceMethod yX12_now, Cond.selects RX12 yX12_now yX12_now, Cond.code yX12_now cX12_now 5 (some .int), Cond.methodLink RX12 129 yX12_worthOf, Cond.instanceMethod yX12_worthOf, Cond.selects RX12 yX12_worthOf yX12_worthOf, Cond.code yX12_worthOf cX12_worthOf 2 (some .int), Cond.methodLink RX12 132 yX12_handsIn]
def wsL_law_r27 : List Cond := [Cond.instanceMethod yX12_handsIn, Cond.selects RX12 yX12_handsIn yX12_handsIn, Cond.code yX12_handsIn cX12_handsIn 4 (some .int), Cond.methodLink RX12 135 yX12_needOf, Cond.instanceMethod yX12_needOf, Cond.selects RX12 yX12_needOf yX12_needOf, Cond.code yX12_needOf cX12_needOf 4 (some .int), Cond.methodLink RX12 122 yX12_read, Cond.instanceMethod yX12_read, Cond.selects RX12 yX12_read yX12_read, Cond.code yX12_read cX12_read 2 (some .int), Cond.fieldLink RX12 116 "SmallRoomsModel" "piled" "I", Cond.methodLink RX12 119 yX12_goes, Cond.instanceMethod yX12_goes, Cond.selects RX12 yX12_goes yX12_goes, Cond.code yX12_goes cX12_goes 5 (some .boolean), Cond.methodLink RX12 126 yX12_upwards, Cond.static yX12_upwards, Cond.code yX12_upwards cX12_upwards 2 (some .int), Cond.methodLink RX12 142 yX12_hasEnough, Cond.instanceMethod yX12_hasEnough, Cond.selects RX12 yX12_hasEnough yX12_hasEnough, Cond.code yX12_hasEnough cX12_hasEnough 2 (some .boolean), Cond.methodLink RX12 138 yX12_areEnough]
def wsL_law_r28 : List Cond := [Cond.instanceMethod yX12_areEnough, Cond.selects RX12 yX12_areEnough yX12_areEnough, Cond.code yX12_areEnough cX12_areEnough 7 (some .boolean), Cond.methodLink RL 82 yX11_lacking, Cond.instanceMethod yX11_lacking, Cond.selects RX11 yX11_lacking yX11_lacking, Cond.code yX11_lacking cX11_lacking 3 (some .int), Cond.methodLink RL 85 yX12_lacking, Cond.instanceMethod yX12_lacking, Cond.selects RX12 yX12_lacking yX12_lacking, Cond.code yX12_lacking cX12_lacking 3 (some .int), Cond.methodLink RL 86 yX11_moves, Cond.instanceMethod yX11_moves, Cond.selects RX11 yX11_moves yX11_moves, Cond.code yX11_moves cX11_moves 1 (some .int), Cond.methodLink RX11 225 yX11_planMoves, Cond.instanceMethod yX11_planMoves, Cond.selects RX11 yX11_planMoves yX11_planMoves, Cond.code yX11_planMoves cX11_planMoves 3 (some .boolean), Cond.methodLink RX11 372 yX5_begin, Cond.instanceMethod yX5_begin, Cond.selects RX5 yX5_begin yX5_begin, Cond.code yX5_begin cX5_begin 4 none, Cond.fieldLink RX5 27 "SmallRooms$Planner" "able" "I"]
def wsL_law_r29 : List Cond := [Cond.fieldLink RX5 33 "SmallRooms$Planner" "trained" "I", Cond.constant RX5 43 (2147483647), Cond.methodLink RX5 21 yX1_able, Cond.instanceMethod yX1_able, Cond.selects RX1 yX1_able yX1_able, Cond.code yX1_able cX1_able 1 (some .int), Cond.methodLink RX5 30 yX1_trained, Cond.methodLink RX5 35 yX5_sumWorths, Cond.instanceMethod yX5_sumWorths, Cond.selects RX5 yX5_sumWorths yX5_sumWorths, Cond.code yX5_sumWorths cX5_sumWorths 3 none, Cond.fieldLink RX5 44 "SmallRooms$Hands" "count" "I", Cond.methodLink RX5 47 yX1_worth, Cond.methodLink RX5 49 yX5_addForHand, Cond.static yX5_addForHand, Cond.code yX5_addForHand cX5_addForHand 5 none, Cond.methodLink RX5 39 yX1_inRoom, Cond.methodLink RX11 375 yX5_fill, Cond.instanceMethod yX5_fill, Cond.selects RX5 yX5_fill yX5_fill, Cond.code yX5_fill cX5_fill 7 none, Cond.methodLink RX5 60 yX5_sumCosts, Cond.instanceMethod yX5_sumCosts, Cond.selects RX5 yX5_sumCosts yX5_sumCosts]
def wsL_law_r30 : List Cond := [Cond.code yX5_sumCosts cX5_sumCosts 5 none, Cond.fieldLink RX5 53 "SmallRooms$Hands" "room" "[I", Cond.constant RX5 56 (279936), Cond.fieldLink RX5 57 "SmallRooms$Planner" "DIGIT_OF_HAND" "[I", Cond.methodLink RX5 64 yX5_partsOf, Cond.static yX5_partsOf, Cond.code yX5_partsOf cX5_partsOf 1 (some .int), Cond.methodLink RX5 77 yJ6_bitCount_0f7a4, Cond.methodLink RX5 67 yX5_leastWith, Cond.instanceMethod yX5_leastWith, Cond.selects RX5 yX5_leastWith yX5_leastWith, Cond.code yX5_leastWith cX5_leastWith 9 (some .int), Cond.methodLink RX5 71 Lib.Math.min.name, Cond.methodLink RX11 379 yX5_isPossible, Cond.instanceMethod yX5_isPossible, Cond.selects RX5 yX5_isPossible yX5_isPossible, Cond.code yX5_isPossible cX5_isPossible 1 (some .boolean), Cond.methodLink RX11 229 yX5_movedHands, Cond.instanceMethod yX5_movedHands, Cond.selects RX5 yX5_movedHands yX5_movedHands, Cond.code yX5_movedHands cX5_movedHands 1 (some .int), Cond.methodLink RL 89 yX12_moves, Cond.instanceMethod yX12_moves, Cond.selects RX12 yX12_moves yX12_moves]
def wsL_law_r31 : List Cond := [Cond.code yX12_moves cX12_moves 1 (some .int), Cond.fieldLink RX12 145 "SmallRoomsModel" "fewest" "I", Cond.methodLink RX12 151 yX12_findMoves, Cond.instanceMethod yX12_findMoves, Cond.selects RX12 yX12_findMoves yX12_findMoves, Cond.code yX12_findMoves cX12_findMoves 2 (some .boolean), Cond.methodLink RX12 148 yX12_tries, Cond.instanceMethod yX12_tries, Cond.selects RX12 yX12_tries yX12_tries, Cond.code yX12_tries cX12_tries 5 none, Cond.methodLink RL 90 yX11_moved, Cond.instanceMethod yX11_moved, Cond.selects RX11 yX11_moved yX11_moved, Cond.code yX11_moved cX11_moved 2 (some .int), Cond.methodLink RX11 232 yX5_roomFor, Cond.instanceMethod yX5_roomFor, Cond.selects RX5 yX5_roomFor yX5_roomFor, Cond.code yX5_roomFor cX5_roomFor 2 (some .int), Cond.methodLink RL 93 yX12_moved, Cond.instanceMethod yX12_moved, Cond.selects RX12 yX12_moved yX12_moved, Cond.code yX12_moved cX12_moved 2 (some .int), Cond.methodLink RL 94 yX11_move, Cond.instanceMethod yX11_move]
def wsL_law_r32 : List Cond := [Cond.selects RX11 yX11_move yX11_move, Cond.code yX11_move cX11_move 2 (some .int), Cond.methodLink RL 97 yX12_move, Cond.instanceMethod yX12_move, Cond.selects RX12 yX12_move yX12_move, Cond.code yX12_move cX12_move 2 (some .int), Cond.methodLink RL 98 yX11_roll, Cond.instanceMethod yX11_roll, Cond.selects RX11 yX11_roll yX11_roll, Cond.code yX11_roll cX11_roll 5 (some .int), Cond.methodLink RX11 235 yX3_wasIn, Cond.instanceMethod yX3_wasIn, Cond.selects RX3 yX3_wasIn yX3_wasIn, Cond.code yX3_wasIn cX3_wasIn 5 (some .boolean), Cond.methodLink RL 101 yX12_roll, Cond.instanceMethod yX12_roll, Cond.selects RX12 yX12_roll yX12_roll, Cond.code yX12_roll cX12_roll 5 (some .int), Cond.methodLink RX12 155 yX12_wasIn, Cond.instanceMethod yX12_wasIn, Cond.selects RX12 yX12_wasIn yX12_wasIn, Cond.code yX12_wasIn cX12_wasIn 5 (some .boolean), Cond.methodLink RL 102 yX11_sleeps, Cond.instanceMethod yX11_sleeps]
def wsL_law_r33 : List Cond := [Cond.selects RX11 yX11_sleeps yX11_sleeps, Cond.code yX11_sleeps cX11_sleeps 4 (some .int), Cond.fieldLink RX11 238 "SmallRooms$Nursery" "sleep" "LSmallRooms$Log;", Cond.methodLink RL 106 yX12_sleeps, Cond.instanceMethod yX12_sleeps, Cond.selects RX12 yX12_sleeps yX12_sleeps, Cond.code yX12_sleeps cX12_sleeps 4 (some .int), Cond.methodLink RL 107 yX11_look, Cond.instanceMethod yX11_look, Cond.selects RX11 yX11_look yX11_look, Cond.code yX11_look cX11_look 2 (some .int), Cond.methodLink RX11 241 yX3_countOf, Cond.instanceMethod yX3_countOf, Cond.selects RX3 yX3_countOf yX3_countOf, Cond.code yX3_countOf cX3_countOf 4 (some .int), Cond.methodLink RL 110 yX12_look, Cond.instanceMethod yX12_look, Cond.selects RX12 yX12_look yX12_look, Cond.code yX12_look cX12_look 4 (some .int), Cond.methodLink RL 111 yX11_missed, Cond.instanceMethod yX11_missed, Cond.selects RX11 yX11_missed yX11_missed, Cond.code yX11_missed cX11_missed 4 (some .int), Cond.methodLink RX11 244 yX3_missedOf]
def wsL_law_r34 : List Cond := [Cond.instanceMethod yX3_missedOf, Cond.selects RX3 yX3_missedOf yX3_missedOf, Cond.code yX3_missedOf cX3_missedOf 5 (some .int), Cond.methodLink RX3 38 yX3_isMissedFrom, Cond.instanceMethod yX3_isMissedFrom, Cond.selects RX3 yX3_isMissedFrom yX3_isMissedFrom, Cond.code yX3_isMissedFrom cX3_isMissedFrom 5 (some .boolean), Cond.methodLink RX11 247 yX3_firstMissedOf, Cond.instanceMethod yX3_firstMissedOf, Cond.selects RX3 yX3_firstMissedOf yX3_firstMissedOf, Cond.code yX3_firstMissedOf cX3_firstMissedOf 4 (some .int), Cond.methodLink RL 114 yX12_missed, Cond.instanceMethod yX12_missed, Cond.selects RX12 yX12_missed yX12_missed, Cond.code yX12_missed cX12_missed 9 (some .int), Cond.methodLink RL 115 yX11_needed, Cond.instanceMethod yX11_needed, Cond.selects RX11 yX11_needed yX11_needed, Cond.code yX11_needed cX11_needed 5 (some .int), Cond.fieldLink RX11 250 "SmallRooms$Nursery" "needed" "[I", Cond.methodLink RL 119 yX12_needed, Cond.instanceMethod yX12_needed, Cond.selects RX12 yX12_needed yX12_needed, Cond.code yX12_needed cX12_needed 5 (some .int)]
def wsL_law_r35 : List Cond := [Cond.methodLink RL 120 yX11_longer, Cond.instanceMethod yX11_longer, Cond.selects RX11 yX11_longer yX11_longer, Cond.code yX11_longer cX11_longer 3 (some .int), Cond.fieldLink RX11 253 "SmallRooms$Nursery" "longSlots" "I", Cond.methodLink RL 123 yX12_longer, Cond.instanceMethod yX12_longer, Cond.selects RX12 yX12_longer yX12_longer, Cond.code yX12_longer cX12_longer 3 (some .int), Cond.methodLink RL 124 yX11_shifts, Cond.instanceMethod yX11_shifts, Cond.selects RX11 yX11_shifts yX11_shifts, Cond.code yX11_shifts cX11_shifts 3 (some .int), Cond.methodLink RX11 256 yX10_plan, Cond.instanceMethod yX10_plan, Cond.selects RX10 yX10_plan yX10_plan, Cond.code yX10_plan cX10_plan 7 (some .int), Cond.methodLink RX10 25 Lib.Math.max.name, Cond.static Lib.Math.max.name, Cond.code Lib.Math.max.name Lib.Math.max.code 2 (some .int), Cond.methodLink RX10 30 Lib.Math.min.name, Cond.methodLink RX10 15 yJ7_fill_53178, Cond.methodLink RX10 21 yX10_endedAt, Cond.instanceMethod yX10_endedAt]
def wsL_law_r36 : List Cond := [Cond.selects RX10 yX10_endedAt yX10_endedAt, Cond.code yX10_endedAt cX10_endedAt 3 (some .int), Cond.methodLink RX11 260 yX10_beginOf, Cond.instanceMethod yX10_beginOf, Cond.selects RX10 yX10_beginOf yX10_beginOf, Cond.code yX10_beginOf cX10_beginOf 4 (some .int), Cond.methodLink RL 127 yX12_shifts, Cond.instanceMethod yX12_shifts, Cond.selects RX12 yX12_shifts yX12_shifts, Cond.code yX12_shifts cX12_shifts 2 (some .int), Cond.fieldLink RX12 158 "SmallRoomsModel" "shiftMany" "I", Cond.methodLink RX12 165 yX12_findShifts, Cond.instanceMethod yX12_findShifts, Cond.selects RX12 yX12_findShifts yX12_findShifts, Cond.code yX12_findShifts cX12_findShifts 3 none, Cond.methodLink RX12 161 yX12_putShift, Cond.instanceMethod yX12_putShift, Cond.selects RX12 yX12_putShift yX12_putShift, Cond.code yX12_putShift cX12_putShift 3 none, Cond.methodLink RL 128 yX11_proves, Cond.instanceMethod yX11_proves, Cond.selects RX11 yX11_proves yX11_proves, Cond.code yX11_proves cX11_proves 6 (some .int), Cond.fieldLink RX11 279 "SmallRooms$Sheet" "size" "I"]
def wsL_law_r37 : List Cond := [Cond.methodLink RX11 263 yX11_sheetFinding, Cond.instanceMethod yX11_sheetFinding, Cond.selects RX11 yX11_sheetFinding yX11_sheetFinding, Cond.code yX11_sheetFinding cX11_sheetFinding 2 (some .int), Cond.constant RX11 342 (-100002), Cond.methodLink RX11 329 yX11_isSheet, Cond.static yX11_isSheet, Cond.code yX11_isSheet cX11_isSheet 1 (some .boolean), Cond.methodLink RX11 339 yX9_isMissing, Cond.instanceMethod yX9_isMissing, Cond.selects RX9 yX9_isMissing yX9_isMissing, Cond.code yX9_isMissing cX9_isMissing 1 (some .boolean), Cond.fieldLink RX9 15 "SmallRooms$Sheet" "bits" "I", Cond.methodLink RX11 266 yX9_rises, Cond.instanceMethod yX9_rises, Cond.selects RX9 yX9_rises yX9_rises, Cond.code yX9_rises cX9_rises 2 (some .boolean), Cond.fieldLink RX9 19 "SmallRooms$Sheet" "size" "I", Cond.methodLink RX11 269 yX9_isAllWithin, Cond.instanceMethod yX9_isAllWithin, Cond.selects RX9 yX9_isAllWithin yX9_isAllWithin, Cond.code yX9_isAllWithin cX9_isAllWithin 4 (some .boolean), Cond.methodLink RX11 272 yX10_take, Cond.instanceMethod yX10_take]
def wsL_law_r38 : List Cond := [Cond.selects RX10 yX10_take yX10_take, Cond.code yX10_take cX10_take 3 none, Cond.fieldLink RX10 33 "SmallRooms$Sheet" "size" "I", Cond.fieldLink RX10 39 "SmallRooms$Sheet" "numbers" "[I", Cond.methodLink RX11 276 yX10_firstLacking, Cond.instanceMethod yX10_firstLacking, Cond.selects RX10 yX10_firstLacking yX10_firstLacking, Cond.code yX10_firstLacking cX10_firstLacking 5 (some .int), Cond.methodLink RL 131 yX12_proves, Cond.instanceMethod yX12_proves, Cond.selects RX12 yX12_proves yX12_proves, Cond.code yX12_proves cX12_proves 4 (some .int), Cond.methodLink RX12 168 yX12_isSheet, Cond.static yX12_isSheet, Cond.code yX12_isSheet cX12_isSheet 1 (some .boolean), Cond.methodLink RL 132 yX11_waits, Cond.instanceMethod yX11_waits, Cond.selects RX11 yX11_waits yX11_waits, Cond.code yX11_waits cX11_waits 2 (some .int), Cond.fieldLink RX11 288 "SmallRooms$Children" "waiters" "I", Cond.methodLink RX11 282 yX0_isWaiting, Cond.instanceMethod yX0_isWaiting, Cond.selects RX0 yX0_isWaiting yX0_isWaiting, Cond.code yX0_isWaiting cX0_isWaiting 3 (some .boolean)]
def wsL_law_r39 : List Cond := [Cond.methodLink RX11 285 yX0_addWaiter, Cond.instanceMethod yX0_addWaiter, Cond.selects RX0 yX0_addWaiter yX0_addWaiter, Cond.code yX0_addWaiter cX0_addWaiter 2 none, Cond.methodLink RL 135 yX12_waits, Cond.instanceMethod yX12_waits, Cond.selects RX12 yX12_waits yX12_waits, Cond.code yX12_waits cX12_waits 2 (some .int), Cond.methodLink RX12 171 yX12_listed, Cond.instanceMethod yX12_listed, Cond.selects RX12 yX12_listed yX12_listed, Cond.code yX12_listed cX12_listed 3 (some .int), Cond.methodLink RL 136 yX11_list, Cond.instanceMethod yX11_list, Cond.selects RX11 yX11_list yX11_list, Cond.code yX11_list cX11_list 3 (some .int), Cond.methodLink RX11 291 yX0_waiterAt, Cond.instanceMethod yX0_waiterAt, Cond.selects RX0 yX0_waiterAt yX0_waiterAt, Cond.code yX0_waiterAt cX0_waiterAt 4 (some .int), Cond.methodLink RX0 72 yX0_hasAdmittedSibling, Cond.instanceMethod yX0_hasAdmittedSibling, Cond.selects RX0 yX0_hasAdmittedSibling yX0_hasAdmittedSibling, Cond.code yX0_hasAdmittedSibling cX0_hasAdmittedSibling 3 (some .boolean)]
def wsL_law_r40 : List Cond := [Cond.methodLink RX0 66 yX0_areSiblings, Cond.instanceMethod yX0_areSiblings, Cond.selects RX0 yX0_areSiblings yX0_areSiblings, Cond.code yX0_areSiblings cX0_areSiblings 4 (some .boolean), Cond.methodLink RX0 80 yX0_waiterOf, Cond.instanceMethod yX0_waiterOf, Cond.selects RX0 yX0_waiterOf yX0_waiterOf, Cond.code yX0_waiterOf cX0_waiterOf 5 (some .int), Cond.methodLink RL 139 yX12_list, Cond.instanceMethod yX12_list, Cond.selects RX12 yX12_list yX12_list, Cond.code yX12_list cX12_list 5 (some .int), Cond.methodLink RX12 177 yX12_hasSibling, Cond.instanceMethod yX12_hasSibling, Cond.selects RX12 yX12_hasSibling yX12_hasSibling, Cond.code yX12_hasSibling cX12_hasSibling 4 (some .boolean), Cond.methodLink RX12 174 yX12_areSiblings, Cond.instanceMethod yX12_areSiblings, Cond.selects RX12 yX12_areSiblings yX12_areSiblings, Cond.code yX12_areSiblings cX12_areSiblings 3 (some .boolean), Cond.methodLink RL 140 yX11_earliest, Cond.instanceMethod yX11_earliest, Cond.selects RX11 yX11_earliest yX11_earliest, Cond.code yX11_earliest cX11_earliest 3 (some .int)]
def wsL_law_r41 : List Cond := [Cond.methodLink RX11 294 yX11_leastMonth, Cond.instanceMethod yX11_leastMonth, Cond.selects RX11 yX11_leastMonth yX11_leastMonth, Cond.code yX11_leastMonth cX11_leastMonth 3 (some .int), Cond.methodLink RX11 382 yX4_earliestMonth, Cond.instanceMethod yX4_earliestMonth, Cond.selects RX4 yX4_earliestMonth yX4_earliestMonth, Cond.code yX4_earliestMonth cX4_earliestMonth 4 (some .int), Cond.fieldLink RX4 134 "SmallRooms$Children" "last" "[I", Cond.fieldLink RX4 137 "SmallRooms$Children" "first" "[I", Cond.methodLink RX4 140 yX4_fits, Cond.instanceMethod yX4_fits, Cond.selects RX4 yX4_fits yX4_fits, Cond.code yX4_fits cX4_fits 6 (some .boolean), Cond.fieldLink RX4 127 "SmallRooms$Children" "sessions" "[I", Cond.methodLink RX4 124 yX4_roomInMonth, Cond.methodLink RX4 130 yX4_placesTaken, Cond.instanceMethod yX4_placesTaken, Cond.selects RX4 yX4_placesTaken yX4_placesTaken, Cond.code yX4_placesTaken cX4_placesTaken 6 (some .int), Cond.fieldLink RX4 119 "SmallRooms$Children" "count" "I", Cond.methodLink RX4 120 yX0_isAwaited, Cond.instanceMethod yX0_isAwaited, Cond.selects RX0 yX0_isAwaited yX0_isAwaited]
def wsL_law_r42 : List Cond := [Cond.code yX0_isAwaited cX0_isAwaited 5 (some .boolean), Cond.methodLink RL 143 yX12_earliest, Cond.instanceMethod yX12_earliest, Cond.selects RX12 yX12_earliest yX12_earliest, Cond.code yX12_earliest cX12_earliest 3 (some .int), Cond.methodLink RX12 187 yX12_leastMonth, Cond.instanceMethod yX12_leastMonth, Cond.selects RX12 yX12_leastMonth yX12_leastMonth, Cond.code yX12_leastMonth cX12_leastMonth 3 (some .int), Cond.methodLink RX12 184 yX12_can, Cond.instanceMethod yX12_can, Cond.selects RX12 yX12_can yX12_can, Cond.code yX12_can cX12_can 6 (some .boolean), Cond.methodLink RX12 180 yX12_haveIn, Cond.instanceMethod yX12_haveIn, Cond.selects RX12 yX12_haveIn yX12_haveIn, Cond.code yX12_haveIn cX12_haveIn 7 (some .int), Cond.methodLink RL 144 yX11_admit, Cond.instanceMethod yX11_admit, Cond.selects RX11 yX11_admit yX11_admit, Cond.code yX11_admit cX11_admit 3 (some .int), Cond.methodLink RX11 297 yX0_removeWaiter, Cond.instanceMethod yX0_removeWaiter, Cond.selects RX0 yX0_removeWaiter yX0_removeWaiter]
def wsL_law_r43 : List Cond := [Cond.code yX0_removeWaiter cX0_removeWaiter 4 none, Cond.methodLink RL 147 yX12_admit, Cond.instanceMethod yX12_admit, Cond.selects RX12 yX12_admit yX12_admit, Cond.code yX12_admit cX12_admit 5 (some .int), Cond.methodLink RL 148 yX11_places, Cond.instanceMethod yX11_places, Cond.selects RX11 yX11_places yX11_places, Cond.code yX11_places cX11_places 4 (some .int), Cond.methodLink RX11 300 yX4_placesTaken, Cond.methodLink RL 151 yX12_places, Cond.instanceMethod yX12_places, Cond.selects RX12 yX12_places yX12_places, Cond.code yX12_places cX12_places 4 (some .int), Cond.methodLink RL 152 yX11_rate, Cond.instanceMethod yX11_rate, Cond.selects RX11 yX11_rate yX11_rate, Cond.code yX11_rate cX11_rate 3 (some .int), Cond.fieldLink RX11 303 "SmallRooms$Nursery" "rate" "I", Cond.methodLink RL 155 yX12_rate, Cond.instanceMethod yX12_rate, Cond.selects RX12 yX12_rate yX12_rate, Cond.code yX12_rate cX12_rate 3 (some .int), Cond.methodLink RL 156 yX11_bill]
def wsL_law_r44 : List Cond := [Cond.instanceMethod yX11_bill, Cond.selects RX11 yX11_bill yX11_bill, Cond.code yX11_bill cX11_bill 9 (some .int), Cond.methodLink RX11 306 Lib.Math.max.name, Cond.methodLink RX11 311 yX3_latestGoingOut, Cond.instanceMethod yX3_latestGoingOut, Cond.selects RX3 yX3_latestGoingOut yX3_latestGoingOut, Cond.code yX3_latestGoingOut cX3_latestGoingOut 4 (some .int), Cond.methodLink RL 160 yX12_bill, Cond.instanceMethod yX12_bill, Cond.selects RX12 yX12_bill yX12_bill, Cond.code yX12_bill cX12_bill 8 (some .int), Cond.methodLink RL 161 yX11_text, Cond.instanceMethod yX11_text, Cond.selects RX11 yX11_text yX11_text, Cond.code yX11_text cX11_text 4 (some .int), Cond.fieldLink RX11 317 "SmallRooms$Nursery" "ratio" "LSmallRooms$Ratio;", Cond.methodLink RX11 314 yX9_isAllSigns, Cond.instanceMethod yX9_isAllSigns, Cond.selects RX9 yX9_isAllSigns yX9_isAllSigns, Cond.code yX9_isAllSigns cX9_isAllSigns 2 (some .boolean), Cond.methodLink RX9 32 yX6_isSign, Cond.static yX6_isSign, Cond.code yX6_isSign cX6_isSign 1 (some .boolean)]
def wsL_law_r45 : List Cond := [Cond.methodLink RX11 321 yX6_read, Cond.instanceMethod yX6_read, Cond.selects RX6 yX6_read yX6_read, Cond.code yX6_read cX6_read 2 none, Cond.fieldLink RX6 15 "SmallRooms$Sheet" "size" "I", Cond.methodLink RX6 21 Lib.Math.min.name, Cond.fieldLink RX6 30 "SmallRooms$Sheet" "numbers" "[I", Cond.methodLink RX6 39 yX6_firstWrong, Cond.instanceMethod yX6_firstWrong, Cond.selects RX6 yX6_firstWrong yX6_firstWrong, Cond.code yX6_firstWrong cX6_firstWrong 4 (some .int), Cond.methodLink RL 164 yX12_text, Cond.instanceMethod yX12_text, Cond.selects RX12 yX12_text yX12_text, Cond.code yX12_text cX12_text 4 (some .int), Cond.methodLink RL 165 yX11_wrong, Cond.instanceMethod yX11_wrong, Cond.selects RX11 yX11_wrong yX11_wrong, Cond.code yX11_wrong cX11_wrong 1 (some .int), Cond.fieldLink RX11 326 "SmallRooms$Ratio" "wrongAt" "I", Cond.methodLink RL 168 yX12_wrong, Cond.instanceMethod yX12_wrong, Cond.selects RX12 yX12_wrong yX12_wrong, Cond.code yX12_wrong cX12_wrong 1 (some .int)]
def wsL_law_r46 : List Cond := [Cond.methodLink RL 169 yX11_sheet, Cond.instanceMethod yX11_sheet, Cond.selects RX11 yX11_sheet yX11_sheet, Cond.code yX11_sheet cX11_sheet 4 (some .int), Cond.methodLink RX11 332 yX9_begin, Cond.instanceMethod yX9_begin, Cond.selects RX9 yX9_begin yX9_begin, Cond.code yX9_begin cX9_begin 3 none, Cond.methodLink RX9 22 yJ7_fill_53178, Cond.methodLink RL 172 yX12_sheet, Cond.instanceMethod yX12_sheet, Cond.selects RX12 yX12_sheet yX12_sheet, Cond.code yX12_sheet cX12_sheet 5 (some .int), Cond.methodLink RL 173 yX11_put, Cond.instanceMethod yX11_put, Cond.selects RX11 yX11_put yX11_put, Cond.code yX11_put cX11_put 5 (some .int), Cond.methodLink RX11 336 yX9_write, Cond.instanceMethod yX9_write, Cond.selects RX9 yX9_write yX9_write, Cond.code yX9_write cX9_write 3 none, Cond.methodLink RL 176 yX12_put, Cond.instanceMethod yX12_put, Cond.selects RX12 yX12_put yX12_put]
def wsL_law_r47 : List Cond := [Cond.code yX12_put cX12_put 4 (some .int), Cond.methodLink RX12 190 yX12_lowest, Cond.static yX12_lowest, Cond.code yX12_lowest cX12_lowest 2 (some .int), Cond.methodLink RL 177 yX11_copy, Cond.instanceMethod yX11_copy, Cond.selects RX11 yX11_copy yX11_copy, Cond.code yX11_copy cX11_copy 8 (some .int), Cond.fieldLink RX11 343 "SmallRooms$Sheet" "bits" "I", Cond.fieldLink RX11 349 "SmallRooms$Sheet" "numbers" "[I", Cond.methodLink RX11 352 arraycopyName, Cond.methodLink RX11 346 yX9_hasStretch, Cond.instanceMethod yX9_hasStretch, Cond.selects RX9 yX9_hasStretch yX9_hasStretch, Cond.code yX9_hasStretch cX9_hasStretch 3 (some .boolean), Cond.methodLink RL 181 yX12_copy, Cond.instanceMethod yX12_copy, Cond.selects RX12 yX12_copy yX12_copy, Cond.code yX12_copy cX12_copy 7 (some .int), Cond.methodLink RL 182 yX11_undo, Cond.instanceMethod yX11_undo, Cond.selects RX11 yX11_undo yX11_undo, Cond.code yX11_undo cX11_undo 1 (some .int), Cond.fieldLink RX11 358 "SmallRooms$History" "count" "I"]
def wsL_law_r48 : List Cond := [Cond.methodLink RX11 359 yX2_bringBack, Cond.instanceMethod yX2_bringBack, Cond.selects RX2 yX2_bringBack yX2_bringBack, Cond.code yX2_bringBack cX2_bringBack 3 none, Cond.methodLink RL 185 yX12_undo, Cond.instanceMethod yX12_undo, Cond.selects RX12 yX12_undo yX12_undo, Cond.code yX12_undo cX12_undo 2 (some .int), Cond.methodLink RL 186 yX11_all, Cond.instanceMethod yX11_all, Cond.selects RX11 yX11_all yX11_all, Cond.code yX11_all cX11_all 2 (some .int), Cond.fieldLink RX11 363 "SmallRooms$Log" "count" "I", Cond.methodLink RL 189 yX12_all, Cond.instanceMethod yX12_all, Cond.selects RX12 yX12_all yX12_all, Cond.code yX12_all cX12_all 4 (some .int)]
def wsL_law : List Cond := (wsL_law_r1 ++ (wsL_law_r2 ++ (wsL_law_r3 ++ (wsL_law_r4 ++ (wsL_law_r5 ++ (wsL_law_r6 ++ (wsL_law_r7 ++ (wsL_law_r8 ++ (wsL_law_r9 ++ (wsL_law_r10 ++ (wsL_law_r11 ++ (wsL_law_r12 ++ (wsL_law_r13 ++ (wsL_law_r14 ++ (wsL_law_r15 ++ (wsL_law_r16 ++ (wsL_law_r17 ++ (wsL_law_r18 ++ (wsL_law_r19 ++ (wsL_law_r20 ++ (wsL_law_r21 ++ (wsL_law_r22 ++ (wsL_law_r23 ++ (wsL_law_r24 ++ (wsL_law_r25 ++ (wsL_law_r26 ++ (wsL_law_r27 ++ (wsL_law_r28 ++ (wsL_law_r29 ++ (wsL_law_r30 ++ (wsL_law_r31 ++ (wsL_law_r32 ++ (wsL_law_r33 ++ (wsL_law_r34 ++ (wsL_law_r35 ++ (wsL_law_r36 ++ (wsL_law_r37 ++ (wsL_law_r38 ++ (wsL_law_r39 ++ (wsL_law_r40 ++ (wsL_law_r41 ++ (wsL_law_r42 ++ (wsL_law_r43 ++ (wsL_law_r44 ++ (wsL_law_r45 ++ (wsL_law_r46 ++ (wsL_law_r47 ++ wsL_law_r48))))))))))))))))))))))))))))))))))))))))))))))) ++ wsX110 ++ wsX120 ++ wsX40 ++ wsX20 ++ wsX70 ++ wsX50 ++ wsX100 ++ wsX90 ++ wsX80 ++ wsX10 ++ wsX00 ++ wsX30 ++ wsX60 ++ ([] : List Cond)
theorem inlX0 : ∀ w ∈ wsX00, w ∈ wsL_law := fun _ h => List.mem_append_left _ (List.mem_append_left _ (List.mem_append_left _ (List.mem_append_right _ h)))
theorem inlX1 : ∀ w ∈ wsX10, w ∈ wsL_law := fun _ h => List.mem_append_left _ (List.mem_append_left _ (List.mem_append_left _ (List.mem_append_left _ (List.mem_append_right _ h))))
theorem inlX2 : ∀ w ∈ wsX20, w ∈ wsL_law := fun _ h => List.mem_append_left _ (List.mem_append_left _ (List.mem_append_left _ (List.mem_append_left _ (List.mem_append_left _ (List.mem_append_left _ (List.mem_append_left _ (List.mem_append_left _ (List.mem_append_left _ (List.mem_append_left _ (List.mem_append_right _ h))))))))))
theorem inlX3 : ∀ w ∈ wsX30, w ∈ wsL_law := fun _ h => List.mem_append_left _ (List.mem_append_left _ (List.mem_append_right _ h))
theorem inlX4 : ∀ w ∈ wsX40, w ∈ wsL_law := fun _ h => List.mem_append_left _ (List.mem_append_left _ (List.mem_append_left _ (List.mem_append_left _ (List.mem_append_left _ (List.mem_append_left _ (List.mem_append_left _ (List.mem_append_left _ (List.mem_append_left _ (List.mem_append_left _ (List.mem_append_left _ (List.mem_append_right _ h)))))))))))
theorem inlX5 : ∀ w ∈ wsX50, w ∈ wsL_law := fun _ h => List.mem_append_left _ (List.mem_append_left _ (List.mem_append_left _ (List.mem_append_left _ (List.mem_append_left _ (List.mem_append_left _ (List.mem_append_left _ (List.mem_append_left _ (List.mem_append_right _ h))))))))
theorem inlX6 : ∀ w ∈ wsX60, w ∈ wsL_law := fun _ h => List.mem_append_left _ (List.mem_append_right _ h)
theorem inlX7 : ∀ w ∈ wsX70, w ∈ wsL_law := fun _ h => List.mem_append_left _ (List.mem_append_left _ (List.mem_append_left _ (List.mem_append_left _ (List.mem_append_left _ (List.mem_append_left _ (List.mem_append_left _ (List.mem_append_left _ (List.mem_append_left _ (List.mem_append_right _ h)))))))))
theorem inlX8 : ∀ w ∈ wsX80, w ∈ wsL_law := fun _ h => List.mem_append_left _ (List.mem_append_left _ (List.mem_append_left _ (List.mem_append_left _ (List.mem_append_left _ (List.mem_append_right _ h)))))
theorem inlX9 : ∀ w ∈ wsX90, w ∈ wsL_law := fun _ h => List.mem_append_left _ (List.mem_append_left _ (List.mem_append_left _ (List.mem_append_left _ (List.mem_append_left _ (List.mem_append_left _ (List.mem_append_right _ h))))))
theorem inlX10 : ∀ w ∈ wsX100, w ∈ wsL_law := fun _ h => List.mem_append_left _ (List.mem_append_left _ (List.mem_append_left _ (List.mem_append_left _ (List.mem_append_left _ (List.mem_append_left _ (List.mem_append_left _ (List.mem_append_right _ h)))))))
theorem inlX11 : ∀ w ∈ wsX110, w ∈ wsL_law := fun _ h => List.mem_append_left _ (List.mem_append_left _ (List.mem_append_left _ (List.mem_append_left _ (List.mem_append_left _ (List.mem_append_left _ (List.mem_append_left _ (List.mem_append_left _ (List.mem_append_left _ (List.mem_append_left _ (List.mem_append_left _ (List.mem_append_left _ (List.mem_append_left _ (List.mem_append_right _ h)))))))))))))
theorem inlX12 : ∀ w ∈ wsX120, w ∈ wsL_law := fun _ h => List.mem_append_left _ (List.mem_append_left _ (List.mem_append_left _ (List.mem_append_left _ (List.mem_append_left _ (List.mem_append_left _ (List.mem_append_left _ (List.mem_append_left _ (List.mem_append_left _ (List.mem_append_left _ (List.mem_append_left _ (List.mem_append_left _ (List.mem_append_right _ h))))))))))))
abbrev vwCl : List vw_C := [(RX0, TX0, 12), (RX1, TX1, 4), (RX2, TX2, 3), (RX3, TX3, 4), (RX4, TX4, 11), (RX5, TX5, 5), (RX6, TX6, 3), (RX7, TX7, 2), (RX8, TX8, 4), (RX9, TX9, 3), (RX10, TX10, 1), (RX11, TX11, 7), (RX12, TX12, 20)]
