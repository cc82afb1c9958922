section
-- ===== PART A: goes FIRST, ahead of the names: the tables' words, and 'selects' of the private methods out of them =====
/-- a private method of a class that the tables say can be made, by its rows of tables_1 -/
def lw_okq (q : MethodName × Nat) : Prop := (q.1.cls ≠ "java/lang/invoke/MethodHandle" ∧ q.1.cls ≠ "java/lang/invoke/VarHandle") ∧ Cond.instantiable q.1.cls q.2 ∈ tables_1 ∧ Cond.privateMethod q.1 ∈ tables_1 ∧ Cond.instanceMethod q.1 ∈ tables_1
theorem lw_p0 : lw_okq (⟨"WaterMen", "today", "()I"⟩, 13) := ⟨⟨by decide +kernel, by decide +kernel⟩, List.mem_of_getElem? (i := 18) (by decide +kernel), List.mem_of_getElem? (i := 288) (by decide +kernel), List.mem_of_getElem? (i := 289) (by decide +kernel)⟩
theorem lw_p1 : lw_okq (⟨"WaterMen", "manAt", "(I)LWaterMen$Man;"⟩, 13) := ⟨⟨by decide +kernel, by decide +kernel⟩, List.mem_of_getElem? (i := 18) (by decide +kernel), List.mem_of_getElem? (i := 301) (by decide +kernel), List.mem_of_getElem? (i := 302) (by decide +kernel)⟩
theorem lw_p2 : lw_okq (⟨"WaterMen", "placeInTurns", "(LWaterMen$Man;)I"⟩, 13) := ⟨⟨by decide +kernel, by decide +kernel⟩, List.mem_of_getElem? (i := 18) (by decide +kernel), List.mem_of_getElem? (i := 366) (by decide +kernel), List.mem_of_getElem? (i := 367) (by decide +kernel)⟩
theorem lw_p3 : lw_okq (⟨"WaterMen", "boatAt", "(I)LWaterMen$Boat;"⟩, 13) := ⟨⟨by decide +kernel, by decide +kernel⟩, List.mem_of_getElem? (i := 18) (by decide +kernel), List.mem_of_getElem? (i := 419) (by decide +kernel), List.mem_of_getElem? (i := 420) (by decide +kernel)⟩
theorem lw_p4 : lw_okq (⟨"WaterMen", "numberInForce", "(II)I"⟩, 13) := ⟨⟨by decide +kernel, by decide +kernel⟩, List.mem_of_getElem? (i := 18) (by decide +kernel), List.mem_of_getElem? (i := 575) (by decide +kernel), List.mem_of_getElem? (i := 576) (by decide +kernel)⟩
theorem lw_p5 : lw_okq (⟨"WaterMen", "orderAt", "(I)LWaterMen$Order;"⟩, 13) := ⟨⟨by decide +kernel, by decide +kernel⟩, List.mem_of_getElem? (i := 18) (by decide +kernel), List.mem_of_getElem? (i := 579) (by decide +kernel), List.mem_of_getElem? (i := 580) (by decide +kernel)⟩
theorem lw_p6 : lw_okq (⟨"WaterMen", "priceOf", "(LWaterMen$Order;IIII)I"⟩, 13) := ⟨⟨by decide +kernel, by decide +kernel⟩, List.mem_of_getElem? (i := 18) (by decide +kernel), List.mem_of_getElem? (i := 587) (by decide +kernel), List.mem_of_getElem? (i := 588) (by decide +kernel)⟩
theorem lw_p7 : lw_okq (⟨"WaterMen", "mayGoTo", "(LWaterMen$Boat;I)Z"⟩, 13) := ⟨⟨by decide +kernel, by decide +kernel⟩, List.mem_of_getElem? (i := 18) (by decide +kernel), List.mem_of_getElem? (i := 630) (by decide +kernel), List.mem_of_getElem? (i := 631) (by decide +kernel)⟩
theorem lw_p8 : lw_okq (⟨"WaterMen", "hindrance", "(LWaterMen$Boat;LWaterMen$Man;I)I"⟩, 13) := ⟨⟨by decide +kernel, by decide +kernel⟩, List.mem_of_getElem? (i := 18) (by decide +kernel), List.mem_of_getElem? (i := 634) (by decide +kernel), List.mem_of_getElem? (i := 635) (by decide +kernel)⟩
theorem lw_p9 : lw_okq (⟨"WaterMen", "mustWait", "(LWaterMen$Man;I)Z"⟩, 13) := ⟨⟨by decide +kernel, by decide +kernel⟩, List.mem_of_getElem? (i := 18) (by decide +kernel), List.mem_of_getElem? (i := 638) (by decide +kernel), List.mem_of_getElem? (i := 639) (by decide +kernel)⟩
theorem lw_p10 : lw_okq (⟨"WaterMen", "hasTurns", "(I)Z"⟩, 13) := ⟨⟨by decide +kernel, by decide +kernel⟩, List.mem_of_getElem? (i := 18) (by decide +kernel), List.mem_of_getElem? (i := 642) (by decide +kernel), List.mem_of_getElem? (i := 643) (by decide +kernel)⟩
theorem lw_p11 : lw_okq (⟨"WaterMen", "hourNow", "()I"⟩, 13) := ⟨⟨by decide +kernel, by decide +kernel⟩, List.mem_of_getElem? (i := 18) (by decide +kernel), List.mem_of_getElem? (i := 652) (by decide +kernel), List.mem_of_getElem? (i := 653) (by decide +kernel)⟩
theorem lw_p12 : lw_okq (⟨"WaterMen", "minutesOfWay", "(LWaterMen$Boat;I)I"⟩, 13) := ⟨⟨by decide +kernel, by decide +kernel⟩, List.mem_of_getElem? (i := 18) (by decide +kernel), List.mem_of_getElem? (i := 661) (by decide +kernel), List.mem_of_getElem? (i := 662) (by decide +kernel)⟩
theorem lw_p13 : lw_okq (⟨"WaterMen", "takeMoney", "(LWaterMen$Man;I)V"⟩, 13) := ⟨⟨by decide +kernel, by decide +kernel⟩, List.mem_of_getElem? (i := 18) (by decide +kernel), List.mem_of_getElem? (i := 717) (by decide +kernel), List.mem_of_getElem? (i := 718) (by decide +kernel)⟩
theorem lw_p14 : lw_okq (⟨"WaterMen", "partPot", "(I)V"⟩, 13) := ⟨⟨by decide +kernel, by decide +kernel⟩, List.mem_of_getElem? (i := 18) (by decide +kernel), List.mem_of_getElem? (i := 731) (by decide +kernel), List.mem_of_getElem? (i := 732) (by decide +kernel)⟩
theorem lw_p15 : lw_okq (⟨"WaterMen", "tripAt", "(I)LWaterMen$Trip;"⟩, 13) := ⟨⟨by decide +kernel, by decide +kernel⟩, List.mem_of_getElem? (i := 18) (by decide +kernel), List.mem_of_getElem? (i := 750) (by decide +kernel), List.mem_of_getElem? (i := 751) (by decide +kernel)⟩
def lw_privs_1 : List (MethodName × Nat) := [(⟨"WaterMen", "today", "()I"⟩, 13), (⟨"WaterMen", "manAt", "(I)LWaterMen$Man;"⟩, 13), (⟨"WaterMen", "placeInTurns", "(LWaterMen$Man;)I"⟩, 13), (⟨"WaterMen", "boatAt", "(I)LWaterMen$Boat;"⟩, 13), (⟨"WaterMen", "numberInForce", "(II)I"⟩, 13), (⟨"WaterMen", "orderAt", "(I)LWaterMen$Order;"⟩, 13), (⟨"WaterMen", "priceOf", "(LWaterMen$Order;IIII)I"⟩, 13), (⟨"WaterMen", "mayGoTo", "(LWaterMen$Boat;I)Z"⟩, 13), (⟨"WaterMen", "hindrance", "(LWaterMen$Boat;LWaterMen$Man;I)I"⟩, 13), (⟨"WaterMen", "mustWait", "(LWaterMen$Man;I)Z"⟩, 13), (⟨"WaterMen", "hasTurns", "(I)Z"⟩, 13), (⟨"WaterMen", "hourNow", "()I"⟩, 13), (⟨"WaterMen", "minutesOfWay", "(LWaterMen$Boat;I)I"⟩, 13), (⟨"WaterMen", "takeMoney", "(LWaterMen$Man;I)V"⟩, 13), (⟨"WaterMen", "partPot", "(I)V"⟩, 13), (⟨"WaterMen", "tripAt", "(I)LWaterMen$Trip;"⟩, 13)]
theorem lw_r1 : ∀ q ∈ lw_privs_1, lw_okq q := List.forall_mem_cons.mpr ⟨lw_p0, List.forall_mem_cons.mpr ⟨lw_p1, List.forall_mem_cons.mpr ⟨lw_p2, List.forall_mem_cons.mpr ⟨lw_p3, List.forall_mem_cons.mpr ⟨lw_p4, List.forall_mem_cons.mpr ⟨lw_p5, List.forall_mem_cons.mpr ⟨lw_p6, List.forall_mem_cons.mpr ⟨lw_p7, List.forall_mem_cons.mpr ⟨lw_p8, List.forall_mem_cons.mpr ⟨lw_p9, List.forall_mem_cons.mpr ⟨lw_p10, List.forall_mem_cons.mpr ⟨lw_p11, List.forall_mem_cons.mpr ⟨lw_p12, List.forall_mem_cons.mpr ⟨lw_p13, List.forall_mem_cons.mpr ⟨lw_p14, List.forall_mem_cons.mpr ⟨lw_p15, fun _ h => absurd h List.not_mem_nil⟩⟩⟩⟩⟩⟩⟩⟩⟩⟩⟩⟩⟩⟩⟩⟩
theorem lw_p16 : lw_okq (⟨"WaterMen", "dueOf", "(LWaterMen$Trip;I)I"⟩, 13) := ⟨⟨by decide +kernel, by decide +kernel⟩, List.mem_of_getElem? (i := 18) (by decide +kernel), List.mem_of_getElem? (i := 786) (by decide +kernel), List.mem_of_getElem? (i := 787) (by decide +kernel)⟩
theorem lw_p17 : lw_okq (⟨"WaterMen", "overpaid", "(LWaterMen$Trip;I)I"⟩, 13) := ⟨⟨by decide +kernel, by decide +kernel⟩, List.mem_of_getElem? (i := 18) (by decide +kernel), List.mem_of_getElem? (i := 794) (by decide +kernel), List.mem_of_getElem? (i := 795) (by decide +kernel)⟩
theorem lw_p18 : lw_okq (⟨"WaterMen", "menThatAre", "(I)I"⟩, 13) := ⟨⟨by decide +kernel, by decide +kernel⟩, List.mem_of_getElem? (i := 18) (by decide +kernel), List.mem_of_getElem? (i := 824) (by decide +kernel), List.mem_of_getElem? (i := 825) (by decide +kernel)⟩
theorem lw_p19 : lw_okq (⟨"WaterMen", "coinsOfMen", "()I"⟩, 13) := ⟨⟨by decide +kernel, by decide +kernel⟩, List.mem_of_getElem? (i := 18) (by decide +kernel), List.mem_of_getElem? (i := 832) (by decide +kernel), List.mem_of_getElem? (i := 833) (by decide +kernel)⟩
theorem lw_p20 : lw_okq (⟨"WaterMenModel", "flowOf", "(II)I"⟩, 64) := ⟨⟨by decide +kernel, by decide +kernel⟩, List.mem_of_getElem? (i := 864) (by decide +kernel), List.mem_of_getElem? (i := 862) (by decide +kernel), List.mem_of_getElem? (i := 863) (by decide +kernel)⟩
theorem lw_p21 : lw_okq (⟨"WaterMenModel", "levelOf", "(II)I"⟩, 64) := ⟨⟨by decide +kernel, by decide +kernel⟩, List.mem_of_getElem? (i := 864) (by decide +kernel), List.mem_of_getElem? (i := 867) (by decide +kernel), List.mem_of_getElem? (i := 868) (by decide +kernel)⟩
theorem lw_p22 : lw_okq (⟨"WaterMenModel", "today", "()I"⟩, 64) := ⟨⟨by decide +kernel, by decide +kernel⟩, List.mem_of_getElem? (i := 864) (by decide +kernel), List.mem_of_getElem? (i := 875) (by decide +kernel), List.mem_of_getElem? (i := 876) (by decide +kernel)⟩
theorem lw_p23 : lw_okq (⟨"WaterMenModel", "servedOf", "(I)I"⟩, 64) := ⟨⟨by decide +kernel, by decide +kernel⟩, List.mem_of_getElem? (i := 864) (by decide +kernel), List.mem_of_getElem? (i := 1096) (by decide +kernel), List.mem_of_getElem? (i := 1097) (by decide +kernel)⟩
theorem lw_p24 : lw_okq (⟨"WaterMenModel", "rowOf", "(I)I"⟩, 64) := ⟨⟨by decide +kernel, by decide +kernel⟩, List.mem_of_getElem? (i := 864) (by decide +kernel), List.mem_of_getElem? (i := 1108) (by decide +kernel), List.mem_of_getElem? (i := 1109) (by decide +kernel)⟩
theorem lw_p25 : lw_okq (⟨"WaterMenModel", "placeOf", "(I)I"⟩, 64) := ⟨⟨by decide +kernel, by decide +kernel⟩, List.mem_of_getElem? (i := 864) (by decide +kernel), List.mem_of_getElem? (i := 1112) (by decide +kernel), List.mem_of_getElem? (i := 1113) (by decide +kernel)⟩
theorem lw_p26 : lw_okq (⟨"WaterMenModel", "isStairs", "(I)Z"⟩, 64) := ⟨⟨by decide +kernel, by decide +kernel⟩, List.mem_of_getElem? (i := 864) (by decide +kernel), List.mem_of_getElem? (i := 1120) (by decide +kernel), List.mem_of_getElem? (i := 1121) (by decide +kernel)⟩
theorem lw_p27 : lw_okq (⟨"WaterMenModel", "leaves", "(I)V"⟩, 64) := ⟨⟨by decide +kernel, by decide +kernel⟩, List.mem_of_getElem? (i := 864) (by decide +kernel), List.mem_of_getElem? (i := 1128) (by decide +kernel), List.mem_of_getElem? (i := 1129) (by decide +kernel)⟩
theorem lw_p28 : lw_okq (⟨"WaterMenModel", "isBoat", "(I)Z"⟩, 64) := ⟨⟨by decide +kernel, by decide +kernel⟩, List.mem_of_getElem? (i := 864) (by decide +kernel), List.mem_of_getElem? (i := 1140) (by decide +kernel), List.mem_of_getElem? (i := 1141) (by decide +kernel)⟩
theorem lw_p29 : lw_okq (⟨"WaterMenModel", "four", "(I)V"⟩, 64) := ⟨⟨by decide +kernel, by decide +kernel⟩, List.mem_of_getElem? (i := 864) (by decide +kernel), List.mem_of_getElem? (i := 1148) (by decide +kernel), List.mem_of_getElem? (i := 1149) (by decide +kernel)⟩
theorem lw_p30 : lw_okq (⟨"WaterMenModel", "advance", "()V"⟩, 64) := ⟨⟨by decide +kernel, by decide +kernel⟩, List.mem_of_getElem? (i := 864) (by decide +kernel), List.mem_of_getElem? (i := 1160) (by decide +kernel), List.mem_of_getElem? (i := 1161) (by decide +kernel)⟩
theorem lw_p31 : lw_okq (⟨"WaterMenModel", "line", "(I)Z"⟩, 64) := ⟨⟨by decide +kernel, by decide +kernel⟩, List.mem_of_getElem? (i := 864) (by decide +kernel), List.mem_of_getElem? (i := 1186) (by decide +kernel), List.mem_of_getElem? (i := 1187) (by decide +kernel)⟩
def lw_privs_2 : List (MethodName × Nat) := [(⟨"WaterMen", "dueOf", "(LWaterMen$Trip;I)I"⟩, 13), (⟨"WaterMen", "overpaid", "(LWaterMen$Trip;I)I"⟩, 13), (⟨"WaterMen", "menThatAre", "(I)I"⟩, 13), (⟨"WaterMen", "coinsOfMen", "()I"⟩, 13), (⟨"WaterMenModel", "flowOf", "(II)I"⟩, 64), (⟨"WaterMenModel", "levelOf", "(II)I"⟩, 64), (⟨"WaterMenModel", "today", "()I"⟩, 64), (⟨"WaterMenModel", "servedOf", "(I)I"⟩, 64), (⟨"WaterMenModel", "rowOf", "(I)I"⟩, 64), (⟨"WaterMenModel", "placeOf", "(I)I"⟩, 64), (⟨"WaterMenModel", "isStairs", "(I)Z"⟩, 64), (⟨"WaterMenModel", "leaves", "(I)V"⟩, 64), (⟨"WaterMenModel", "isBoat", "(I)Z"⟩, 64), (⟨"WaterMenModel", "four", "(I)V"⟩, 64), (⟨"WaterMenModel", "advance", "()V"⟩, 64), (⟨"WaterMenModel", "line", "(I)Z"⟩, 64)]
theorem lw_r2 : ∀ q ∈ lw_privs_2, lw_okq q := List.forall_mem_cons.mpr ⟨lw_p16, List.forall_mem_cons.mpr ⟨lw_p17, List.forall_mem_cons.mpr ⟨lw_p18, List.forall_mem_cons.mpr ⟨lw_p19, List.forall_mem_cons.mpr ⟨lw_p20, List.forall_mem_cons.mpr ⟨lw_p21, List.forall_mem_cons.mpr ⟨lw_p22, List.forall_mem_cons.mpr ⟨lw_p23, List.forall_mem_cons.mpr ⟨lw_p24, List.forall_mem_cons.mpr ⟨lw_p25, List.forall_mem_cons.mpr ⟨lw_p26, List.forall_mem_cons.mpr ⟨lw_p27, List.forall_mem_cons.mpr ⟨lw_p28, List.forall_mem_cons.mpr ⟨lw_p29, List.forall_mem_cons.mpr ⟨lw_p30, List.forall_mem_cons.mpr ⟨lw_p31, fun _ h => absurd h List.not_mem_nil⟩⟩⟩⟩⟩⟩⟩⟩⟩⟩⟩⟩⟩⟩⟩⟩
theorem lw_p32 : lw_okq (⟨"WaterMenModel", "takes", "(I)Z"⟩, 64) := ⟨⟨by decide +kernel, by decide +kernel⟩, List.mem_of_getElem? (i := 864) (by decide +kernel), List.mem_of_getElem? (i := 1190) (by decide +kernel), List.mem_of_getElem? (i := 1191) (by decide +kernel)⟩
theorem lw_p33 : lw_okq (⟨"WaterMenModel", "forceOn", "(II)I"⟩, 64) := ⟨⟨by decide +kernel, by decide +kernel⟩, List.mem_of_getElem? (i := 864) (by decide +kernel), List.mem_of_getElem? (i := 1198) (by decide +kernel), List.mem_of_getElem? (i := 1199) (by decide +kernel)⟩
theorem lw_p34 : lw_okq (⟨"WaterMenModel", "fareOf", "(IIIIII)I"⟩, 64) := ⟨⟨by decide +kernel, by decide +kernel⟩, List.mem_of_getElem? (i := 864) (by decide +kernel), List.mem_of_getElem? (i := 1206) (by decide +kernel), List.mem_of_getElem? (i := 1207) (by decide +kernel)⟩
theorem lw_p35 : lw_okq (⟨"WaterMenModel", "lineOf", "(II)I"⟩, 64) := ⟨⟨by decide +kernel, by decide +kernel⟩, List.mem_of_getElem? (i := 864) (by decide +kernel), List.mem_of_getElem? (i := 1210) (by decide +kernel), List.mem_of_getElem? (i := 1211) (by decide +kernel)⟩
theorem lw_p36 : lw_okq (⟨"WaterMenModel", "isAsked", "(III)Z"⟩, 64) := ⟨⟨by decide +kernel, by decide +kernel⟩, List.mem_of_getElem? (i := 864) (by decide +kernel), List.mem_of_getElem? (i := 1224) (by decide +kernel), List.mem_of_getElem? (i := 1225) (by decide +kernel)⟩
theorem lw_p37 : lw_okq (⟨"WaterMenModel", "hinders", "(III)I"⟩, 64) := ⟨⟨by decide +kernel, by decide +kernel⟩, List.mem_of_getElem? (i := 864) (by decide +kernel), List.mem_of_getElem? (i := 1228) (by decide +kernel), List.mem_of_getElem? (i := 1229) (by decide +kernel)⟩
theorem lw_p38 : lw_okq (⟨"WaterMenModel", "hourNow", "()I"⟩, 64) := ⟨⟨by decide +kernel, by decide +kernel⟩, List.mem_of_getElem? (i := 864) (by decide +kernel), List.mem_of_getElem? (i := 1232) (by decide +kernel), List.mem_of_getElem? (i := 1233) (by decide +kernel)⟩
theorem lw_p39 : lw_okq (⟨"WaterMenModel", "minutesOf", "(II)I"⟩, 64) := ⟨⟨by decide +kernel, by decide +kernel⟩, List.mem_of_getElem? (i := 864) (by decide +kernel), List.mem_of_getElem? (i := 1236) (by decide +kernel), List.mem_of_getElem? (i := 1237) (by decide +kernel)⟩
theorem lw_p40 : lw_okq (⟨"WaterMenModel", "arrive", "()V"⟩, 64) := ⟨⟨by decide +kernel, by decide +kernel⟩, List.mem_of_getElem? (i := 864) (by decide +kernel), List.mem_of_getElem? (i := 1249) (by decide +kernel), List.mem_of_getElem? (i := 1250) (by decide +kernel)⟩
theorem lw_p41 : lw_okq (⟨"WaterMenModel", "part", "(I)V"⟩, 64) := ⟨⟨by decide +kernel, by decide +kernel⟩, List.mem_of_getElem? (i := 864) (by decide +kernel), List.mem_of_getElem? (i := 1253) (by decide +kernel), List.mem_of_getElem? (i := 1254) (by decide +kernel)⟩
theorem lw_p42 : lw_okq (⟨"WaterMenModel", "pay", "(I)V"⟩, 64) := ⟨⟨by decide +kernel, by decide +kernel⟩, List.mem_of_getElem? (i := 864) (by decide +kernel), List.mem_of_getElem? (i := 1257) (by decide +kernel), List.mem_of_getElem? (i := 1258) (by decide +kernel)⟩
theorem lw_p43 : lw_okq (⟨"WaterMenModel", "newPensioner", "(II)I"⟩, 64) := ⟨⟨by decide +kernel, by decide +kernel⟩, List.mem_of_getElem? (i := 864) (by decide +kernel), List.mem_of_getElem? (i := 1268) (by decide +kernel), List.mem_of_getElem? (i := 1269) (by decide +kernel)⟩
theorem lw_p44 : lw_okq (⟨"WaterMenModel", "dueOf", "(II)I"⟩, 64) := ⟨⟨by decide +kernel, by decide +kernel⟩, List.mem_of_getElem? (i := 864) (by decide +kernel), List.mem_of_getElem? (i := 1280) (by decide +kernel), List.mem_of_getElem? (i := 1281) (by decide +kernel)⟩
theorem lw_p45 : lw_okq (⟨"WaterMenModel", "menAs", "(I)I"⟩, 64) := ⟨⟨by decide +kernel, by decide +kernel⟩, List.mem_of_getElem? (i := 864) (by decide +kernel), List.mem_of_getElem? (i := 1304) (by decide +kernel), List.mem_of_getElem? (i := 1305) (by decide +kernel)⟩
def lw_privs_3 : List (MethodName × Nat) := [(⟨"WaterMenModel", "takes", "(I)Z"⟩, 64), (⟨"WaterMenModel", "forceOn", "(II)I"⟩, 64), (⟨"WaterMenModel", "fareOf", "(IIIIII)I"⟩, 64), (⟨"WaterMenModel", "lineOf", "(II)I"⟩, 64), (⟨"WaterMenModel", "isAsked", "(III)Z"⟩, 64), (⟨"WaterMenModel", "hinders", "(III)I"⟩, 64), (⟨"WaterMenModel", "hourNow", "()I"⟩, 64), (⟨"WaterMenModel", "minutesOf", "(II)I"⟩, 64), (⟨"WaterMenModel", "arrive", "()V"⟩, 64), (⟨"WaterMenModel", "part", "(I)V"⟩, 64), (⟨"WaterMenModel", "pay", "(I)V"⟩, 64), (⟨"WaterMenModel", "newPensioner", "(II)I"⟩, 64), (⟨"WaterMenModel", "dueOf", "(II)I"⟩, 64), (⟨"WaterMenModel", "menAs", "(I)I"⟩, 64)]
theorem lw_r3 : ∀ q ∈ lw_privs_3, lw_okq q := List.forall_mem_cons.mpr ⟨lw_p32, List.forall_mem_cons.mpr ⟨lw_p33, List.forall_mem_cons.mpr ⟨lw_p34, List.forall_mem_cons.mpr ⟨lw_p35, List.forall_mem_cons.mpr ⟨lw_p36, List.forall_mem_cons.mpr ⟨lw_p37, List.forall_mem_cons.mpr ⟨lw_p38, List.forall_mem_cons.mpr ⟨lw_p39, List.forall_mem_cons.mpr ⟨lw_p40, List.forall_mem_cons.mpr ⟨lw_p41, List.forall_mem_cons.mpr ⟨lw_p42, List.forall_mem_cons.mpr ⟨lw_p43, List.forall_mem_cons.mpr ⟨lw_p44, List.forall_mem_cons.mpr ⟨lw_p45, fun _ h => absurd h List.not_mem_nil⟩⟩⟩⟩⟩⟩⟩⟩⟩⟩⟩⟩⟩⟩
def lw_privs : List (MethodName × Nat) := lw_privs_1 ++ (lw_privs_2 ++ (lw_privs_3))
def lw_tbl : List Cond := k2_sels lw_privs ++ tables_1
theorem lw_privs_ok : ∀ q ∈ lw_privs, lw_okq q := by
  show ∀ q ∈ lw_privs_1 ++ (lw_privs_2 ++ (lw_privs_3)), lw_okq q
  exact List.forall_mem_append.mpr ⟨lw_r1, List.forall_mem_append.mpr ⟨lw_r2, lw_r3⟩⟩
end
section
def R_WM : String := "WaterMen"
def F_WM : u_T := fun k => match k with
  | 0 => ("WaterMen", "river", "LWaterMen$River;", true)
  | 1 => ("WaterMen", "men", "[LWaterMen$Man;", true)
  | 2 => ("WaterMen", "boats", "[LWaterMen$Boat;", true)
  | 3 => ("WaterMen", "orders", "[LWaterMen$Order;", true)
  | 4 => ("WaterMen", "trips", "[LWaterMen$Trip;", true)
  | 5 => ("WaterMen", "tape", "LWaterMen$Tape;", true)
  | 6 => ("WaterMen", "box", "LWaterMen$Box;", true)
  | 7 => ("WaterMen", "boatCount", "I", false)
  | 8 => ("WaterMen", "orderCount", "I", false)
  | 9 => ("WaterMen", "tripCount", "I", false)
  | 10 => ("WaterMen", "now", "I", false)
  | 11 => ("WaterMen", "joins", "I", false)
  | _ => ("WaterMen", "draft", "LWaterMen$Order;", false)
def t_WM : Nat → FieldType := fun k => match k with
  | 0 => .object "WaterMen$River"
  | 1 => .array (.object "WaterMen$Man")
  | 2 => .array (.object "WaterMen$Boat")
  | 3 => .array (.object "WaterMen$Order")
  | 4 => .array (.object "WaterMen$Trip")
  | 5 => .object "WaterMen$Tape"
  | 6 => .object "WaterMen$Box"
  | 7 => .int
  | 8 => .int
  | 9 => .int
  | 10 => .int
  | 11 => .int
  | _ => .object "WaterMen$Order"
abbrev b_WM_init : ByteArray := prog_1_method_1_code
def y_WM_init : MethodName := ⟨R_WM, "<init>", "()V"⟩
abbrev b_WM_stairs : ByteArray := prog_1_method_2_code
def y_WM_stairs : MethodName := ⟨R_WM, "stairs", "(I)I"⟩
abbrev b_WM_bridge : ByteArray := prog_1_method_3_code
def y_WM_bridge : MethodName := ⟨R_WM, "bridge", "(I)I"⟩
abbrev b_WM_level : ByteArray := prog_1_method_4_code
def y_WM_level : MethodName := ⟨R_WM, "level", "(III)I"⟩
abbrev b_WM_table : ByteArray := prog_1_method_5_code
def y_WM_table : MethodName := ⟨R_WM, "table", "(II)I"⟩
abbrev b_WM_flow : ByteArray := prog_1_method_6_code
def y_WM_flow : MethodName := ⟨R_WM, "flow", "(II)I"⟩
abbrev b_WM_frost : ByteArray := prog_1_method_7_code
def y_WM_frost : MethodName := ⟨R_WM, "frost", "(II)I"⟩
abbrev b_WM_free : ByteArray := prog_1_method_8_code
def y_WM_free : MethodName := ⟨R_WM, "free", "(I)I"⟩
abbrev b_WM_bind : ByteArray := prog_1_method_9_code
def y_WM_bind : MethodName := ⟨R_WM, "bind", "(II)I"⟩
abbrev b_WM_absent : ByteArray := prog_1_method_10_code
def y_WM_absent : MethodName := ⟨R_WM, "absent", "(III)I"⟩
abbrev b_WM_served : ByteArray := prog_1_method_11_code
def y_WM_served : MethodName := ⟨R_WM, "served", "(I)I"⟩
abbrev b_WM_pass : ByteArray := prog_1_method_12_code
def y_WM_pass : MethodName := ⟨R_WM, "pass", "(I)I"⟩
abbrev b_WM_man : ByteArray := prog_1_method_13_code
def y_WM_man : MethodName := ⟨R_WM, "man", "(II)I"⟩
abbrev b_WM_boat : ByteArray := prog_1_method_14_code
def y_WM_boat : MethodName := ⟨R_WM, "boat", "(II)I"⟩
abbrev b_WM_craft : ByteArray := prog_1_method_15_code
def y_WM_craft : MethodName := ⟨R_WM, "craft", "(II)I"⟩
abbrev b_WM_join : ByteArray := prog_1_method_16_code
def y_WM_join : MethodName := ⟨R_WM, "join", "(II)I"⟩
abbrev b_WM_leave : ByteArray := prog_1_method_17_code
def y_WM_leave : MethodName := ⟨R_WM, "leave", "(I)I"⟩
abbrev b_WM_feed : ByteArray := prog_1_method_18_code
def y_WM_feed : MethodName := ⟨R_WM, "feed", "(IIIII)I"⟩
abbrev b_WM_end : ByteArray := prog_1_method_19_code
def y_WM_end : MethodName := ⟨R_WM, "end", "(I)I"⟩
abbrev b_WM_order : ByteArray := prog_1_method_20_code
def y_WM_order : MethodName := ⟨R_WM, "order", "(I)I"⟩
abbrev b_WM_inForce : ByteArray := prog_1_method_21_code
def y_WM_inForce : MethodName := ⟨R_WM, "inForce", "(II)I"⟩
abbrev b_WM_fare : ByteArray := prog_1_method_22_code
def y_WM_fare : MethodName := ⟨R_WM, "fare", "(IIIII)I"⟩
abbrev b_WM_why : ByteArray := prog_1_method_23_code
def y_WM_why : MethodName := ⟨R_WM, "why", "(III)I"⟩
abbrev b_WM_row : ByteArray := prog_1_method_24_code
def y_WM_row : MethodName := ⟨R_WM, "row", "(IIII)I"⟩
abbrev b_WM_minutes : ByteArray := prog_1_method_25_code
def y_WM_minutes : MethodName := ⟨R_WM, "minutes", "(I)I"⟩
abbrev b_WM_sink : ByteArray := prog_1_method_26_code
def y_WM_sink : MethodName := ⟨R_WM, "sink", "(III)I"⟩
abbrev b_WM_trip : ByteArray := prog_1_method_27_code
def y_WM_trip : MethodName := ⟨R_WM, "trip", "(II)I"⟩
abbrev b_WM_due : ByteArray := prog_1_method_28_code
def y_WM_due : MethodName := ⟨R_WM, "due", "(II)I"⟩
abbrev b_WM_over : ByteArray := prog_1_method_29_code
def y_WM_over : MethodName := ⟨R_WM, "over", "(II)I"⟩
abbrev b_WM_pension : ByteArray := prog_1_method_30_code
def y_WM_pension : MethodName := ⟨R_WM, "pension", "(II)I"⟩
abbrev b_WM_foretold : ByteArray := prog_1_method_31_code
def y_WM_foretold : MethodName := ⟨R_WM, "foretold", "()I"⟩
abbrev b_WM_pensioner : ByteArray := prog_1_method_32_code
def y_WM_pensioner : MethodName := ⟨R_WM, "pensioner", "(II)I"⟩
abbrev b_WM_count : ByteArray := prog_1_method_33_code
def y_WM_count : MethodName := ⟨R_WM, "count", "(I)I"⟩
abbrev b_WM_coins : ByteArray := prog_1_method_34_code
def y_WM_coins : MethodName := ⟨R_WM, "coins", "(I)I"⟩
abbrev b_WM_today : ByteArray := prog_1_method_35_code
def y_WM_today : MethodName := ⟨R_WM, "today", "()I"⟩
abbrev b_WM_isDay : ByteArray := prog_1_method_36_code
def y_WM_isDay : MethodName := ⟨R_WM, "isDay", "(I)Z"⟩
abbrev b_WM_isHour : ByteArray := prog_1_method_37_code
def y_WM_isHour : MethodName := ⟨R_WM, "isHour", "(I)Z"⟩
abbrev b_WM_isLevel : ByteArray := prog_1_method_38_code
def y_WM_isLevel : MethodName := ⟨R_WM, "isLevel", "(I)Z"⟩
abbrev b_WM_isOars : ByteArray := prog_1_method_39_code
def y_WM_isOars : MethodName := ⟨R_WM, "isOars", "(I)Z"⟩
abbrev b_WM_isPension : ByteArray := prog_1_method_40_code
def y_WM_isPension : MethodName := ⟨R_WM, "isPension", "(II)Z"⟩
abbrev b_WM_isSunday : ByteArray := prog_1_method_41_code
def y_WM_isSunday : MethodName := ⟨R_WM, "isSunday", "(I)Z"⟩
abbrev b_WM_manAt : ByteArray := prog_1_method_42_code
def y_WM_manAt : MethodName := ⟨R_WM, "manAt", "(I)LWaterMen$Man;"⟩
abbrev b_WM_boatAt : ByteArray := prog_1_method_43_code
def y_WM_boatAt : MethodName := ⟨R_WM, "boatAt", "(I)LWaterMen$Boat;"⟩
abbrev b_WM_orderAt : ByteArray := prog_1_method_44_code
def y_WM_orderAt : MethodName := ⟨R_WM, "orderAt", "(I)LWaterMen$Order;"⟩
abbrev b_WM_tripAt : ByteArray := prog_1_method_45_code
def y_WM_tripAt : MethodName := ⟨R_WM, "tripAt", "(I)LWaterMen$Trip;"⟩
abbrev b_WM_placeInTurns : ByteArray := prog_1_method_46_code
def y_WM_placeInTurns : MethodName := ⟨R_WM, "placeInTurns", "(LWaterMen$Man;)I"⟩
abbrev b_WM_hasTurns : ByteArray := prog_1_method_47_code
def y_WM_hasTurns : MethodName := ⟨R_WM, "hasTurns", "(I)Z"⟩
abbrev b_WM_mustWait : ByteArray := prog_1_method_48_code
def y_WM_mustWait : MethodName := ⟨R_WM, "mustWait", "(LWaterMen$Man;I)Z"⟩
abbrev b_WM_menThatAre : ByteArray := prog_1_method_49_code
def y_WM_menThatAre : MethodName := ⟨R_WM, "menThatAre", "(I)I"⟩
abbrev b_WM_coinsOfMen : ByteArray := prog_1_method_50_code
def y_WM_coinsOfMen : MethodName := ⟨R_WM, "coinsOfMen", "()I"⟩
abbrev b_WM_numberInForce : ByteArray := prog_1_method_51_code
def y_WM_numberInForce : MethodName := ⟨R_WM, "numberInForce", "(II)I"⟩
abbrev b_WM_priceOf : ByteArray := prog_1_method_52_code
def y_WM_priceOf : MethodName := ⟨R_WM, "priceOf", "(LWaterMen$Order;IIII)I"⟩
abbrev b_WM_dueOf : ByteArray := prog_1_method_53_code
def y_WM_dueOf : MethodName := ⟨R_WM, "dueOf", "(LWaterMen$Trip;I)I"⟩
abbrev b_WM_overpaid : ByteArray := prog_1_method_54_code
def y_WM_overpaid : MethodName := ⟨R_WM, "overpaid", "(LWaterMen$Trip;I)I"⟩
abbrev b_WM_mayGoTo : ByteArray := prog_1_method_55_code
def y_WM_mayGoTo : MethodName := ⟨R_WM, "mayGoTo", "(LWaterMen$Boat;I)Z"⟩
abbrev b_WM_hindrance : ByteArray := prog_1_method_56_code
def y_WM_hindrance : MethodName := ⟨R_WM, "hindrance", "(LWaterMen$Boat;LWaterMen$Man;I)I"⟩
abbrev b_WM_hourNow : ByteArray := prog_1_method_57_code
def y_WM_hourNow : MethodName := ⟨R_WM, "hourNow", "()I"⟩
abbrev b_WM_minutesOfWay : ByteArray := prog_1_method_58_code
def y_WM_minutesOfWay : MethodName := ⟨R_WM, "minutesOfWay", "(LWaterMen$Boat;I)I"⟩
abbrev b_WM_takeMoney : ByteArray := prog_1_method_59_code
def y_WM_takeMoney : MethodName := ⟨R_WM, "takeMoney", "(LWaterMen$Man;I)V"⟩
abbrev b_WM_partPot : ByteArray := prog_1_method_60_code
def y_WM_partPot : MethodName := ⟨R_WM, "partPot", "(I)V"⟩
def R_Rv : String := "WaterMen$River"
def F_Rv : u_T := fun k => match k with
  | 0 => ("WaterMen$River", "milesUp", "[I", true)
  | 1 => ("WaterMen$River", "table", "[I", true)
  | 2 => ("WaterMen$River", "rows", "[[I", true)
  | 3 => ("WaterMen$River", "frozen", "[Z", true)
  | 4 => ("WaterMen$River", "stairCount", "I", false)
  | _ => ("WaterMen$River", "bridgeAbove", "I", false)
def t_Rv : Nat → FieldType := fun k => match k with
  | 0 => .array (.int)
  | 1 => .array (.int)
  | 2 => .array (.array (.int))
  | 3 => .array (.boolean)
  | 4 => .int
  | _ => .int
abbrev b_Rv_init : ByteArray := prog_8_method_1_code
def y_Rv_init : MethodName := ⟨R_Rv, "<init>", "()V"⟩
abbrev b_Rv_isFrozen : ByteArray := prog_8_method_2_code
def y_Rv_isFrozen : MethodName := ⟨R_Rv, "isFrozen", "(I)Z"⟩
abbrev b_Rv_hasStairs : ByteArray := prog_8_method_3_code
def y_Rv_hasStairs : MethodName := ⟨R_Rv, "hasStairs", "(I)Z"⟩
abbrev b_Rv_highest : ByteArray := prog_8_method_4_code
def y_Rv_highest : MethodName := ⟨R_Rv, "highest", "()I"⟩
abbrev b_Rv_addStairs : ByteArray := prog_8_method_5_code
def y_Rv_addStairs : MethodName := ⟨R_Rv, "addStairs", "(I)I"⟩
abbrev b_Rv_distance : ByteArray := prog_8_method_6_code
def y_Rv_distance : MethodName := ⟨R_Rv, "distance", "(II)I"⟩
abbrev b_Rv_passesBridge : ByteArray := prog_8_method_7_code
def y_Rv_passesBridge : MethodName := ⟨R_Rv, "passesBridge", "(II)Z"⟩
abbrev b_Rv_tell : ByteArray := prog_8_method_8_code
def y_Rv_tell : MethodName := ⟨R_Rv, "tell", "(III)V"⟩
abbrev b_Rv_height : ByteArray := prog_8_method_9_code
def y_Rv_height : MethodName := ⟨R_Rv, "height", "(II)I"⟩
abbrev b_Rv_flowIn : ByteArray := prog_8_method_10_code
def y_Rv_flowIn : MethodName := ⟨R_Rv, "flowIn", "(II)I"⟩
abbrev b_Rv_drift : ByteArray := prog_8_method_11_code
def y_Rv_drift : MethodName := ⟨R_Rv, "drift", "(IIII)I"⟩
def R_Mn : String := "WaterMen$Man"
def F_Mn : u_T := fun k => match k with
  | 0 => ("WaterMen$Man", "state", "I", false)
  | 1 => ("WaterMen$Man", "bond", "LWaterMen$Bond;", false)
  | 2 => ("WaterMen$Man", "turnStairs", "I", false)
  | 3 => ("WaterMen$Man", "turnTicket", "I", false)
  | 4 => ("WaterMen$Man", "coins", "I", false)
  | 5 => ("WaterMen$Man", "busyUntil", "I", false)
  | 6 => ("WaterMen$Man", "tripCount", "I", false)
  | _ => ("WaterMen$Man", "lastSunday", "I", false)
def t_Mn : Nat → FieldType := fun k => match k with
  | 0 => .int
  | 1 => .object "WaterMen$Bond"
  | 2 => .int
  | 3 => .int
  | 4 => .int
  | 5 => .int
  | 6 => .int
  | _ => .int
abbrev b_Mn_init : ByteArray := prog_5_method_1_code
def y_Mn_init : MethodName := ⟨R_Mn, "<init>", "()V"⟩
abbrev b_Mn_isOnWay : ByteArray := prog_5_method_2_code
def y_Mn_isOnWay : MethodName := ⟨R_Mn, "isOnWay", "(I)Z"⟩
abbrev b_Mn_setOut : ByteArray := prog_5_method_3_code
def y_Mn_setOut : MethodName := ⟨R_Mn, "setOut", "(I)V"⟩
def R_Or : String := "WaterMen$Order"
def F_Or : u_T := fun k => match k with
  | 0 => ("WaterMen$Order", "madeOn", "I", false)
  | 1 => ("WaterMen$Order", "inForceFrom", "I", false)
  | 2 => ("WaterMen$Order", "fares", "[I", true)
  | 3 => ("WaterMen$Order", "hours", "[I", true)
  | 4 => ("WaterMen$Order", "single", "[I", true)
  | 5 => ("WaterMen$Order", "fareCount", "I", false)
  | 6 => ("WaterMen$Order", "hourCount", "I", false)
  | 7 => ("WaterMen$Order", "bridgeOpens", "I", false)
  | _ => ("WaterMen$Order", "bridgeShuts", "I", false)
def t_Or : Nat → FieldType := fun k => match k with
  | 0 => .int
  | 1 => .int
  | 2 => .array (.int)
  | 3 => .array (.int)
  | 4 => .array (.int)
  | 5 => .int
  | 6 => .int
  | 7 => .int
  | _ => .int
abbrev b_Or_init : ByteArray := prog_6_method_1_code
def y_Or_init : MethodName := ⟨R_Or, "<init>", "()V"⟩
abbrev b_Or_clear : ByteArray := prog_6_method_2_code
def y_Or_clear : MethodName := ⟨R_Or, "clear", "()V"⟩
abbrev b_Or_takesLine : ByteArray := prog_6_method_3_code
def y_Or_takesLine : MethodName := ⟨R_Or, "takesLine", "(I)Z"⟩
abbrev b_Or_addLine : ByteArray := prog_6_method_4_code
def y_Or_addLine : MethodName := ⟨R_Or, "addLine", "(IIII)V"⟩
abbrev b_Or_setLine : ByteArray := prog_6_method_5_code
def y_Or_setLine : MethodName := ⟨R_Or, "setLine", "([IIIII)V"⟩
abbrev b_Or_lineHolds : ByteArray := prog_6_method_6_code
def y_Or_lineHolds : MethodName := ⟨R_Or, "lineHolds", "([III)Z"⟩
abbrev b_Or_price : ByteArray := prog_6_method_7_code
def y_Or_price : MethodName := ⟨R_Or, "price", "(IIIII)I"⟩
abbrev b_Or_basePrice : ByteArray := prog_6_method_8_code
def y_Or_basePrice : MethodName := ⟨R_Or, "basePrice", "(I)I"⟩
abbrev b_Or_scaled : ByteArray := prog_6_method_9_code
def y_Or_scaled : MethodName := ⟨R_Or, "scaled", "(II)I"⟩
abbrev b_Or_shutsBridge : ByteArray := prog_6_method_10_code
def y_Or_shutsBridge : MethodName := ⟨R_Or, "shutsBridge", "(II)Z"⟩
def R_Tp : String := "WaterMen$Tape"
def F_Tp : u_T := fun k => match k with
  | 0 => ("WaterMen$Tape", "bytes", "[B", true)
  | 1 => ("WaterMen$Tape", "length", "I", false)
  | 2 => ("WaterMen$Tape", "sort", "I", false)
  | 3 => ("WaterMen$Tape", "start", "I", false)
  | 4 => ("WaterMen$Tape", "behind", "I", false)
  | _ => ("WaterMen$Tape", "value", "I", false)
def t_Tp : Nat → FieldType := fun k => match k with
  | 0 => .array (.byte)
  | 1 => .int
  | 2 => .int
  | 3 => .int
  | 4 => .int
  | _ => .int
abbrev b_Tp_init : ByteArray := prog_9_method_1_code
def y_Tp_init : MethodName := ⟨R_Tp, "<init>", "()V"⟩
abbrev b_Tp_hasRoomForFive : ByteArray := prog_9_method_2_code
def y_Tp_hasRoomForFive : MethodName := ⟨R_Tp, "hasRoomForFive", "()Z"⟩
abbrev b_Tp_append : ByteArray := prog_9_method_3_code
def y_Tp_append : MethodName := ⟨R_Tp, "append", "(I)V"⟩
abbrev b_Tp_readInto : ByteArray := prog_9_method_4_code
def y_Tp_readInto : MethodName := ⟨R_Tp, "readInto", "(LWaterMen$Order;)I"⟩
abbrev b_Tp_readLine : ByteArray := prog_9_method_5_code
def y_Tp_readLine : MethodName := ⟨R_Tp, "readLine", "(LWaterMen$Order;)Z"⟩
abbrev b_Tp_stepOverNumber : ByteArray := prog_9_method_6_code
def y_Tp_stepOverNumber : MethodName := ⟨R_Tp, "stepOverNumber", "()Z"⟩
abbrev b_Tp_stepOverWord : ByteArray := prog_9_method_7_code
def y_Tp_stepOverWord : MethodName := ⟨R_Tp, "stepOverWord", "(Ljava/lang/String;)Z"⟩
abbrev b_Tp_kindOfLine : ByteArray := prog_9_method_8_code
def y_Tp_kindOfLine : MethodName := ⟨R_Tp, "kindOfLine", "()I"⟩
abbrev b_Tp_isWord : ByteArray := prog_9_method_9_code
def y_Tp_isWord : MethodName := ⟨R_Tp, "isWord", "(Ljava/lang/String;)Z"⟩
abbrev b_Tp_step : ByteArray := prog_9_method_10_code
def y_Tp_step : MethodName := ⟨R_Tp, "step", "()V"⟩
abbrev b_Tp_passLetters : ByteArray := prog_9_method_11_code
def y_Tp_passLetters : MethodName := ⟨R_Tp, "passLetters", "()V"⟩
abbrev b_Tp_passDigits : ByteArray := prog_9_method_12_code
def y_Tp_passDigits : MethodName := ⟨R_Tp, "passDigits", "()V"⟩
abbrev b_Tp_isLetter : ByteArray := prog_9_method_13_code
def y_Tp_isLetter : MethodName := ⟨R_Tp, "isLetter", "(B)Z"⟩
abbrev b_Tp_isDigit : ByteArray := prog_9_method_14_code
def y_Tp_isDigit : MethodName := ⟨R_Tp, "isDigit", "(B)Z"⟩
def R_Bx : String := "WaterMen$Box"
def F_Bx : u_T := fun k => match k with
  | 0 => ("WaterMen$Box", "coins", "I", false)
  | 1 => ("WaterMen$Box", "pot", "I", false)
  | 2 => ("WaterMen$Box", "allPaid", "I", false)
  | 3 => ("WaterMen$Box", "allPensions", "I", false)
  | 4 => ("WaterMen$Box", "income", "[I", true)
  | 5 => ("WaterMen$Box", "pensioners", "[LWaterMen$Pensioner;", true)
  | _ => ("WaterMen$Box", "pensionerCount", "I", false)
def t_Bx : Nat → FieldType := fun k => match k with
  | 0 => .int
  | 1 => .int
  | 2 => .int
  | 3 => .int
  | 4 => .array (.int)
  | 5 => .array (.object "WaterMen$Pensioner")
  | _ => .int
abbrev b_Bx_init : ByteArray := prog_4_method_1_code
def y_Bx_init : MethodName := ⟨R_Bx, "<init>", "()V"⟩
abbrev b_Bx_receive : ByteArray := prog_4_method_2_code
def y_Bx_receive : MethodName := ⟨R_Bx, "receive", "(II)V"⟩
abbrev b_Bx_pensionerAt : ByteArray := prog_4_method_3_code
def y_Bx_pensionerAt : MethodName := ⟨R_Bx, "pensionerAt", "(I)LWaterMen$Pensioner;"⟩
abbrev b_Bx_admit : ByteArray := prog_4_method_4_code
def y_Bx_admit : MethodName := ⟨R_Bx, "admit", "(II)I"⟩
abbrev b_Bx_payPensions : ByteArray := prog_4_method_5_code
def y_Bx_payPensions : MethodName := ⟨R_Bx, "payPensions", "(I)V"⟩
abbrev b_Bx_firstShortDay : ByteArray := prog_4_method_6_code
def y_Bx_firstShortDay : MethodName := ⟨R_Bx, "firstShortDay", "(I)I"⟩
abbrev b_Bx_owedOn : ByteArray := prog_4_method_7_code
def y_Bx_owedOn : MethodName := ⟨R_Bx, "owedOn", "(I)I"⟩
def R_Pn : String := "WaterMen$Pensioner"
def F_Pn : u_T := fun k => match k with
  | 0 => ("WaterMen$Pensioner", "pension", "I", true)
  | 1 => ("WaterMen$Pensioner", "end", "I", true)
  | _ => ("WaterMen$Pensioner", "got", "I", false)
def t_Pn : Nat → FieldType := fun k => match k with
  | 0 => .int
  | 1 => .int
  | _ => .int
abbrev b_Pn_init : ByteArray := prog_7_method_1_code
def y_Pn_init : MethodName := ⟨R_Pn, "<init>", "(II)V"⟩
def R_Md : String := "WaterMenModel"
def F_Md : u_T := fun k => match k with
  | 0 => ("WaterMenModel", "code", "I", false)
  | 1 => ("WaterMenModel", "time", "I", false)
  | 2 => ("WaterMenModel", "stairs", "I", false)
  | 3 => ("WaterMenModel", "miles", "[I", true)
  | 4 => ("WaterMenModel", "bridge", "I", false)
  | 5 => ("WaterMenModel", "table", "[I", true)
  | 6 => ("WaterMenModel", "hasRow", "[Z", true)
  | 7 => ("WaterMenModel", "rows", "[I", true)
  | 8 => ("WaterMenModel", "frosts", "[Z", true)
  | 9 => ("WaterMenModel", "state", "[I", true)
  | 10 => ("WaterMenModel", "master", "[I", true)
  | 11 => ("WaterMenModel", "boundOn", "[I", true)
  | 12 => ("WaterMenModel", "gaps", "[I", true)
  | 13 => ("WaterMenModel", "gapFrom", "[I", true)
  | 14 => ("WaterMenModel", "gapTo", "[I", true)
  | 15 => ("WaterMenModel", "coins", "[I", true)
  | 16 => ("WaterMenModel", "wayOf", "[I", true)
  | 17 => ("WaterMenModel", "tripsOf", "[I", true)
  | 18 => ("WaterMenModel", "shares", "[Z", true)
  | 19 => ("WaterMenModel", "turns", "[I", true)
  | 20 => ("WaterMenModel", "turn", "[I", true)
  | 21 => ("WaterMenModel", "boats", "I", false)
  | 22 => ("WaterMenModel", "boatOars", "[I", true)
  | 23 => ("WaterMenModel", "boatAt", "[I", true)
  | 24 => ("WaterMenModel", "boatFrom", "[I", true)
  | 25 => ("WaterMenModel", "boatTrip", "[I", true)
  | 26 => ("WaterMenModel", "sunk", "[Z", true)
  | 27 => ("WaterMenModel", "tape", "[B", true)
  | 28 => ("WaterMenModel", "taped", "I", false)
  | 29 => ("WaterMenModel", "orders", "I", false)
  | 30 => ("WaterMenModel", "orderFrom", "[I", true)
  | 31 => ("WaterMenModel", "orderMade", "[I", true)
  | 32 => ("WaterMenModel", "fares", "[I", true)
  | 33 => ("WaterMenModel", "fareLow", "[I", true)
  | 34 => ("WaterMenModel", "fareHigh", "[I", true)
  | 35 => ("WaterMenModel", "fareIs", "[I", true)
  | 36 => ("WaterMenModel", "hours", "[I", true)
  | 37 => ("WaterMenModel", "hourLow", "[I", true)
  | 38 => ("WaterMenModel", "hourHigh", "[I", true)
  | 39 => ("WaterMenModel", "hourIs", "[I", true)
  | 40 => ("WaterMenModel", "single", "[I", true)
  | 41 => ("WaterMenModel", "singleTo", "[I", true)
  | 42 => ("WaterMenModel", "at", "I", false)
  | 43 => ("WaterMenModel", "tk", "I", false)
  | 44 => ("WaterMenModel", "tkAt", "I", false)
  | 45 => ("WaterMenModel", "tkNumber", "I", false)
  | 46 => ("WaterMenModel", "got", "I", false)
  | 47 => ("WaterMenModel", "trips", "I", false)
  | 48 => ("WaterMenModel", "tripBoat", "[I", true)
  | 49 => ("WaterMenModel", "tripMan", "[I", true)
  | 50 => ("WaterMenModel", "tripFrom", "[I", true)
  | 51 => ("WaterMenModel", "tripTo", "[I", true)
  | 52 => ("WaterMenModel", "tripBegin", "[I", true)
  | 53 => ("WaterMenModel", "tripThere", "[I", true)
  | 54 => ("WaterMenModel", "tripPaid", "[I", true)
  | 55 => ("WaterMenModel", "sank", "[Z", true)
  | 56 => ("WaterMenModel", "box", "J", false)
  | 57 => ("WaterMenModel", "pot", "J", false)
  | 58 => ("WaterMenModel", "paidOut", "J", false)
  | 59 => ("WaterMenModel", "boxIn", "[J", true)
  | 60 => ("WaterMenModel", "pensioners", "I", false)
  | 61 => ("WaterMenModel", "pensionOf", "[I", true)
  | 62 => ("WaterMenModel", "pensionEnd", "[I", true)
  | _ => ("WaterMenModel", "gotten", "[I", true)
def t_Md : Nat → FieldType := fun k => match k with
  | 0 => .int
  | 1 => .int
  | 2 => .int
  | 3 => .array (.int)
  | 4 => .int
  | 5 => .array (.int)
  | 6 => .array (.boolean)
  | 7 => .array (.int)
  | 8 => .array (.boolean)
  | 9 => .array (.int)
  | 10 => .array (.int)
  | 11 => .array (.int)
  | 12 => .array (.int)
  | 13 => .array (.int)
  | 14 => .array (.int)
  | 15 => .array (.int)
  | 16 => .array (.int)
  | 17 => .array (.int)
  | 18 => .array (.boolean)
  | 19 => .array (.int)
  | 20 => .array (.int)
  | 21 => .int
  | 22 => .array (.int)
  | 23 => .array (.int)
  | 24 => .array (.int)
  | 25 => .array (.int)
  | 26 => .array (.boolean)
  | 27 => .array (.byte)
  | 28 => .int
  | 29 => .int
  | 30 => .array (.int)
  | 31 => .array (.int)
  | 32 => .array (.int)
  | 33 => .array (.int)
  | 34 => .array (.int)
  | 35 => .array (.int)
  | 36 => .array (.int)
  | 37 => .array (.int)
  | 38 => .array (.int)
  | 39 => .array (.int)
  | 40 => .array (.int)
  | 41 => .array (.int)
  | 42 => .int
  | 43 => .int
  | 44 => .int
  | 45 => .int
  | 46 => .int
  | 47 => .int
  | 48 => .array (.int)
  | 49 => .array (.int)
  | 50 => .array (.int)
  | 51 => .array (.int)
  | 52 => .array (.int)
  | 53 => .array (.int)
  | 54 => .array (.int)
  | 55 => .array (.boolean)
  | 56 => .long
  | 57 => .long
  | 58 => .long
  | 59 => .array (.long)
  | 60 => .int
  | 61 => .array (.int)
  | 62 => .array (.int)
  | _ => .array (.int)
abbrev b_Md_in : ByteArray := prog_12_method_2_code
def y_Md_in : MethodName := ⟨R_Md, "in", "(III)Z"⟩
abbrev b_Md_today : ByteArray := prog_12_method_3_code
def y_Md_today : MethodName := ⟨R_Md, "today", "()I"⟩
abbrev b_Md_hourNow : ByteArray := prog_12_method_4_code
def y_Md_hourNow : MethodName := ⟨R_Md, "hourNow", "()I"⟩
abbrev b_Md_isDay : ByteArray := prog_12_method_5_code
def y_Md_isDay : MethodName := ⟨R_Md, "isDay", "(I)Z"⟩
abbrev b_Md_isStairs : ByteArray := prog_12_method_6_code
def y_Md_isStairs : MethodName := ⟨R_Md, "isStairs", "(I)Z"⟩
abbrev b_Md_levelOf : ByteArray := prog_12_method_7_code
def y_Md_levelOf : MethodName := ⟨R_Md, "levelOf", "(II)I"⟩
abbrev b_Md_flowOf : ByteArray := prog_12_method_8_code
def y_Md_flowOf : MethodName := ⟨R_Md, "flowOf", "(II)I"⟩
abbrev b_Md_stairs : ByteArray := prog_12_method_9_code
def y_Md_stairs : MethodName := ⟨R_Md, "stairs", "(I)I"⟩
abbrev b_Md_bridge : ByteArray := prog_12_method_10_code
def y_Md_bridge : MethodName := ⟨R_Md, "bridge", "(I)I"⟩
abbrev b_Md_level : ByteArray := prog_12_method_11_code
def y_Md_level : MethodName := ⟨R_Md, "level", "(III)I"⟩
abbrev b_Md_table : ByteArray := prog_12_method_12_code
def y_Md_table : MethodName := ⟨R_Md, "table", "(II)I"⟩
abbrev b_Md_flow : ByteArray := prog_12_method_13_code
def y_Md_flow : MethodName := ⟨R_Md, "flow", "(II)I"⟩
abbrev b_Md_frost : ByteArray := prog_12_method_14_code
def y_Md_frost : MethodName := ⟨R_Md, "frost", "(II)I"⟩
abbrev b_Md_init : ByteArray := prog_12_method_15_code
def y_Md_init : MethodName := ⟨R_Md, "<init>", "()V"⟩
abbrev b_Md_isMan : ByteArray := prog_12_method_16_code
def y_Md_isMan : MethodName := ⟨R_Md, "isMan", "(I)Z"⟩
abbrev b_Md_free : ByteArray := prog_12_method_17_code
def y_Md_free : MethodName := ⟨R_Md, "free", "(I)I"⟩
abbrev b_Md_bind : ByteArray := prog_12_method_18_code
def y_Md_bind : MethodName := ⟨R_Md, "bind", "(II)I"⟩
abbrev b_Md_absent : ByteArray := prog_12_method_19_code
def y_Md_absent : MethodName := ⟨R_Md, "absent", "(III)I"⟩
abbrev b_Md_servedOf : ByteArray := prog_12_method_20_code
def y_Md_servedOf : MethodName := ⟨R_Md, "servedOf", "(I)I"⟩
abbrev b_Md_served : ByteArray := prog_12_method_21_code
def y_Md_served : MethodName := ⟨R_Md, "served", "(I)I"⟩
abbrev b_Md_pass : ByteArray := prog_12_method_22_code
def y_Md_pass : MethodName := ⟨R_Md, "pass", "(I)I"⟩
abbrev b_Md_rowOf : ByteArray := prog_12_method_23_code
def y_Md_rowOf : MethodName := ⟨R_Md, "rowOf", "(I)I"⟩
abbrev b_Md_placeOf : ByteArray := prog_12_method_24_code
def y_Md_placeOf : MethodName := ⟨R_Md, "placeOf", "(I)I"⟩
abbrev b_Md_leaves : ByteArray := prog_12_method_25_code
def y_Md_leaves : MethodName := ⟨R_Md, "leaves", "(I)V"⟩
abbrev b_Md_man : ByteArray := prog_12_method_26_code
def y_Md_man : MethodName := ⟨R_Md, "man", "(II)I"⟩
abbrev b_Md_join : ByteArray := prog_12_method_27_code
def y_Md_join : MethodName := ⟨R_Md, "join", "(II)I"⟩
abbrev b_Md_leave : ByteArray := prog_12_method_28_code
def y_Md_leave : MethodName := ⟨R_Md, "leave", "(I)I"⟩
abbrev b_Md_isBoat : ByteArray := prog_12_method_29_code
def y_Md_isBoat : MethodName := ⟨R_Md, "isBoat", "(I)Z"⟩
abbrev b_Md_boat : ByteArray := prog_12_method_30_code
def y_Md_boat : MethodName := ⟨R_Md, "boat", "(II)I"⟩
abbrev b_Md_craft : ByteArray := prog_12_method_31_code
def y_Md_craft : MethodName := ⟨R_Md, "craft", "(II)I"⟩
abbrev b_Md_feed : ByteArray := prog_12_method_32_code
def y_Md_feed : MethodName := ⟨R_Md, "feed", "(IIIII)I"⟩
abbrev b_Md_four : ByteArray := prog_12_method_33_code
def y_Md_four : MethodName := ⟨R_Md, "four", "(I)V"⟩
abbrev b_Md_end : ByteArray := prog_12_method_34_code
def y_Md_end : MethodName := ⟨R_Md, "end", "(I)I"⟩
abbrev b_Md_isLetter : ByteArray := prog_12_method_35_code
def y_Md_isLetter : MethodName := ⟨R_Md, "isLetter", "(I)Z"⟩
abbrev b_Md_isDigit : ByteArray := prog_12_method_36_code
def y_Md_isDigit : MethodName := ⟨R_Md, "isDigit", "(I)Z"⟩
abbrev b_Md_advance : ByteArray := prog_12_method_37_code
def y_Md_advance : MethodName := ⟨R_Md, "advance", "()V"⟩
abbrev b_Md_wordOf : ByteArray := prog_12_method_38_code
def y_Md_wordOf : MethodName := ⟨R_Md, "wordOf", "(J)I"⟩
abbrev b_Md_takes : ByteArray := prog_12_method_39_code
def y_Md_takes : MethodName := ⟨R_Md, "takes", "(I)Z"⟩
abbrev b_Md_line : ByteArray := prog_12_method_40_code
def y_Md_line : MethodName := ⟨R_Md, "line", "(I)Z"⟩
abbrev b_Md_order : ByteArray := prog_12_method_41_code
def y_Md_order : MethodName := ⟨R_Md, "order", "(I)I"⟩
abbrev b_Md_forceOn : ByteArray := prog_12_method_42_code
def y_Md_forceOn : MethodName := ⟨R_Md, "forceOn", "(II)I"⟩
abbrev b_Md_inForce : ByteArray := prog_12_method_43_code
def y_Md_inForce : MethodName := ⟨R_Md, "inForce", "(II)I"⟩
abbrev b_Md_lineOf : ByteArray := prog_12_method_44_code
def y_Md_lineOf : MethodName := ⟨R_Md, "lineOf", "(II)I"⟩
abbrev b_Md_by : ByteArray := prog_12_method_45_code
def y_Md_by : MethodName := ⟨R_Md, "by", "(II)I"⟩
abbrev b_Md_fareOf : ByteArray := prog_12_method_46_code
def y_Md_fareOf : MethodName := ⟨R_Md, "fareOf", "(IIIIII)I"⟩
abbrev b_Md_fare : ByteArray := prog_12_method_47_code
def y_Md_fare : MethodName := ⟨R_Md, "fare", "(IIIII)I"⟩
abbrev b_Md_minutesOf : ByteArray := prog_12_method_48_code
def y_Md_minutesOf : MethodName := ⟨R_Md, "minutesOf", "(II)I"⟩
abbrev b_Md_hinders : ByteArray := prog_12_method_49_code
def y_Md_hinders : MethodName := ⟨R_Md, "hinders", "(III)I"⟩
abbrev b_Md_isAsked : ByteArray := prog_12_method_50_code
def y_Md_isAsked : MethodName := ⟨R_Md, "isAsked", "(III)Z"⟩
abbrev b_Md_why : ByteArray := prog_12_method_51_code
def y_Md_why : MethodName := ⟨R_Md, "why", "(III)I"⟩
abbrev b_Md_row : ByteArray := prog_12_method_52_code
def y_Md_row : MethodName := ⟨R_Md, "row", "(IIII)I"⟩
abbrev b_Md_arrive : ByteArray := prog_12_method_53_code
def y_Md_arrive : MethodName := ⟨R_Md, "arrive", "()V"⟩
abbrev b_Md_part : ByteArray := prog_12_method_54_code
def y_Md_part : MethodName := ⟨R_Md, "part", "(I)V"⟩
abbrev b_Md_pay : ByteArray := prog_12_method_55_code
def y_Md_pay : MethodName := ⟨R_Md, "pay", "(I)V"⟩
abbrev b_Md_minutes : ByteArray := prog_12_method_56_code
def y_Md_minutes : MethodName := ⟨R_Md, "minutes", "(I)I"⟩
abbrev b_Md_sink : ByteArray := prog_12_method_57_code
def y_Md_sink : MethodName := ⟨R_Md, "sink", "(III)I"⟩
abbrev b_Md_trip : ByteArray := prog_12_method_58_code
def y_Md_trip : MethodName := ⟨R_Md, "trip", "(II)I"⟩
abbrev b_Md_dueOf : ByteArray := prog_12_method_59_code
def y_Md_dueOf : MethodName := ⟨R_Md, "dueOf", "(II)I"⟩
abbrev b_Md_due : ByteArray := prog_12_method_60_code
def y_Md_due : MethodName := ⟨R_Md, "due", "(II)I"⟩
abbrev b_Md_over : ByteArray := prog_12_method_61_code
def y_Md_over : MethodName := ⟨R_Md, "over", "(II)I"⟩
abbrev b_Md_isPension : ByteArray := prog_12_method_62_code
def y_Md_isPension : MethodName := ⟨R_Md, "isPension", "(II)Z"⟩
abbrev b_Md_newPensioner : ByteArray := prog_12_method_63_code
def y_Md_newPensioner : MethodName := ⟨R_Md, "newPensioner", "(II)I"⟩
abbrev b_Md_pension : ByteArray := prog_12_method_64_code
def y_Md_pension : MethodName := ⟨R_Md, "pension", "(II)I"⟩
abbrev b_Md_foretold : ByteArray := prog_12_method_65_code
def y_Md_foretold : MethodName := ⟨R_Md, "foretold", "()I"⟩
abbrev b_Md_pensioner : ByteArray := prog_12_method_66_code
def y_Md_pensioner : MethodName := ⟨R_Md, "pensioner", "(II)I"⟩
abbrev b_Md_menAs : ByteArray := prog_12_method_67_code
def y_Md_menAs : MethodName := ⟨R_Md, "menAs", "(I)I"⟩
abbrev b_Md_count : ByteArray := prog_12_method_68_code
def y_Md_count : MethodName := ⟨R_Md, "count", "(I)I"⟩
abbrev b_Md_coins : ByteArray := prog_12_method_69_code
def y_Md_coins : MethodName := ⟨R_Md, "coins", "(I)I"⟩
def R_Bd : String := "WaterMen$Bond"
def F_Bd : u_T := fun k => match k with
  | 0 => ("WaterMen$Bond", "master", "I", true)
  | 1 => ("WaterMen$Bond", "since", "I", true)
  | 2 => ("WaterMen$Bond", "gapFrom", "[I", true)
  | 3 => ("WaterMen$Bond", "gapTo", "[I", true)
  | _ => ("WaterMen$Bond", "gapCount", "I", false)
def t_Bd : Nat → FieldType := fun k => match k with
  | 0 => .int
  | 1 => .int
  | 2 => .array (.int)
  | 3 => .array (.int)
  | _ => .int
abbrev b_Bd_init : ByteArray := prog_3_method_1_code
def y_Bd_init : MethodName := ⟨R_Bd, "<init>", "(II)V"⟩
abbrev b_Bd_meetsGap : ByteArray := prog_3_method_2_code
def y_Bd_meetsGap : MethodName := ⟨R_Bd, "meetsGap", "(II)Z"⟩
abbrev b_Bd_addGap : ByteArray := prog_3_method_3_code
def y_Bd_addGap : MethodName := ⟨R_Bd, "addGap", "(II)I"⟩
abbrev b_Bd_daysServed : ByteArray := prog_3_method_4_code
def y_Bd_daysServed : MethodName := ⟨R_Bd, "daysServed", "(I)I"⟩
def R_Bt : String := "WaterMen$Boat"
def F_Bt : u_T := fun k => match k with
  | 0 => ("WaterMen$Boat", "oars", "I", true)
  | 1 => ("WaterMen$Boat", "stairs", "I", false)
  | 2 => ("WaterMen$Boat", "thereFrom", "I", false)
  | 3 => ("WaterMen$Boat", "rower", "I", false)
  | 4 => ("WaterMen$Boat", "lastTrip", "I", false)
  | _ => ("WaterMen$Boat", "sunk", "Z", false)
def t_Bt : Nat → FieldType := fun k => match k with
  | 0 => .int
  | 1 => .int
  | 2 => .int
  | 3 => .int
  | 4 => .int
  | _ => .boolean
abbrev b_Bt_init : ByteArray := prog_2_method_1_code
def y_Bt_init : MethodName := ⟨R_Bt, "<init>", "(II)V"⟩
abbrev b_Bt_stateAt : ByteArray := prog_2_method_2_code
def y_Bt_stateAt : MethodName := ⟨R_Bt, "stateAt", "(I)I"⟩
abbrev b_Bt_setOut : ByteArray := prog_2_method_3_code
def y_Bt_setOut : MethodName := ⟨R_Bt, "setOut", "(LWaterMen$Trip;I)V"⟩
def R_Tr : String := "WaterMen$Trip"
def F_Tr : u_T := fun k => match k with
  | 0 => ("WaterMen$Trip", "boat", "I", true)
  | 1 => ("WaterMen$Trip", "man", "I", true)
  | 2 => ("WaterMen$Trip", "start", "I", true)
  | 3 => ("WaterMen$Trip", "paid", "I", true)
  | 4 => ("WaterMen$Trip", "from", "I", false)
  | 5 => ("WaterMen$Trip", "to", "I", false)
  | 6 => ("WaterMen$Trip", "arrival", "I", false)
  | _ => ("WaterMen$Trip", "sank", "Z", false)
def t_Tr : Nat → FieldType := fun k => match k with
  | 0 => .int
  | 1 => .int
  | 2 => .int
  | 3 => .int
  | 4 => .int
  | 5 => .int
  | 6 => .int
  | _ => .boolean
abbrev b_Tr_init : ByteArray := prog_10_method_1_code
def y_Tr_init : MethodName := ⟨R_Tr, "<init>", "(IIII)V"⟩
abbrev vwCl : List vw_C := [(R_WM, F_WM, 13), (R_Rv, F_Rv, 6), (R_Mn, F_Mn, 8), (R_Or, F_Or, 9), (R_Tp, F_Tp, 6), (R_Bx, F_Bx, 7), (R_Pn, F_Pn, 3), (R_Md, F_Md, 64), (R_Bd, F_Bd, 5), (R_Bt, F_Bt, 6), (R_Tr, F_Tr, 8)]
theorem n_WM : ∀ a, a < 13 → ∀ b, b < 13 → a ≠ b → (F_WM a).2.1 ≠ (F_WM b).2.1 := by decide +kernel
theorem t_WM_ok : ∀ k, k < 13 → parseFieldDescriptor (F_WM k).2.2.1 = some (t_WM k) := by decide +kernel
theorem df_WM : ∀ j, j < 13 → defaultValue (t_WM j) = vp_V [.null, .null, .null, .null, .null, .null, .null, .int 0, .int 0, .int 0, .int 0, .int 0, .null] j := by decide +kernel
theorem n_Rv : ∀ a, a < 6 → ∀ b, b < 6 → a ≠ b → (F_Rv a).2.1 ≠ (F_Rv b).2.1 := by decide +kernel
theorem t_Rv_ok : ∀ k, k < 6 → parseFieldDescriptor (F_Rv k).2.2.1 = some (t_Rv k) := by decide +kernel
theorem df_Rv : ∀ j, j < 6 → defaultValue (t_Rv j) = vp_V [.null, .null, .null, .null, .int 0, .int 0] j := by decide +kernel
theorem n_Mn : ∀ a, a < 8 → ∀ b, b < 8 → a ≠ b → (F_Mn a).2.1 ≠ (F_Mn b).2.1 := by decide +kernel
theorem t_Mn_ok : ∀ k, k < 8 → parseFieldDescriptor (F_Mn k).2.2.1 = some (t_Mn k) := by decide +kernel
theorem df_Mn : ∀ j, j < 8 → defaultValue (t_Mn j) = vp_V [.int 0, .null, .int 0, .int 0, .int 0, .int 0, .int 0, .int 0] j := by decide +kernel
theorem n_Or : ∀ a, a < 9 → ∀ b, b < 9 → a ≠ b → (F_Or a).2.1 ≠ (F_Or b).2.1 := by decide +kernel
theorem t_Or_ok : ∀ k, k < 9 → parseFieldDescriptor (F_Or k).2.2.1 = some (t_Or k) := by decide +kernel
theorem df_Or : ∀ j, j < 9 → defaultValue (t_Or j) = vp_V [.int 0, .int 0, .null, .null, .null, .int 0, .int 0, .int 0, .int 0] j := by decide +kernel
theorem n_Tp : ∀ a, a < 6 → ∀ b, b < 6 → a ≠ b → (F_Tp a).2.1 ≠ (F_Tp b).2.1 := by decide +kernel
theorem t_Tp_ok : ∀ k, k < 6 → parseFieldDescriptor (F_Tp k).2.2.1 = some (t_Tp k) := by decide +kernel
theorem df_Tp : ∀ j, j < 6 → defaultValue (t_Tp j) = vp_V [.null, .int 0, .int 0, .int 0, .int 0, .int 0] j := by decide +kernel
theorem n_Bx : ∀ a, a < 7 → ∀ b, b < 7 → a ≠ b → (F_Bx a).2.1 ≠ (F_Bx b).2.1 := by decide +kernel
theorem t_Bx_ok : ∀ k, k < 7 → parseFieldDescriptor (F_Bx k).2.2.1 = some (t_Bx k) := by decide +kernel
theorem df_Bx : ∀ j, j < 7 → defaultValue (t_Bx j) = vp_V [.int 0, .int 0, .int 0, .int 0, .null, .null, .int 0] j := by decide +kernel
theorem n_Pn : ∀ a, a < 3 → ∀ b, b < 3 → a ≠ b → (F_Pn a).2.1 ≠ (F_Pn b).2.1 := by decide +kernel
theorem t_Pn_ok : ∀ k, k < 3 → parseFieldDescriptor (F_Pn k).2.2.1 = some (t_Pn k) := by decide +kernel
theorem df_Pn : ∀ j, j < 3 → defaultValue (t_Pn j) = vp_V [.int 0, .int 0, .int 0] j := by decide +kernel
theorem n_Md : ∀ a, a < 64 → ∀ b, b < 64 → a ≠ b → (F_Md a).2.1 ≠ (F_Md b).2.1 := by decide +kernel
theorem t_Md_ok : ∀ k, k < 64 → parseFieldDescriptor (F_Md k).2.2.1 = some (t_Md k) := by decide +kernel
theorem df_Md : ∀ j, j < 64 → defaultValue (t_Md j) = vp_V [.int 0, .int 0, .int 0, .null, .int 0, .null, .null, .null, .null, .null, .null, .null, .null, .null, .null, .null, .null, .null, .null, .null, .null, .int 0, .null, .null, .null, .null, .null, .null, .int 0, .int 0, .null, .null, .null, .null, .null, .null, .null, .null, .null, .null, .null, .null, .int 0, .int 0, .int 0, .int 0, .int 0, .int 0, .null, .null, .null, .null, .null, .null, .null, .null, .long 0, .long 0, .long 0, .null, .int 0, .null, .null, .null] j := by decide +kernel
theorem n_Bd : ∀ a, a < 5 → ∀ b, b < 5 → a ≠ b → (F_Bd a).2.1 ≠ (F_Bd b).2.1 := by decide +kernel
theorem t_Bd_ok : ∀ k, k < 5 → parseFieldDescriptor (F_Bd k).2.2.1 = some (t_Bd k) := by decide +kernel
theorem df_Bd : ∀ j, j < 5 → defaultValue (t_Bd j) = vp_V [.int 0, .int 0, .null, .null, .int 0] j := by decide +kernel
theorem n_Bt : ∀ a, a < 6 → ∀ b, b < 6 → a ≠ b → (F_Bt a).2.1 ≠ (F_Bt b).2.1 := by decide +kernel
theorem t_Bt_ok : ∀ k, k < 6 → parseFieldDescriptor (F_Bt k).2.2.1 = some (t_Bt k) := by decide +kernel
theorem df_Bt : ∀ j, j < 6 → defaultValue (t_Bt j) = vp_V [.int 0, .int 0, .int 0, .int 0, .int 0, .int 0] j := by decide +kernel
theorem n_Tr : ∀ a, a < 8 → ∀ b, b < 8 → a ≠ b → (F_Tr a).2.1 ≠ (F_Tr b).2.1 := by decide +kernel
theorem t_Tr_ok : ∀ k, k < 8 → parseFieldDescriptor (F_Tr k).2.2.1 = some (t_Tr k) := by decide +kernel
theorem df_Tr : ∀ j, j < 8 → defaultValue (t_Tr j) = vp_V [.int 0, .int 0, .int 0, .int 0, .int 0, .int 0, .int 0, .int 0] j := by decide +kernel
def TB : List Cond := lw_tbl.filter goodWord
set_option maxRecDepth 100000 in
theorem tw_f {w : Cond} (h : w ∈ lw_tbl) (g : goodWord w = true) : w ∈ TB := List.mem_filter.mpr ⟨h, g⟩
set_option maxRecDepth 100000 in
theorem tw_t1 {w : Cond} (h : w ∈ tables_1_1) : w ∈ lw_tbl := List.mem_append_right _ (List.mem_append_left _ h)
set_option maxRecDepth 100000 in
theorem tw_t2 {w : Cond} (h : w ∈ tables_1_2) : w ∈ lw_tbl := List.mem_append_right _ (List.mem_append_right _ (List.mem_append_left _ h))
set_option maxRecDepth 100000 in
theorem tw_t3 {w : Cond} (h : w ∈ tables_1_3) : w ∈ lw_tbl := List.mem_append_right _ (List.mem_append_right _ (List.mem_append_right _ (List.mem_append_left _ h)))
set_option maxRecDepth 100000 in
theorem tw_t4 {w : Cond} (h : w ∈ tables_1_4) : w ∈ lw_tbl := List.mem_append_right _ (List.mem_append_right _ (List.mem_append_right _ (List.mem_append_right _ (List.mem_append_left _ h))))
set_option maxRecDepth 100000 in
theorem tw_t5 {w : Cond} (h : w ∈ tables_1_5) : w ∈ lw_tbl := List.mem_append_right _ (List.mem_append_right _ (List.mem_append_right _ (List.mem_append_right _ (List.mem_append_right _ (List.mem_append_left _ h)))))
set_option maxRecDepth 100000 in
theorem tw_t6 {w : Cond} (h : w ∈ tables_1_6) : w ∈ lw_tbl := List.mem_append_right _ (List.mem_append_right _ (List.mem_append_right _ (List.mem_append_right _ (List.mem_append_right _ (List.mem_append_right _ (h))))))
set_option maxRecDepth 100000 in
theorem tw_s1 {w : Cond} (h : w ∈ k2_sels lw_privs_1) : w ∈ lw_tbl := by
  obtain ⟨q, hq, rfl⟩ := List.mem_map.mp h
  exact List.mem_append_left _ (List.mem_map.mpr ⟨q, (fun (h : q ∈ lw_privs_1) => (show q ∈ lw_privs from List.mem_append_left _ h)) hq, rfl⟩)
set_option maxRecDepth 100000 in
theorem tw_s2 {w : Cond} (h : w ∈ k2_sels lw_privs_2) : w ∈ lw_tbl := by
  obtain ⟨q, hq, rfl⟩ := List.mem_map.mp h
  exact List.mem_append_left _ (List.mem_map.mpr ⟨q, (fun (h : q ∈ lw_privs_2) => (show q ∈ lw_privs from List.mem_append_right _ (List.mem_append_left _ h))) hq, rfl⟩)
set_option maxRecDepth 100000 in
theorem tw_s3 {w : Cond} (h : w ∈ k2_sels lw_privs_3) : w ∈ lw_tbl := by
  obtain ⟨q, hq, rfl⟩ := List.mem_map.mp h
  exact List.mem_append_left _ (List.mem_map.mpr ⟨q, (fun (h : q ∈ lw_privs_3) => (show q ∈ lw_privs from List.mem_append_right _ (List.mem_append_right _ (h)))) hq, rfl⟩)
set_option maxRecDepth 100000 in
theorem ly_WM_0 : (.laysFinal R_WM "WaterMen" "river" "LWaterMen$River;") ∈ TB := tw_f (tw_t1 (List.mem_of_getElem? (i := 207) rfl)) rfl
set_option maxRecDepth 100000 in
theorem ly_WM_1 : (.laysFinal R_WM "WaterMen" "men" "[LWaterMen$Man;") ∈ TB := tw_f (tw_t1 (List.mem_of_getElem? (i := 209) rfl)) rfl
set_option maxRecDepth 100000 in
theorem ly_WM_2 : (.laysFinal R_WM "WaterMen" "boats" "[LWaterMen$Boat;") ∈ TB := tw_f (tw_t1 (List.mem_of_getElem? (i := 211) rfl)) rfl
set_option maxRecDepth 100000 in
theorem ly_WM_3 : (.laysFinal R_WM "WaterMen" "orders" "[LWaterMen$Order;") ∈ TB := tw_f (tw_t1 (List.mem_of_getElem? (i := 213) rfl)) rfl
set_option maxRecDepth 100000 in
theorem ly_WM_4 : (.laysFinal R_WM "WaterMen" "trips" "[LWaterMen$Trip;") ∈ TB := tw_f (tw_t1 (List.mem_of_getElem? (i := 215) rfl)) rfl
set_option maxRecDepth 100000 in
theorem ly_WM_5 : (.laysFinal R_WM "WaterMen" "tape" "LWaterMen$Tape;") ∈ TB := tw_f (tw_t1 (List.mem_of_getElem? (i := 217) rfl)) rfl
set_option maxRecDepth 100000 in
theorem ly_WM_6 : (.laysFinal R_WM "WaterMen" "box" "LWaterMen$Box;") ∈ TB := tw_f (tw_t1 (List.mem_of_getElem? (i := 219) rfl)) rfl
set_option maxRecDepth 100000 in
theorem ly_WM_7 : (.lays R_WM "WaterMen" "boatCount" "I") ∈ TB := tw_f (tw_t1 (List.mem_of_getElem? (i := 221) rfl)) rfl
set_option maxRecDepth 100000 in
theorem ly_WM_8 : (.lays R_WM "WaterMen" "orderCount" "I") ∈ TB := tw_f (tw_t1 (List.mem_of_getElem? (i := 223) rfl)) rfl
set_option maxRecDepth 100000 in
theorem ly_WM_9 : (.lays R_WM "WaterMen" "tripCount" "I") ∈ TB := tw_f (tw_t1 (List.mem_of_getElem? (i := 225) rfl)) rfl
set_option maxRecDepth 100000 in
theorem ly_WM_10 : (.lays R_WM "WaterMen" "now" "I") ∈ TB := tw_f (tw_t1 (List.mem_of_getElem? (i := 227) rfl)) rfl
set_option maxRecDepth 100000 in
theorem ly_WM_11 : (.lays R_WM "WaterMen" "joins" "I") ∈ TB := tw_f (tw_t1 (List.mem_of_getElem? (i := 229) rfl)) rfl
set_option maxRecDepth 100000 in
theorem ly_WM_12 : (.lays R_WM "WaterMen" "draft" "LWaterMen$Order;") ∈ TB := tw_f (tw_t1 (List.mem_of_getElem? (i := 231) rfl)) rfl
set_option maxRecDepth 100000 in
theorem i_WM : ∀ w ∈ u_ws R_WM F_WM 13, w ∈ TB := by
  intro w hw
  obtain ⟨k, hk, rfl⟩ := List.mem_map.mp hw
  have hk := List.mem_range.mp hk
  match k, hk with
  | 0, _ => exact ly_WM_0
  | 1, _ => exact ly_WM_1
  | 2, _ => exact ly_WM_2
  | 3, _ => exact ly_WM_3
  | 4, _ => exact ly_WM_4
  | 5, _ => exact ly_WM_5
  | 6, _ => exact ly_WM_6
  | 7, _ => exact ly_WM_7
  | 8, _ => exact ly_WM_8
  | 9, _ => exact ly_WM_9
  | 10, _ => exact ly_WM_10
  | 11, _ => exact ly_WM_11
  | 12, _ => exact ly_WM_12
set_option maxRecDepth 100000 in
theorem ly_Rv_0 : (.laysFinal R_Rv "WaterMen$River" "milesUp" "[I") ∈ TB := tw_f (tw_t1 (List.mem_of_getElem? (i := 43) rfl)) rfl
set_option maxRecDepth 100000 in
theorem ly_Rv_1 : (.laysFinal R_Rv "WaterMen$River" "table" "[I") ∈ TB := tw_f (tw_t1 (List.mem_of_getElem? (i := 45) rfl)) rfl
set_option maxRecDepth 100000 in
theorem ly_Rv_2 : (.laysFinal R_Rv "WaterMen$River" "rows" "[[I") ∈ TB := tw_f (tw_t1 (List.mem_of_getElem? (i := 47) rfl)) rfl
set_option maxRecDepth 100000 in
theorem ly_Rv_3 : (.laysFinal R_Rv "WaterMen$River" "frozen" "[Z") ∈ TB := tw_f (tw_t1 (List.mem_of_getElem? (i := 49) rfl)) rfl
set_option maxRecDepth 100000 in
theorem ly_Rv_4 : (.lays R_Rv "WaterMen$River" "stairCount" "I") ∈ TB := tw_f (tw_t1 (List.mem_of_getElem? (i := 51) rfl)) rfl
set_option maxRecDepth 100000 in
theorem ly_Rv_5 : (.lays R_Rv "WaterMen$River" "bridgeAbove" "I") ∈ TB := tw_f (tw_t1 (List.mem_of_getElem? (i := 53) rfl)) rfl
set_option maxRecDepth 100000 in
theorem i_Rv : ∀ w ∈ u_ws R_Rv F_Rv 6, w ∈ TB := by
  intro w hw
  obtain ⟨k, hk, rfl⟩ := List.mem_map.mp hw
  have hk := List.mem_range.mp hk
  match k, hk with
  | 0, _ => exact ly_Rv_0
  | 1, _ => exact ly_Rv_1
  | 2, _ => exact ly_Rv_2
  | 3, _ => exact ly_Rv_3
  | 4, _ => exact ly_Rv_4
  | 5, _ => exact ly_Rv_5
set_option maxRecDepth 100000 in
theorem ly_Mn_0 : (.lays R_Mn "WaterMen$Man" "state" "I") ∈ TB := tw_f (tw_t1 (List.mem_of_getElem? (i := 177) rfl)) rfl
set_option maxRecDepth 100000 in
theorem ly_Mn_1 : (.lays R_Mn "WaterMen$Man" "bond" "LWaterMen$Bond;") ∈ TB := tw_f (tw_t1 (List.mem_of_getElem? (i := 179) rfl)) rfl
set_option maxRecDepth 100000 in
theorem ly_Mn_2 : (.lays R_Mn "WaterMen$Man" "turnStairs" "I") ∈ TB := tw_f (tw_t1 (List.mem_of_getElem? (i := 181) rfl)) rfl
set_option maxRecDepth 100000 in
theorem ly_Mn_3 : (.lays R_Mn "WaterMen$Man" "turnTicket" "I") ∈ TB := tw_f (tw_t1 (List.mem_of_getElem? (i := 183) rfl)) rfl
set_option maxRecDepth 100000 in
theorem ly_Mn_4 : (.lays R_Mn "WaterMen$Man" "coins" "I") ∈ TB := tw_f (tw_t1 (List.mem_of_getElem? (i := 185) rfl)) rfl
set_option maxRecDepth 100000 in
theorem ly_Mn_5 : (.lays R_Mn "WaterMen$Man" "busyUntil" "I") ∈ TB := tw_f (tw_t1 (List.mem_of_getElem? (i := 187) rfl)) rfl
set_option maxRecDepth 100000 in
theorem ly_Mn_6 : (.lays R_Mn "WaterMen$Man" "tripCount" "I") ∈ TB := tw_f (tw_t1 (List.mem_of_getElem? (i := 189) rfl)) rfl
set_option maxRecDepth 100000 in
theorem ly_Mn_7 : (.lays R_Mn "WaterMen$Man" "lastSunday" "I") ∈ TB := tw_f (tw_t1 (List.mem_of_getElem? (i := 191) rfl)) rfl
set_option maxRecDepth 100000 in
theorem i_Mn : ∀ w ∈ u_ws R_Mn F_Mn 8, w ∈ TB := by
  intro w hw
  obtain ⟨k, hk, rfl⟩ := List.mem_map.mp hw
  have hk := List.mem_range.mp hk
  match k, hk with
  | 0, _ => exact ly_Mn_0
  | 1, _ => exact ly_Mn_1
  | 2, _ => exact ly_Mn_2
  | 3, _ => exact ly_Mn_3
  | 4, _ => exact ly_Mn_4
  | 5, _ => exact ly_Mn_5
  | 6, _ => exact ly_Mn_6
  | 7, _ => exact ly_Mn_7
set_option maxRecDepth 100000 in
theorem ly_Or_0 : (.lays R_Or "WaterMen$Order" "madeOn" "I") ∈ TB := tw_f (tw_t1 (List.mem_of_getElem? (i := 140) rfl)) rfl
set_option maxRecDepth 100000 in
theorem ly_Or_1 : (.lays R_Or "WaterMen$Order" "inForceFrom" "I") ∈ TB := tw_f (tw_t1 (List.mem_of_getElem? (i := 142) rfl)) rfl
set_option maxRecDepth 100000 in
theorem ly_Or_2 : (.laysFinal R_Or "WaterMen$Order" "fares" "[I") ∈ TB := tw_f (tw_t1 (List.mem_of_getElem? (i := 144) rfl)) rfl
set_option maxRecDepth 100000 in
theorem ly_Or_3 : (.laysFinal R_Or "WaterMen$Order" "hours" "[I") ∈ TB := tw_f (tw_t1 (List.mem_of_getElem? (i := 146) rfl)) rfl
set_option maxRecDepth 100000 in
theorem ly_Or_4 : (.laysFinal R_Or "WaterMen$Order" "single" "[I") ∈ TB := tw_f (tw_t1 (List.mem_of_getElem? (i := 148) rfl)) rfl
set_option maxRecDepth 100000 in
theorem ly_Or_5 : (.lays R_Or "WaterMen$Order" "fareCount" "I") ∈ TB := tw_f (tw_t1 (List.mem_of_getElem? (i := 150) rfl)) rfl
set_option maxRecDepth 100000 in
theorem ly_Or_6 : (.lays R_Or "WaterMen$Order" "hourCount" "I") ∈ TB := tw_f (tw_t1 (List.mem_of_getElem? (i := 152) rfl)) rfl
set_option maxRecDepth 100000 in
theorem ly_Or_7 : (.lays R_Or "WaterMen$Order" "bridgeOpens" "I") ∈ TB := tw_f (tw_t1 (List.mem_of_getElem? (i := 154) rfl)) rfl
set_option maxRecDepth 100000 in
theorem ly_Or_8 : (.lays R_Or "WaterMen$Order" "bridgeShuts" "I") ∈ TB := tw_f (tw_t1 (List.mem_of_getElem? (i := 156) rfl)) rfl
set_option maxRecDepth 100000 in
theorem i_Or : ∀ w ∈ u_ws R_Or F_Or 9, w ∈ TB := by
  intro w hw
  obtain ⟨k, hk, rfl⟩ := List.mem_map.mp hw
  have hk := List.mem_range.mp hk
  match k, hk with
  | 0, _ => exact ly_Or_0
  | 1, _ => exact ly_Or_1
  | 2, _ => exact ly_Or_2
  | 3, _ => exact ly_Or_3
  | 4, _ => exact ly_Or_4
  | 5, _ => exact ly_Or_5
  | 6, _ => exact ly_Or_6
  | 7, _ => exact ly_Or_7
  | 8, _ => exact ly_Or_8
set_option maxRecDepth 100000 in
theorem ly_Tp_0 : (.laysFinal R_Tp "WaterMen$Tape" "bytes" "[B") ∈ TB := tw_f (tw_t1 (List.mem_of_getElem? (i := 79) rfl)) rfl
set_option maxRecDepth 100000 in
theorem ly_Tp_1 : (.lays R_Tp "WaterMen$Tape" "length" "I") ∈ TB := tw_f (tw_t1 (List.mem_of_getElem? (i := 81) rfl)) rfl
set_option maxRecDepth 100000 in
theorem ly_Tp_2 : (.lays R_Tp "WaterMen$Tape" "sort" "I") ∈ TB := tw_f (tw_t1 (List.mem_of_getElem? (i := 83) rfl)) rfl
set_option maxRecDepth 100000 in
theorem ly_Tp_3 : (.lays R_Tp "WaterMen$Tape" "start" "I") ∈ TB := tw_f (tw_t1 (List.mem_of_getElem? (i := 85) rfl)) rfl
set_option maxRecDepth 100000 in
theorem ly_Tp_4 : (.lays R_Tp "WaterMen$Tape" "behind" "I") ∈ TB := tw_f (tw_t1 (List.mem_of_getElem? (i := 87) rfl)) rfl
set_option maxRecDepth 100000 in
theorem ly_Tp_5 : (.lays R_Tp "WaterMen$Tape" "value" "I") ∈ TB := tw_f (tw_t1 (List.mem_of_getElem? (i := 89) rfl)) rfl
set_option maxRecDepth 100000 in
theorem i_Tp : ∀ w ∈ u_ws R_Tp F_Tp 6, w ∈ TB := by
  intro w hw
  obtain ⟨k, hk, rfl⟩ := List.mem_map.mp hw
  have hk := List.mem_range.mp hk
  match k, hk with
  | 0, _ => exact ly_Tp_0
  | 1, _ => exact ly_Tp_1
  | 2, _ => exact ly_Tp_2
  | 3, _ => exact ly_Tp_3
  | 4, _ => exact ly_Tp_4
  | 5, _ => exact ly_Tp_5
set_option maxRecDepth 100000 in
theorem ly_Bx_0 : (.lays R_Bx "WaterMen$Box" "coins" "I") ∈ TB := tw_f (tw_t1 (List.mem_of_getElem? (i := 111) rfl)) rfl
set_option maxRecDepth 100000 in
theorem ly_Bx_1 : (.lays R_Bx "WaterMen$Box" "pot" "I") ∈ TB := tw_f (tw_t1 (List.mem_of_getElem? (i := 113) rfl)) rfl
set_option maxRecDepth 100000 in
theorem ly_Bx_2 : (.lays R_Bx "WaterMen$Box" "allPaid" "I") ∈ TB := tw_f (tw_t1 (List.mem_of_getElem? (i := 115) rfl)) rfl
set_option maxRecDepth 100000 in
theorem ly_Bx_3 : (.lays R_Bx "WaterMen$Box" "allPensions" "I") ∈ TB := tw_f (tw_t1 (List.mem_of_getElem? (i := 117) rfl)) rfl
set_option maxRecDepth 100000 in
theorem ly_Bx_4 : (.laysFinal R_Bx "WaterMen$Box" "income" "[I") ∈ TB := tw_f (tw_t1 (List.mem_of_getElem? (i := 119) rfl)) rfl
set_option maxRecDepth 100000 in
theorem ly_Bx_5 : (.laysFinal R_Bx "WaterMen$Box" "pensioners" "[LWaterMen$Pensioner;") ∈ TB := tw_f (tw_t1 (List.mem_of_getElem? (i := 121) rfl)) rfl
set_option maxRecDepth 100000 in
theorem ly_Bx_6 : (.lays R_Bx "WaterMen$Box" "pensionerCount" "I") ∈ TB := tw_f (tw_t1 (List.mem_of_getElem? (i := 123) rfl)) rfl
set_option maxRecDepth 100000 in
theorem i_Bx : ∀ w ∈ u_ws R_Bx F_Bx 7, w ∈ TB := by
  intro w hw
  obtain ⟨k, hk, rfl⟩ := List.mem_map.mp hw
  have hk := List.mem_range.mp hk
  match k, hk with
  | 0, _ => exact ly_Bx_0
  | 1, _ => exact ly_Bx_1
  | 2, _ => exact ly_Bx_2
  | 3, _ => exact ly_Bx_3
  | 4, _ => exact ly_Bx_4
  | 5, _ => exact ly_Bx_5
  | 6, _ => exact ly_Bx_6
set_option maxRecDepth 100000 in
theorem ly_Pn_0 : (.laysFinal R_Pn "WaterMen$Pensioner" "pension" "I") ∈ TB := tw_f (tw_t4 (List.mem_of_getElem? (i := 50) rfl)) rfl
set_option maxRecDepth 100000 in
theorem ly_Pn_1 : (.laysFinal R_Pn "WaterMen$Pensioner" "end" "I") ∈ TB := tw_f (tw_t4 (List.mem_of_getElem? (i := 52) rfl)) rfl
set_option maxRecDepth 100000 in
theorem ly_Pn_2 : (.lays R_Pn "WaterMen$Pensioner" "got" "I") ∈ TB := tw_f (tw_t4 (List.mem_of_getElem? (i := 54) rfl)) rfl
set_option maxRecDepth 100000 in
theorem i_Pn : ∀ w ∈ u_ws R_Pn F_Pn 3, w ∈ TB := by
  intro w hw
  obtain ⟨k, hk, rfl⟩ := List.mem_map.mp hw
  have hk := List.mem_range.mp hk
  match k, hk with
  | 0, _ => exact ly_Pn_0
  | 1, _ => exact ly_Pn_1
  | 2, _ => exact ly_Pn_2
set_option maxRecDepth 100000 in
theorem ly_Md_0 : (.lays R_Md "WaterMenModel" "code" "I") ∈ TB := tw_f (tw_t4 (List.mem_of_getElem? (i := 226) rfl)) rfl
set_option maxRecDepth 100000 in
theorem ly_Md_1 : (.lays R_Md "WaterMenModel" "time" "I") ∈ TB := tw_f (tw_t4 (List.mem_of_getElem? (i := 228) rfl)) rfl
set_option maxRecDepth 100000 in
theorem ly_Md_2 : (.lays R_Md "WaterMenModel" "stairs" "I") ∈ TB := tw_f (tw_t4 (List.mem_of_getElem? (i := 230) rfl)) rfl
set_option maxRecDepth 100000 in
theorem ly_Md_3 : (.laysFinal R_Md "WaterMenModel" "miles" "[I") ∈ TB := tw_f (tw_t4 (List.mem_of_getElem? (i := 232) rfl)) rfl
set_option maxRecDepth 100000 in
theorem ly_Md_4 : (.lays R_Md "WaterMenModel" "bridge" "I") ∈ TB := tw_f (tw_t4 (List.mem_of_getElem? (i := 234) rfl)) rfl
set_option maxRecDepth 100000 in
theorem ly_Md_5 : (.laysFinal R_Md "WaterMenModel" "table" "[I") ∈ TB := tw_f (tw_t4 (List.mem_of_getElem? (i := 236) rfl)) rfl
set_option maxRecDepth 100000 in
theorem ly_Md_6 : (.laysFinal R_Md "WaterMenModel" "hasRow" "[Z") ∈ TB := tw_f (tw_t4 (List.mem_of_getElem? (i := 238) rfl)) rfl
set_option maxRecDepth 100000 in
theorem ly_Md_7 : (.laysFinal R_Md "WaterMenModel" "rows" "[I") ∈ TB := tw_f (tw_t5 (List.mem_of_getElem? (i := 0) rfl)) rfl
set_option maxRecDepth 100000 in
theorem ly_Md_8 : (.laysFinal R_Md "WaterMenModel" "frosts" "[Z") ∈ TB := tw_f (tw_t5 (List.mem_of_getElem? (i := 2) rfl)) rfl
set_option maxRecDepth 100000 in
theorem ly_Md_9 : (.laysFinal R_Md "WaterMenModel" "state" "[I") ∈ TB := tw_f (tw_t5 (List.mem_of_getElem? (i := 4) rfl)) rfl
set_option maxRecDepth 100000 in
theorem ly_Md_10 : (.laysFinal R_Md "WaterMenModel" "master" "[I") ∈ TB := tw_f (tw_t5 (List.mem_of_getElem? (i := 6) rfl)) rfl
set_option maxRecDepth 100000 in
theorem ly_Md_11 : (.laysFinal R_Md "WaterMenModel" "boundOn" "[I") ∈ TB := tw_f (tw_t5 (List.mem_of_getElem? (i := 8) rfl)) rfl
set_option maxRecDepth 100000 in
theorem ly_Md_12 : (.laysFinal R_Md "WaterMenModel" "gaps" "[I") ∈ TB := tw_f (tw_t5 (List.mem_of_getElem? (i := 10) rfl)) rfl
set_option maxRecDepth 100000 in
theorem ly_Md_13 : (.laysFinal R_Md "WaterMenModel" "gapFrom" "[I") ∈ TB := tw_f (tw_t5 (List.mem_of_getElem? (i := 12) rfl)) rfl
set_option maxRecDepth 100000 in
theorem ly_Md_14 : (.laysFinal R_Md "WaterMenModel" "gapTo" "[I") ∈ TB := tw_f (tw_t5 (List.mem_of_getElem? (i := 14) rfl)) rfl
set_option maxRecDepth 100000 in
theorem ly_Md_15 : (.laysFinal R_Md "WaterMenModel" "coins" "[I") ∈ TB := tw_f (tw_t5 (List.mem_of_getElem? (i := 16) rfl)) rfl
set_option maxRecDepth 100000 in
theorem ly_Md_16 : (.laysFinal R_Md "WaterMenModel" "wayOf" "[I") ∈ TB := tw_f (tw_t5 (List.mem_of_getElem? (i := 18) rfl)) rfl
set_option maxRecDepth 100000 in
theorem ly_Md_17 : (.laysFinal R_Md "WaterMenModel" "tripsOf" "[I") ∈ TB := tw_f (tw_t5 (List.mem_of_getElem? (i := 20) rfl)) rfl
set_option maxRecDepth 100000 in
theorem ly_Md_18 : (.laysFinal R_Md "WaterMenModel" "shares" "[Z") ∈ TB := tw_f (tw_t5 (List.mem_of_getElem? (i := 22) rfl)) rfl
set_option maxRecDepth 100000 in
theorem ly_Md_19 : (.laysFinal R_Md "WaterMenModel" "turns" "[I") ∈ TB := tw_f (tw_t5 (List.mem_of_getElem? (i := 24) rfl)) rfl
set_option maxRecDepth 100000 in
theorem ly_Md_20 : (.laysFinal R_Md "WaterMenModel" "turn" "[I") ∈ TB := tw_f (tw_t5 (List.mem_of_getElem? (i := 26) rfl)) rfl
set_option maxRecDepth 100000 in
theorem ly_Md_21 : (.lays R_Md "WaterMenModel" "boats" "I") ∈ TB := tw_f (tw_t5 (List.mem_of_getElem? (i := 28) rfl)) rfl
set_option maxRecDepth 100000 in
theorem ly_Md_22 : (.laysFinal R_Md "WaterMenModel" "boatOars" "[I") ∈ TB := tw_f (tw_t5 (List.mem_of_getElem? (i := 30) rfl)) rfl
set_option maxRecDepth 100000 in
theorem ly_Md_23 : (.laysFinal R_Md "WaterMenModel" "boatAt" "[I") ∈ TB := tw_f (tw_t5 (List.mem_of_getElem? (i := 32) rfl)) rfl
set_option maxRecDepth 100000 in
theorem ly_Md_24 : (.laysFinal R_Md "WaterMenModel" "boatFrom" "[I") ∈ TB := tw_f (tw_t5 (List.mem_of_getElem? (i := 34) rfl)) rfl
set_option maxRecDepth 100000 in
theorem ly_Md_25 : (.laysFinal R_Md "WaterMenModel" "boatTrip" "[I") ∈ TB := tw_f (tw_t5 (List.mem_of_getElem? (i := 36) rfl)) rfl
set_option maxRecDepth 100000 in
theorem ly_Md_26 : (.laysFinal R_Md "WaterMenModel" "sunk" "[Z") ∈ TB := tw_f (tw_t5 (List.mem_of_getElem? (i := 38) rfl)) rfl
set_option maxRecDepth 100000 in
theorem ly_Md_27 : (.laysFinal R_Md "WaterMenModel" "tape" "[B") ∈ TB := tw_f (tw_t5 (List.mem_of_getElem? (i := 40) rfl)) rfl
set_option maxRecDepth 100000 in
theorem ly_Md_28 : (.lays R_Md "WaterMenModel" "taped" "I") ∈ TB := tw_f (tw_t5 (List.mem_of_getElem? (i := 42) rfl)) rfl
set_option maxRecDepth 100000 in
theorem ly_Md_29 : (.lays R_Md "WaterMenModel" "orders" "I") ∈ TB := tw_f (tw_t5 (List.mem_of_getElem? (i := 44) rfl)) rfl
set_option maxRecDepth 100000 in
theorem ly_Md_30 : (.laysFinal R_Md "WaterMenModel" "orderFrom" "[I") ∈ TB := tw_f (tw_t5 (List.mem_of_getElem? (i := 46) rfl)) rfl
set_option maxRecDepth 100000 in
theorem ly_Md_31 : (.laysFinal R_Md "WaterMenModel" "orderMade" "[I") ∈ TB := tw_f (tw_t5 (List.mem_of_getElem? (i := 48) rfl)) rfl
set_option maxRecDepth 100000 in
theorem ly_Md_32 : (.laysFinal R_Md "WaterMenModel" "fares" "[I") ∈ TB := tw_f (tw_t5 (List.mem_of_getElem? (i := 50) rfl)) rfl
set_option maxRecDepth 100000 in
theorem ly_Md_33 : (.laysFinal R_Md "WaterMenModel" "fareLow" "[I") ∈ TB := tw_f (tw_t5 (List.mem_of_getElem? (i := 52) rfl)) rfl
set_option maxRecDepth 100000 in
theorem ly_Md_34 : (.laysFinal R_Md "WaterMenModel" "fareHigh" "[I") ∈ TB := tw_f (tw_t5 (List.mem_of_getElem? (i := 54) rfl)) rfl
set_option maxRecDepth 100000 in
theorem ly_Md_35 : (.laysFinal R_Md "WaterMenModel" "fareIs" "[I") ∈ TB := tw_f (tw_t5 (List.mem_of_getElem? (i := 56) rfl)) rfl
set_option maxRecDepth 100000 in
theorem ly_Md_36 : (.laysFinal R_Md "WaterMenModel" "hours" "[I") ∈ TB := tw_f (tw_t5 (List.mem_of_getElem? (i := 58) rfl)) rfl
set_option maxRecDepth 100000 in
theorem ly_Md_37 : (.laysFinal R_Md "WaterMenModel" "hourLow" "[I") ∈ TB := tw_f (tw_t5 (List.mem_of_getElem? (i := 60) rfl)) rfl
set_option maxRecDepth 100000 in
theorem ly_Md_38 : (.laysFinal R_Md "WaterMenModel" "hourHigh" "[I") ∈ TB := tw_f (tw_t5 (List.mem_of_getElem? (i := 62) rfl)) rfl
set_option maxRecDepth 100000 in
theorem ly_Md_39 : (.laysFinal R_Md "WaterMenModel" "hourIs" "[I") ∈ TB := tw_f (tw_t5 (List.mem_of_getElem? (i := 64) rfl)) rfl
set_option maxRecDepth 100000 in
theorem ly_Md_40 : (.laysFinal R_Md "WaterMenModel" "single" "[I") ∈ TB := tw_f (tw_t5 (List.mem_of_getElem? (i := 66) rfl)) rfl
set_option maxRecDepth 100000 in
theorem ly_Md_41 : (.laysFinal R_Md "WaterMenModel" "singleTo" "[I") ∈ TB := tw_f (tw_t5 (List.mem_of_getElem? (i := 68) rfl)) rfl
set_option maxRecDepth 100000 in
theorem ly_Md_42 : (.lays R_Md "WaterMenModel" "at" "I") ∈ TB := tw_f (tw_t5 (List.mem_of_getElem? (i := 70) rfl)) rfl
set_option maxRecDepth 100000 in
theorem ly_Md_43 : (.lays R_Md "WaterMenModel" "tk" "I") ∈ TB := tw_f (tw_t5 (List.mem_of_getElem? (i := 72) rfl)) rfl
set_option maxRecDepth 100000 in
theorem ly_Md_44 : (.lays R_Md "WaterMenModel" "tkAt" "I") ∈ TB := tw_f (tw_t5 (List.mem_of_getElem? (i := 74) rfl)) rfl
set_option maxRecDepth 100000 in
theorem ly_Md_45 : (.lays R_Md "WaterMenModel" "tkNumber" "I") ∈ TB := tw_f (tw_t5 (List.mem_of_getElem? (i := 76) rfl)) rfl
set_option maxRecDepth 100000 in
theorem ly_Md_46 : (.lays R_Md "WaterMenModel" "got" "I") ∈ TB := tw_f (tw_t5 (List.mem_of_getElem? (i := 78) rfl)) rfl
set_option maxRecDepth 100000 in
theorem ly_Md_47 : (.lays R_Md "WaterMenModel" "trips" "I") ∈ TB := tw_f (tw_t5 (List.mem_of_getElem? (i := 80) rfl)) rfl
set_option maxRecDepth 100000 in
theorem ly_Md_48 : (.laysFinal R_Md "WaterMenModel" "tripBoat" "[I") ∈ TB := tw_f (tw_t5 (List.mem_of_getElem? (i := 82) rfl)) rfl
set_option maxRecDepth 100000 in
theorem ly_Md_49 : (.laysFinal R_Md "WaterMenModel" "tripMan" "[I") ∈ TB := tw_f (tw_t5 (List.mem_of_getElem? (i := 84) rfl)) rfl
set_option maxRecDepth 100000 in
theorem ly_Md_50 : (.laysFinal R_Md "WaterMenModel" "tripFrom" "[I") ∈ TB := tw_f (tw_t5 (List.mem_of_getElem? (i := 86) rfl)) rfl
set_option maxRecDepth 100000 in
theorem ly_Md_51 : (.laysFinal R_Md "WaterMenModel" "tripTo" "[I") ∈ TB := tw_f (tw_t5 (List.mem_of_getElem? (i := 88) rfl)) rfl
set_option maxRecDepth 100000 in
theorem ly_Md_52 : (.laysFinal R_Md "WaterMenModel" "tripBegin" "[I") ∈ TB := tw_f (tw_t5 (List.mem_of_getElem? (i := 90) rfl)) rfl
set_option maxRecDepth 100000 in
theorem ly_Md_53 : (.laysFinal R_Md "WaterMenModel" "tripThere" "[I") ∈ TB := tw_f (tw_t5 (List.mem_of_getElem? (i := 92) rfl)) rfl
set_option maxRecDepth 100000 in
theorem ly_Md_54 : (.laysFinal R_Md "WaterMenModel" "tripPaid" "[I") ∈ TB := tw_f (tw_t5 (List.mem_of_getElem? (i := 94) rfl)) rfl
set_option maxRecDepth 100000 in
theorem ly_Md_55 : (.laysFinal R_Md "WaterMenModel" "sank" "[Z") ∈ TB := tw_f (tw_t5 (List.mem_of_getElem? (i := 96) rfl)) rfl
set_option maxRecDepth 100000 in
theorem ly_Md_56 : (.lays R_Md "WaterMenModel" "box" "J") ∈ TB := tw_f (tw_t5 (List.mem_of_getElem? (i := 98) rfl)) rfl
set_option maxRecDepth 100000 in
theorem ly_Md_57 : (.lays R_Md "WaterMenModel" "pot" "J") ∈ TB := tw_f (tw_t5 (List.mem_of_getElem? (i := 100) rfl)) rfl
set_option maxRecDepth 100000 in
theorem ly_Md_58 : (.lays R_Md "WaterMenModel" "paidOut" "J") ∈ TB := tw_f (tw_t5 (List.mem_of_getElem? (i := 102) rfl)) rfl
set_option maxRecDepth 100000 in
theorem ly_Md_59 : (.laysFinal R_Md "WaterMenModel" "boxIn" "[J") ∈ TB := tw_f (tw_t5 (List.mem_of_getElem? (i := 104) rfl)) rfl
set_option maxRecDepth 100000 in
theorem ly_Md_60 : (.lays R_Md "WaterMenModel" "pensioners" "I") ∈ TB := tw_f (tw_t5 (List.mem_of_getElem? (i := 106) rfl)) rfl
set_option maxRecDepth 100000 in
theorem ly_Md_61 : (.laysFinal R_Md "WaterMenModel" "pensionOf" "[I") ∈ TB := tw_f (tw_t5 (List.mem_of_getElem? (i := 108) rfl)) rfl
set_option maxRecDepth 100000 in
theorem ly_Md_62 : (.laysFinal R_Md "WaterMenModel" "pensionEnd" "[I") ∈ TB := tw_f (tw_t5 (List.mem_of_getElem? (i := 110) rfl)) rfl
set_option maxRecDepth 100000 in
theorem ly_Md_63 : (.laysFinal R_Md "WaterMenModel" "gotten" "[I") ∈ TB := tw_f (tw_t5 (List.mem_of_getElem? (i := 112) rfl)) rfl
set_option maxRecDepth 100000 in
theorem i_Md : ∀ w ∈ u_ws R_Md F_Md 64, w ∈ TB := by
  intro w hw
  obtain ⟨k, hk, rfl⟩ := List.mem_map.mp hw
  have hk := List.mem_range.mp hk
  match k, hk with
  | 0, _ => exact ly_Md_0
  | 1, _ => exact ly_Md_1
  | 2, _ => exact ly_Md_2
  | 3, _ => exact ly_Md_3
  | 4, _ => exact ly_Md_4
  | 5, _ => exact ly_Md_5
  | 6, _ => exact ly_Md_6
  | 7, _ => exact ly_Md_7
  | 8, _ => exact ly_Md_8
  | 9, _ => exact ly_Md_9
  | 10, _ => exact ly_Md_10
  | 11, _ => exact ly_Md_11
  | 12, _ => exact ly_Md_12
  | 13, _ => exact ly_Md_13
  | 14, _ => exact ly_Md_14
  | 15, _ => exact ly_Md_15
  | 16, _ => exact ly_Md_16
  | 17, _ => exact ly_Md_17
  | 18, _ => exact ly_Md_18
  | 19, _ => exact ly_Md_19
  | 20, _ => exact ly_Md_20
  | 21, _ => exact ly_Md_21
  | 22, _ => exact ly_Md_22
  | 23, _ => exact ly_Md_23
  | 24, _ => exact ly_Md_24
  | 25, _ => exact ly_Md_25
  | 26, _ => exact ly_Md_26
  | 27, _ => exact ly_Md_27
  | 28, _ => exact ly_Md_28
  | 29, _ => exact ly_Md_29
  | 30, _ => exact ly_Md_30
  | 31, _ => exact ly_Md_31
  | 32, _ => exact ly_Md_32
  | 33, _ => exact ly_Md_33
  | 34, _ => exact ly_Md_34
  | 35, _ => exact ly_Md_35
  | 36, _ => exact ly_Md_36
  | 37, _ => exact ly_Md_37
  | 38, _ => exact ly_Md_38
  | 39, _ => exact ly_Md_39
  | 40, _ => exact ly_Md_40
  | 41, _ => exact ly_Md_41
  | 42, _ => exact ly_Md_42
  | 43, _ => exact ly_Md_43
  | 44, _ => exact ly_Md_44
  | 45, _ => exact ly_Md_45
  | 46, _ => exact ly_Md_46
  | 47, _ => exact ly_Md_47
  | 48, _ => exact ly_Md_48
  | 49, _ => exact ly_Md_49
  | 50, _ => exact ly_Md_50
  | 51, _ => exact ly_Md_51
  | 52, _ => exact ly_Md_52
  | 53, _ => exact ly_Md_53
  | 54, _ => exact ly_Md_54
  | 55, _ => exact ly_Md_55
  | 56, _ => exact ly_Md_56
  | 57, _ => exact ly_Md_57
  | 58, _ => exact ly_Md_58
  | 59, _ => exact ly_Md_59
  | 60, _ => exact ly_Md_60
  | 61, _ => exact ly_Md_61
  | 62, _ => exact ly_Md_62
  | 63, _ => exact ly_Md_63
  | k + 64, h => exact absurd h (by omega)
set_option maxRecDepth 100000 in
theorem ly_Bd_0 : (.laysFinal R_Bd "WaterMen$Bond" "master" "I") ∈ TB := tw_f (tw_t2 (List.mem_of_getElem? (i := 82) rfl)) rfl
set_option maxRecDepth 100000 in
theorem ly_Bd_1 : (.laysFinal R_Bd "WaterMen$Bond" "since" "I") ∈ TB := tw_f (tw_t2 (List.mem_of_getElem? (i := 84) rfl)) rfl
set_option maxRecDepth 100000 in
theorem ly_Bd_2 : (.laysFinal R_Bd "WaterMen$Bond" "gapFrom" "[I") ∈ TB := tw_f (tw_t2 (List.mem_of_getElem? (i := 86) rfl)) rfl
set_option maxRecDepth 100000 in
theorem ly_Bd_3 : (.laysFinal R_Bd "WaterMen$Bond" "gapTo" "[I") ∈ TB := tw_f (tw_t2 (List.mem_of_getElem? (i := 88) rfl)) rfl
set_option maxRecDepth 100000 in
theorem ly_Bd_4 : (.lays R_Bd "WaterMen$Bond" "gapCount" "I") ∈ TB := tw_f (tw_t2 (List.mem_of_getElem? (i := 90) rfl)) rfl
set_option maxRecDepth 100000 in
theorem i_Bd : ∀ w ∈ u_ws R_Bd F_Bd 5, w ∈ TB := by
  intro w hw
  obtain ⟨k, hk, rfl⟩ := List.mem_map.mp hw
  have hk := List.mem_range.mp hk
  match k, hk with
  | 0, _ => exact ly_Bd_0
  | 1, _ => exact ly_Bd_1
  | 2, _ => exact ly_Bd_2
  | 3, _ => exact ly_Bd_3
  | 4, _ => exact ly_Bd_4
set_option maxRecDepth 100000 in
theorem ly_Bt_0 : (.laysFinal R_Bt "WaterMen$Boat" "oars" "I") ∈ TB := tw_f (tw_t2 (List.mem_of_getElem? (i := 161) rfl)) rfl
set_option maxRecDepth 100000 in
theorem ly_Bt_1 : (.lays R_Bt "WaterMen$Boat" "stairs" "I") ∈ TB := tw_f (tw_t2 (List.mem_of_getElem? (i := 163) rfl)) rfl
set_option maxRecDepth 100000 in
theorem ly_Bt_2 : (.lays R_Bt "WaterMen$Boat" "thereFrom" "I") ∈ TB := tw_f (tw_t2 (List.mem_of_getElem? (i := 165) rfl)) rfl
set_option maxRecDepth 100000 in
theorem ly_Bt_3 : (.lays R_Bt "WaterMen$Boat" "rower" "I") ∈ TB := tw_f (tw_t2 (List.mem_of_getElem? (i := 167) rfl)) rfl
set_option maxRecDepth 100000 in
theorem ly_Bt_4 : (.lays R_Bt "WaterMen$Boat" "lastTrip" "I") ∈ TB := tw_f (tw_t2 (List.mem_of_getElem? (i := 169) rfl)) rfl
set_option maxRecDepth 100000 in
theorem ly_Bt_5 : (.lays R_Bt "WaterMen$Boat" "sunk" "Z") ∈ TB := tw_f (tw_t2 (List.mem_of_getElem? (i := 171) rfl)) rfl
set_option maxRecDepth 100000 in
theorem i_Bt : ∀ w ∈ u_ws R_Bt F_Bt 6, w ∈ TB := by
  intro w hw
  obtain ⟨k, hk, rfl⟩ := List.mem_map.mp hw
  have hk := List.mem_range.mp hk
  match k, hk with
  | 0, _ => exact ly_Bt_0
  | 1, _ => exact ly_Bt_1
  | 2, _ => exact ly_Bt_2
  | 3, _ => exact ly_Bt_3
  | 4, _ => exact ly_Bt_4
  | 5, _ => exact ly_Bt_5
set_option maxRecDepth 100000 in
theorem ly_Tr_0 : (.laysFinal R_Tr "WaterMen$Trip" "boat" "I") ∈ TB := tw_f (tw_t3 (List.mem_of_getElem? (i := 211) rfl)) rfl
set_option maxRecDepth 100000 in
theorem ly_Tr_1 : (.laysFinal R_Tr "WaterMen$Trip" "man" "I") ∈ TB := tw_f (tw_t3 (List.mem_of_getElem? (i := 213) rfl)) rfl
set_option maxRecDepth 100000 in
theorem ly_Tr_2 : (.laysFinal R_Tr "WaterMen$Trip" "start" "I") ∈ TB := tw_f (tw_t3 (List.mem_of_getElem? (i := 215) rfl)) rfl
set_option maxRecDepth 100000 in
theorem ly_Tr_3 : (.laysFinal R_Tr "WaterMen$Trip" "paid" "I") ∈ TB := tw_f (tw_t3 (List.mem_of_getElem? (i := 217) rfl)) rfl
set_option maxRecDepth 100000 in
theorem ly_Tr_4 : (.lays R_Tr "WaterMen$Trip" "from" "I") ∈ TB := tw_f (tw_t3 (List.mem_of_getElem? (i := 219) rfl)) rfl
set_option maxRecDepth 100000 in
theorem ly_Tr_5 : (.lays R_Tr "WaterMen$Trip" "to" "I") ∈ TB := tw_f (tw_t3 (List.mem_of_getElem? (i := 221) rfl)) rfl
set_option maxRecDepth 100000 in
theorem ly_Tr_6 : (.lays R_Tr "WaterMen$Trip" "arrival" "I") ∈ TB := tw_f (tw_t3 (List.mem_of_getElem? (i := 223) rfl)) rfl
set_option maxRecDepth 100000 in
theorem ly_Tr_7 : (.lays R_Tr "WaterMen$Trip" "sank" "Z") ∈ TB := tw_f (tw_t3 (List.mem_of_getElem? (i := 225) rfl)) rfl
set_option maxRecDepth 100000 in
theorem i_Tr : ∀ w ∈ u_ws R_Tr F_Tr 8, w ∈ TB := by
  intro w hw
  obtain ⟨k, hk, rfl⟩ := List.mem_map.mp hw
  have hk := List.mem_range.mp hk
  match k, hk with
  | 0, _ => exact ly_Tr_0
  | 1, _ => exact ly_Tr_1
  | 2, _ => exact ly_Tr_2
  | 3, _ => exact ly_Tr_3
  | 4, _ => exact ly_Tr_4
  | 5, _ => exact ly_Tr_5
  | 6, _ => exact ly_Tr_6
  | 7, _ => exact ly_Tr_7
def NWL : List Cond := [(.methodLinkNest R_WM 11 y_Rv_init "WaterMen"), (.methodLinkNest R_WM 42 y_Tp_init "WaterMen"), (.methodLinkNest R_WM 49 y_Bx_init "WaterMen"), (.methodLinkNest R_WM 54 y_Or_init "WaterMen"), (.methodLinkNest R_WM 59 y_Mn_init "WaterMen"), (.methodLinkNest R_Rv 31 y_WM_isDay "WaterMen"), (.methodLinkNest R_Or 52 y_WM_isSunday "WaterMen"), (.methodLinkNest R_Bx 25 y_WM_isDay "WaterMen")]
def nw_is : Cond → Bool
  | .methodLinkNest _ _ _ _ => true
  | _ => false
def AOL : List String := [R_Mn, R_Bt, R_Or, R_Tr, R_Pn]
set_option maxRecDepth 100000 in
theorem ao_Mn : R_Mn ∈ AOL := List.mem_of_getElem? (i := 0) rfl
set_option maxRecDepth 100000 in
theorem ao_Bt : R_Bt ∈ AOL := List.mem_of_getElem? (i := 1) rfl
set_option maxRecDepth 100000 in
theorem ao_Or : R_Or ∈ AOL := List.mem_of_getElem? (i := 2) rfl
set_option maxRecDepth 100000 in
theorem ao_Tr : R_Tr ∈ AOL := List.mem_of_getElem? (i := 3) rfl
set_option maxRecDepth 100000 in
theorem ao_Pn : R_Pn ∈ AOL := List.mem_of_getElem? (i := 4) rfl
set_option maxRecDepth 100000 in
theorem nw_0 : (.methodLinkNest R_WM 11 y_Rv_init "WaterMen") ∈ NWL := List.mem_of_getElem? (i := 0) rfl
set_option maxRecDepth 100000 in
theorem nw_1 : (.methodLinkNest R_WM 42 y_Tp_init "WaterMen") ∈ NWL := List.mem_of_getElem? (i := 1) rfl
set_option maxRecDepth 100000 in
theorem nw_2 : (.methodLinkNest R_WM 49 y_Bx_init "WaterMen") ∈ NWL := List.mem_of_getElem? (i := 2) rfl
set_option maxRecDepth 100000 in
theorem nw_3 : (.methodLinkNest R_WM 54 y_Or_init "WaterMen") ∈ NWL := List.mem_of_getElem? (i := 3) rfl
set_option maxRecDepth 100000 in
theorem nw_4 : (.methodLinkNest R_WM 59 y_Mn_init "WaterMen") ∈ NWL := List.mem_of_getElem? (i := 4) rfl
set_option maxRecDepth 100000 in
theorem nw_5 : (.methodLinkNest R_Rv 31 y_WM_isDay "WaterMen") ∈ NWL := List.mem_of_getElem? (i := 5) rfl
set_option maxRecDepth 100000 in
theorem nw_6 : (.methodLinkNest R_Or 52 y_WM_isSunday "WaterMen") ∈ NWL := List.mem_of_getElem? (i := 6) rfl
set_option maxRecDepth 100000 in
theorem nw_7 : (.methodLinkNest R_Bx 25 y_WM_isDay "WaterMen") ∈ NWL := List.mem_of_getElem? (i := 7) rfl
set_option maxRecDepth 100000 in
theorem nw_tbl : ∀ w ∈ NWL, w ∈ lw_tbl := by
  intro w hw
  simp only [NWL, List.mem_cons, List.not_mem_nil, or_false] at hw
  rcases hw with rfl | rfl | rfl | rfl | rfl | rfl | rfl | rfl
  · exact tw_t1 (List.mem_of_getElem? (i := 27) rfl)
  · exact tw_t1 (List.mem_of_getElem? (i := 68) rfl)
  · exact tw_t1 (List.mem_of_getElem? (i := 95) rfl)
  · exact tw_t1 (List.mem_of_getElem? (i := 127) rfl)
  · exact tw_t1 (List.mem_of_getElem? (i := 160) rfl)
  · exact tw_t2 (List.mem_of_getElem? (i := 55) rfl)
  · exact tw_t3 (List.mem_of_getElem? (i := 139) rfl)
  · exact tw_t4 (List.mem_of_getElem? (i := 4) rfl)
set_option maxRecDepth 100000 in
theorem ao_tbl : ∀ C ∈ AOL, Cond.arrayOver (.object C) ∈ lw_tbl := by
  intro w hw
  simp only [AOL, List.mem_cons, List.not_mem_nil, or_false] at hw
  rcases hw with rfl | rfl | rfl | rfl | rfl
  · exact tw_t1 (List.mem_of_getElem? (i := 59) rfl)
  · exact tw_t1 (List.mem_of_getElem? (i := 61) rfl)
  · exact tw_t1 (List.mem_of_getElem? (i := 63) rfl)
  · exact tw_t1 (List.mem_of_getElem? (i := 65) rfl)
  · exact tw_t1 (List.mem_of_getElem? (i := 100) rfl)
set_option maxRecDepth 100000 in
theorem aa_tbl : Cond.arrayOver (.array .int) ∈ lw_tbl := tw_t1 (List.mem_of_getElem? (i := 32) rfl)
end
section
section HB
variable {p : Program} {l : Launch} {e : Env} {R : Room} {s : State} {m : MethodId} {args : Array Value} {below : List Frame} {meth : Method} {c : Code} {H : Heap} {locs : List Loc} {cells slots : Nat} {Q : State → Prop}
variable {cc : ByteArray} {pc : Nat} {ls : Array Slot} {rest : List Value}
theorem hb_tv {a : Value} (v : Value) (h : a = v) (k : W p l e R s m args below meth c H locs cells slots Q (F0 m pc ls (v :: rest))) : W p l e R s m args below meth c H locs cells slots Q (F0 m pc ls (a :: rest)) := by
  subst h; exact k
theorem hb_ti {x : Int32} (v : Int32) (h : x = v) (k : W p l e R s m args below meth c H locs cells slots Q (F0 m pc ls (.int v :: rest))) : W p l e R s m args below meth c H locs cells slots Q (F0 m pc ls (.int x :: rest)) := by
  subst h; exact k
theorem hb_tl {x : Int64} (v : Int64) (h : x = v) (k : W p l e R s m args below meth c H locs cells slots Q (F0 m pc ls (.long v :: rest))) : W p l e R s m args below meth c H locs cells slots Q (F0 m pc ls (.long x :: rest)) := by
  subst h; exact k
theorem hb_in {i N : Int32} {n : Nat} (h1 : ¬ i < 0) (h2 : ¬ N ≤ i) (hN : N.toInt ≤ (n : Int)) : vp_in i n := by
  rw [vp_in_iff]
  rw [Int32.lt_iff_toInt_lt] at h1
  rw [Int32.le_iff_toInt_le] at h2
  have h0 : (0 : Int32).toInt = 0 := by decide
  omega
theorem hb_inl {i N : Int32} {n : Nat} (h1 : ¬ i < 0) (h2 : ¬ N < i) (hN : N.toInt < (n : Int)) : vp_in i n := by
  rw [vp_in_iff]
  rw [Int32.lt_iff_toInt_lt] at h1 h2
  have h0 : (0 : Int32).toInt = 0 := by decide
  omega
theorem hb_inp {i N : Int32} {n : Nat} (h1 : ¬ i < 0) (h2 : i < N) (hN : N.toInt ≤ (n : Int)) : vp_in i n := by
  rw [vp_in_iff]
  rw [Int32.lt_iff_toInt_lt] at h1 h2
  have h0 : (0 : Int32).toInt = 0 := by decide
  omega
theorem hb_free {A0 : Nat → Prop} {ws : va_W} {H0 H : Heap} {locs : List Loc} (hD : va_D A0 ws) (hS : va_S A0 H0 H locs) (hA : ∀ q, H0.size ≤ q → A0 q) : ∀ q, va_A ws H.size q → A0 q := by
  intro q h
  rcases h with ⟨k, e, h⟩ | h
  · exact hD.2 k _ h
  · exact hA q (Nat.le_trans hS.1 h)
end HB
/-- the words of nest mates, and of the arrays of references -/
def NW (U : State) : Prop := (∀ w ∈ NWL, va_Nw w U) ∧ (∀ C ∈ AOL, va_AO C U) ∧ (Cond.arrayOver (.array .int)).before #[] U = true
theorem NW.warm {s U : State} (hW : s.WarmedH U.vm) (h : NW s) : NW U := by
  refine ⟨?_, fun C hC => va_AO.moved hW.alike (h.2.1 C hC), over_moved hW.alike h.2.2⟩
  intro w hw
  have h1 := h.1 w hw
  have h2 : ∀ w ∈ NWL, nw_is w = true := by decide +kernel
  have h3 := h2 w hw
  cases w <;> first | exact va_Nw.warmM hW h1 | exact absurd h3 (by simp [nw_is])
theorem NW.blind {U : State} {g : JFrame} {mk : MethodId} {a : Array Value} (h : NW U) : NW (U.calling g mk a) := by
  refine ⟨?_, fun C hC => va_AO.moved (u := U) (U := U.calling g mk a) (Vm.Alike.refl U.vm) (h.2.1 C hC), over_moved (u := U) (E := U.calling g mk a) (Vm.Alike.refl U.vm) h.2.2⟩
  intro w hw
  have h1 := h.1 w hw
  have h2 : ∀ w ∈ NWL, w.onTables = true := by decide +kernel
  exact va_Nw.same (u := U) (U := U.calling g mk a) (h2 w hw) rfl h1
def PR (dC : Nat → ClassId) (dI : Nat → Nat → Nat) (ws : va_W) (tys : List (ClassId × FieldType)) (U : State) : Prop := va_P (dC, dI) vwCl ws U.heap ∧ va_K (dC, dI) vwCl tys U ∧ NW U
def PC (dC : Nat → ClassId) (dI : Nat → Nat → Nat) (ws : va_W) (tys : List (ClassId × FieldType)) (sz : Nat) (U : State) : Prop := U.heap.size = sz ∧ va_P (dC, dI) vwCl ws U.heap ∧ va_K (dC, dI) vwCl tys U ∧ va_D (fun _ => True) ws ∧ NW U
theorem pr_blind {av : List Value} {dC : Nat → ClassId} {dI : Nat → Nat → Nat} {ws : va_W} {tys : List (ClassId × FieldType)} : FrameBlind (va_Pc av (PR dC dI ws tys)) := by
  intro a U g mk q
  obtain ⟨q0, qP, qK, qN⟩ := q
  exact ⟨q0, qP, va_K.moved (u := U) (U := U.calling g mk a) (Vm.Alike.refl U.vm) qK, qN.blind⟩
theorem pc_blind {av : List Value} {dC : Nat → ClassId} {dI : Nat → Nat → Nat} {ws : va_W} {tys : List (ClassId × FieldType)} {sz : Nat} : FrameBlind (va_Pc av (PC dC dI ws tys sz)) := by
  intro a U g mk q
  obtain ⟨q0, q1, qP, qK, qD, qN⟩ := q
  exact ⟨q0, q1, qP, va_K.moved (u := U) (U := U.calling g mk a) (Vm.Alike.refl U.vm) qK, qD, qN.blind⟩
theorem pr_pre {s : State} {H : Heap} {av : List Value} {dC : Nat → ClassId} {dI : Nat → Nat → Nat} {ws : va_W} {tys : List (ClassId × FieldType)} (hP : va_P (dC, dI) vwCl ws H) (hK : va_K (dC, dI) vwCl tys s) (hN : NW s) : ∀ U : State, U.heap = H → s.WarmedH U.vm → va_Pc av (PR dC dI ws tys) av.toArray U :=
  fun U hU hW => ⟨rfl, by rw [hU]; exact hP, va_K.moved hW.alike hK, hN.warm hW⟩
theorem pc_pre {A : Nat → Prop} {s : State} {H : Heap} {av : List Value} {dC : Nat → ClassId} {dI : Nat → Nat → Nat} {ws : va_W} {tys : List (ClassId × FieldType)} (hP : va_P (dC, dI) vwCl ws H) (hK : va_K (dC, dI) vwCl tys s) (hD : va_D A ws) (hN : NW s) : ∀ U : State, U.heap = H → s.WarmedH U.vm → va_Pc av (PC dC dI ws tys H.size) av.toArray U :=
  fun U hU hW => ⟨rfl, by rw [hU], by rw [hU]; exact hP, va_K.moved hW.alike hK, hD.weaken (fun _ _ _ _ => trivial), hN.warm hW⟩
theorem gd_I {cy : Cond} (h : cy ∈ TB) : GoodIn TB (cy :: TB) := by
  intro w hw
  have hm : w ∈ TB := by
    rcases List.mem_cons.mp hw with rfl | h'
    · exact h
    · exact h'
  exact ⟨hm, good_of_word (List.mem_filter.mp hm).2⟩
theorem gd_app {a : List Cond} (ha : ∀ w ∈ a, w ∈ TB) {b : List Cond} (hb : GoodIn TB b) : GoodIn TB (a ++ b) := by
  intro w hw
  rcases List.mem_append.mp hw with h | h
  · exact ⟨ha w h, good_of_word (List.mem_filter.mp (ha w h)).2⟩
  · exact hb w h
theorem gd_V {own C : String} {idx : Nat} {y : MethodName} {cy : Cond} (h1 : Cond.methodLink own idx y ∈ TB) (h2 : Cond.instanceMethod y ∈ TB) (h3 : Cond.selects C y y ∈ TB) (h4 : Cond.initialized C ∈ TB) (h5 : cy ∈ TB) : GoodIn TB (wsV own idx C y (cy :: TB)) := by
  unfold wsV
  refine gd_app (fun w hw => ?_) (gd_I h5)
  simp only [List.mem_cons, List.not_mem_nil, or_false] at hw
  rcases hw with rfl | rfl | rfl | rfl <;> assumption
theorem gd_S {own : String} {idx : Nat} {y : MethodName} {cy : Cond} (h1 : Cond.methodLink own idx y ∈ TB) (h2 : Cond.static y ∈ TB) (h4 : Cond.initialized own ∈ TB) (h5 : cy ∈ TB) : GoodIn TB (wsS own idx y (cy :: TB)) := by
  unfold wsS
  refine gd_app (fun w hw => ?_) (gd_I h5)
  simp only [List.mem_cons, List.not_mem_nil, or_false] at hw
  rcases hw with rfl | rfl | rfl <;> assumption
theorem gd_S2 {own : String} {idx : Nat} {y : MethodName} {cy : Cond} (h1 : Cond.methodLink own idx y ∈ TB) (h2 : Cond.static y ∈ TB) (h4 : Cond.initialized y.cls ∈ TB) (h5 : cy ∈ TB) : GoodIn TB (va_wsS own idx y (cy :: TB)) := by
  unfold va_wsS
  refine gd_app (fun w hw => ?_) (gd_I h5)
  simp only [List.mem_cons, List.not_mem_nil, or_false] at hw
  rcases hw with rfl | rfl | rfl <;> assumption
theorem fb_rng (x : Int32) : -2147483648 ≤ x.toInt ∧ x.toInt < 2147483648 := ⟨Int32.le_toInt x, Int32.toInt_lt x⟩
theorem fb_bmod {z : Int} (h1 : -2147483648 ≤ z) (h2 : z < 2147483648) : z.bmod (2 ^ 32) = z := by
  rw [Int.bmod_def]; split <;> omega
theorem fb_addI {x y : Int32} (h1 : -2147483648 ≤ x.toInt + y.toInt) (h2 : x.toInt + y.toInt < 2147483648) : (x + y).toInt = x.toInt + y.toInt := by
  rw [Int32.toInt_add]; exact fb_bmod h1 h2
theorem fb_subI {x y : Int32} (h1 : -2147483648 ≤ x.toInt - y.toInt) (h2 : x.toInt - y.toInt < 2147483648) : (x - y).toInt = x.toInt - y.toInt := by
  rw [Int32.toInt_sub]; exact fb_bmod h1 h2
theorem hb_upd0 (v : Int32) (i : Nat) (w : Int32) (h : w = v) : upd (fun _ => v) i w = fun _ => v := by
  subst h; funext j; simp [upd]
theorem hb_updL0 (v : Int64) (i : Nat) : vp_updL (fun _ => v) i v = fun _ => v := by
  funext j; simp [vp_updL]
theorem hb_nat {x : Int32} (h0 : ¬ x < 0) (h1 : ¬ 1000 < x) : ∃ j : Nat, j ≤ 1000 ∧ x = nI j := by
  refine nI_of2 (M := 1000) (by decide) h0 ?_
  rw [Int32.lt_iff_toInt_lt] at h1
  rw [Int32.le_iff_toInt_le]
  omega
theorem hb_rem12 {x y : Int32} (hx0 : ¬ x < 0) (hx1 : ¬ 1000 < x) (hy0 : ¬ y < 0) (hy1 : ¬ 1000 < y) : vp_in ((x + y) - (x + y) / 12 * 12) 12 := by
  obtain ⟨a, ha, rfl⟩ := hb_nat hx0 hx1
  obtain ⟨b, hb, rfl⟩ := hb_nat hy0 hy1
  rw [nI_add, show (12 : Int32) = nI 12 from rfl, pk_rem (by omega) (by omega) (by omega)]
  exact vp_in_nI (Nat.mod_lt _ (by omega)) (by omega)
theorem hb_i6000 {x y : Int32} (hx0 : ¬ x < 0) (hx1 : ¬ 499 < x) (hy0 : ¬ y < 0) (hy1 : ¬ 11 < y) : vp_in ((12 * x) + y) 6000 := by
  obtain ⟨a, ha, rfl⟩ : ∃ j : Nat, j ≤ 499 ∧ x = nI j := by
    refine nI_of2 (M := 499) (by decide) hx0 ?_
    rw [Int32.lt_iff_toInt_lt] at hx1; rw [Int32.le_iff_toInt_le]; omega
  obtain ⟨b, hb, rfl⟩ : ∃ j : Nat, j ≤ 11 ∧ y = nI j := by
    refine nI_of2 (M := 11) (by decide) hy0 ?_
    rw [Int32.lt_iff_toInt_lt] at hy1; rw [Int32.le_iff_toInt_le]; omega
  rw [show (12 : Int32) = nI 12 from rfl, pk_mul, nI_add]
  exact vp_in_nI (by omega) (by omega)
theorem hb_div720 {x : Int32} (h0 : ¬ x < 1) (h1 : ¬ 1440 < x) : ∃ j : Nat, 1 ≤ j ∧ j ≤ 1440 ∧ x = nI j ∧ (0 + x) / 720 = nI (j / 720) := by
  obtain ⟨j, hj, rfl⟩ : ∃ j : Nat, j ≤ 1440 ∧ x = nI j := by
    refine nI_of2 (M := 1440) (by decide) ?_ ?_
    · rw [Int32.lt_iff_toInt_lt] at h0 ⊢
      have z0 : (0 : Int32).toInt = 0 := by decide
      have z1 : (1 : Int32).toInt = 1 := by decide
      omega
    · rw [Int32.lt_iff_toInt_lt] at h1; rw [Int32.le_iff_toInt_le]; omega
  refine ⟨j, ?_, hj, rfl, ?_⟩
  · rw [show (1 : Int32) = nI 1 from rfl, nI_ltI (by omega) (by omega)] at h0; omega
  · rw [Int32.zero_add, show (720 : Int32) = nI 720 from rfl, pk_div (by omega) (by omega) (by omega)]
theorem hb_day3 {x : Int32} (h0 : ¬ x < 1) (h1 : ¬ 1440 < x) : (0 + x) / 720 < 3 := by
  obtain ⟨j, h2, h3, -, e⟩ := hb_div720 h0 h1
  rw [e, show (3 : Int32) = nI 3 from rfl, nI_ltI (by omega) (by omega)]
  omega
theorem hb_time {x : Int32} (h0 : ¬ x < 1) (h1 : ¬ 1440 < x) : (0 + x) ≤ 359999 := by
  rw [Int32.zero_add]
  rw [Int32.lt_iff_toInt_lt] at h1
  rw [Int32.le_iff_toInt_le]
  have z1 : (1440 : Int32).toInt = 1440 := by decide
  have z2 : (359999 : Int32).toInt = 359999 := by decide
  omega
section HA
variable {p : Program} {l : Launch} {e : Env} {R : Room} {s : State} {m : MethodId} {args : Array Value} {below : List Frame} {meth : Method} {c : Code} {H : Heap} {locs : List Loc} {cells slots : Nat} {Q : State → Prop}
variable {cc : ByteArray} {pc : Nat} {ls : Array Slot} {rest : List Value} {D : va_G} {cl : List vw_C} {A : Nat → Prop} {a : Nat} {tys : List (ClassId × FieldType)} {ws : va_W} {H0 : Heap}
theorem va_aldA (hexec : p.tables.exec = Jvm.exec) (hb : c.code = cc) (hK : va_K D cl tys s) (hP : va_P D cl ws H) (q0 t0 : Nat) {cA : ClassId} {t : FieldType} {n : Nat} {f : Nat → Option Nat} (ha : ws[q0]? = some (a, .inl (cA, n, .inr (.inr (.inr (.inr f)))))) (ht : tys[t0]? = some (cA, .array t)) {i : Int32} (hin : vp_in i n) (hdg : decode cc pc = .ok (.aaload, 1))
    (kk : W p l e R s m args below meth c H locs cells slots Q (F0 m (pc + 1) ls (va_rf (f i.toNatClampNeg) :: rest))) : W p l e R s m args below meth c H locs cells slots Q (F0 m pc ls (.int i :: .ref a :: rest)) := by
  have hlt : i.toNatClampNeg < n := Nat.not_le.mp fun q => hin (Or.inr q)
  exact W.aald (v := va_rf (f i.toNatClampNeg)) (ty := .array t) hexec hb (hP q0 _ ha) ((hK.2 t0 _ ht).1 n (fun j => va_rf (f j))) rfl (fun q => by cases q) (by show ¬ (i < 0 ∨ (arrV _ _ _).slots.size ≤ _); rw [arrV_size]; exact hin) (by show (arrV _ _ _).slots[_]? = _; rw [arrV_read _ _ hlt]) rfl rfl hdg kk
theorem va_newA (hexec : p.tables.exec = Jvm.exec) (hb : c.code = cc) {own : String} {index : Nat} {t : FieldType} (hown : s.vm.findClass own = some m.cls) (hclink : (Cond.classLink own index (FieldType.array t).toString).before args s = true) (hover : (Cond.arrayOver (.array t)).before args s = true) (hK : va_K D cl tys s) (hP : va_P D cl ws H) (hD : va_D A ws) (hS : va_S A H0 H locs) (hA : ∀ q, H0.size ≤ q → A q)
    {n : Int32} {N' : Nat} (hn : ¬ n < 0) (hN : n.toNatClampNeg = N') (hbytes : N' * 4 ≤ 536870912) (hcells : cells + 1 ≤ R.cells) (hslots : slots + N' ≤ R.slots) (hdg : decode cc pc = .ok (.anewarray index, 3))
    (kk : ∀ (q : Nat) (cA : ClassId) (H1 : Heap), va_K D cl (tys ++ [(cA, .array t)]) s → va_P D cl (ws ++ [(q, .inl (cA, N', .inr (.inr (.inr (.inr (fun _ => none))))))]) H1 → va_D A (ws ++ [(q, .inl (cA, N', .inr (.inr (.inr (.inr (fun _ => none))))))]) → va_S A H0 H1 locs →
      W p l e R s m args below meth c H1 locs (cells + 1) (slots + N') Q (F0 m (pc + 3) ls (.ref q :: rest))) : W p l e R s m args below meth c H locs cells slots Q (F0 m pc ls (.int n :: rest)) := by
  subst hN
  refine W.anewA hexec hb hown hclink hover rfl hdg rfl hn hbytes hcells hslots fun cA kA comp f1 f2 f3 f4 => ?_
  generalize hH1 : H.push ({ cls := cA, slots := Array.replicate n.toNatClampNeg .null, vm := .none } : Cell) = H1
  have z1 : H1.size = H.size + 1 := by rw [← hH1, Array.size_push]
  have e1 : H1[H.size]? = some (arrV cA n.toNatClampNeg (fun _ => .null)) := by rw [← hH1, Array.getElem?_push_size, ← arrV_new]
  have o1 : ∀ q : Nat, q < H.size → H1[q]? = H[q]? := fun q hq => by rw [← hH1, Array.getElem?_push, if_neg (Nat.ne_of_lt hq)]
  have hAr : ArrOfT s cA (.array t) := fun N z => ⟨(fun k h => by cases h), kA, f2, comp, f3⟩
  have hk : ∀ (k : Nat) (x : Nat × va_E), ws[k]? = some x → H1[x.1]? = H[x.1]? := fun k x hx => o1 x.1 ((hP k x hx).lt)
  refine kk H.size cA H1 ⟨hK.1, fun k x hx => ?_⟩ ((hP.kept hk).app (fun k x hx => ?_)) (hD.push hP rfl (hA _ hS.1)) ⟨Nat.le_trans hS.1 (by omega), fun x h1 h2 => (o1 x (Nat.lt_of_lt_of_le h1 hS.1)).trans (hS.2.1 x h1 h2), hS.2.2⟩
  · by_cases hl : k < tys.length
    · rw [List.getElem?_append_left hl] at hx
      exact hK.2 k x hx
    · rw [List.getElem?_append_right (by omega)] at hx
      have hz : k - tys.length < 1 := (List.getElem?_eq_some_iff.mp hx).1
      rw [show k - tys.length = 0 by omega] at hx
      cases hx
      exact ⟨hAr, f1⟩
  · have hz : k < 1 := (List.getElem?_eq_some_iff.mp hx).1
    rw [show k = 0 by omega] at hx
    cases hx
    show H1[H.size]? = some (vp_cell _ _)
    rw [vp_cell_q]
    exact e1
theorem va_astA (hexec : p.tables.exec = Jvm.exec) (hb : c.code = cc) (hover : (Cond.arrayOver (.array .int)).before args s = true) (hK : va_K D cl tys s) (hP : va_P D cl ws H) (hD : va_D A ws) (hS : va_S A H0 H locs) (q0 t0 qk tk : Nat) {cA cV : ClassId} {x : vp_A} {n v : Nat} {f : Nat → Option Nat} (ha : ws[q0]? = some (a, .inl (cA, n, .inr (.inr (.inr (.inr f)))))) (ht : tys[t0]? = some (cA, .array .int)) (hv : ws[qk]? = some (v, .inl (cV, x))) (htk : tys[tk]? = some (cV, .int)) {i : Int32} (hin : vp_in i n) (hdg : decode cc pc = .ok (.aastore, 1))
    (kk : ∀ (H1 : Heap) (locs1 : List Loc), va_P D cl (ws.set q0 (a, .inl (cA, n, .inr (.inr (.inr (.inr (va_up f i.toNatClampNeg (some v)))))))) H1 → va_D A (ws.set q0 (a, .inl (cA, n, .inr (.inr (.inr (.inr (va_up f i.toNatClampNeg (some v)))))))) → va_S A H0 H1 locs1 → W p l e R s m args below meth c H1 locs1 cells slots Q (F0 m (pc + 1) ls rest)) : W p l e R s m args below meth c H locs cells slots Q (F0 m pc ls (.ref v :: .int i :: .ref a :: rest)) := by
  have hlt : i.toNatClampNeg < n := Nat.not_le.mp fun q => hin (Or.inr q)
  have h0 : ¬ i < 0 := fun q => hin (Or.inl q)
  have g1 : H[v]? = some (vp_cell cV x) := hP qk _ hv
  have hvm0 : (vp_cell cV x).vm = .none := by
    obtain ⟨n, f | f | f | f | f⟩ := x <;> rfl
  have hcl0 : (vp_cell cV x).cls = cV := by
    obtain ⟨n, f | f | f | f | f⟩ := x <;> rfl
  obtain ⟨comp, c1, kA, k0, k1, k2, k3, k4⟩ := arrayOverA_spec hover
  have hcA : c1 = cA := Option.some.inj (k4.symm.trans (hK.2 t0 _ ht).2)
  subst hcA
  have hcV : comp = cV := Option.some.inj (k0.symm.trans (hK.2 tk _ htk).2)
  subst hcV
  obtain ⟨kE, hkE, -⟩ := Vm.findClass_spec k0
  refine W.aast hexec hb (hP q0 _ ha) (fun q h => by cases h) (fun h => by cases h) k2 k3 rfl hkE ⟨h0, by show _ < (arrV _ _ _).slots.size; rw [arrV_size]; exact hlt⟩ g1 (fun q h => by rw [hvm0] at h; cases h) (by rw [hcl0]; exact hkE) (by rw [hcl0]; exact va_asg _ _) rfl rfl hdg fun H1 e z oq => ?_
  refine kk H1 _ (hP.set hD ha ?_ oq) (hD.set ha) (hS.put z oq (hD.2 q0 _ ha))
  show H1[a]? = some (vp_cell _ _)
  rw [e]
  rw [vp_cell_q, vp_cell_q, arrV_store]
  congr 2
  funext q
  by_cases hq : q = i.toNatClampNeg
  · subst hq
    simp [updV, va_up, va_rf]
  · simp [updV, va_up, hq]
end HA
theorem hb_last {ws : va_W} {x : Nat × va_E} : (ws ++ [x])[ws.length]? = some x := by simp
def hb_fl (v w : Int32) (i : Nat) : Nat → Int32 := fun j => if j < i then v else w
theorem hb_fl_0 (v w : Int32) : hb_fl v w 0 = fun _ => w := by funext j; simp [hb_fl]
theorem hb_fill {v w : Int32} {i : Nat} (h : i < 2 ^ 31) : upd (hb_fl v w i) (nI i).toNatClampNeg v = hb_fl v w (i + 1) := by
  rw [nI_clamp h]
  funext j
  unfold upd hb_fl
  by_cases h1 : j = i
  · rw [if_pos h1, if_pos (by omega)]
  · rw [if_neg h1]
    by_cases h2 : j < i
    · rw [if_pos h2, if_pos (by omega)]
    · rw [if_neg h2, if_neg (by omega)]
theorem hb_cellf {cA : ClassId} {n : Nat} {f g : Nat → Int32} (h : ∀ j, j < n → f j = g j) : vp_cell cA (n, .inl f) = vp_cell cA (n, .inl g) := by
  show arrV cA n (fun j => .int (f j)) = arrV cA n (fun j => .int (g j))
  unfold arrV
  congr 2
  funext j
  show Value.int (f j.val) = Value.int (g j.val)
  rw [h j.val j.isLt]
theorem hb_swap {D : va_G} {cl : List vw_C} {ws : va_W} {H : Heap} (i : Nat) {a : Nat} {k : ClassId} {n : Nat} {f : Nat → Int32} (g : Nat → Int32) (hP : va_P D cl ws H) (he : ws[i]? = some (a, .inl (k, n, .inl f))) (h : ∀ j, j < n → f j = g j) : va_P D cl (ws.set i (a, .inl (k, n, .inl g))) H := by
  intro j q hj
  by_cases hji : j = i
  · subst hji
    rw [List.getElem?_set_self (List.getElem?_eq_some_iff.mp he).1] at hj
    cases hj
    have h1 : H[a]? = some (vp_cell k (n, .inl f)) := hP j _ he
    show H[a]? = some (vp_cell k (n, .inl g))
    rw [h1, hb_cellf h]
  · rw [List.getElem?_set_ne (Ne.symm hji)] at hj
    exact hP j q hj
theorem hb_plpush {X : va_W} {L : List Nat} {e : va_E} {q : Nat} : (X ++ va_pl L (fun _ => e)) ++ [(q, e)] = X ++ va_pl (L ++ [q]) (fun _ => e) := by
  simp [va_pl]
theorem hb_fm {L : List Nat} {fm : Nat → Option Nat} {i q : Nat} (hi : i < 2 ^ 31) (hL : L.length = i) (h : ∀ j, fm j = L[j]?) : ∀ j, va_up fm (nI i).toNatClampNeg (some q) j = (L ++ [q])[j]? := by
  intro j
  rw [nI_clamp hi]
  unfold va_up
  by_cases h1 : j = i
  · rw [if_pos h1, h1, ← hL]; simp
  · rw [if_neg h1, h j]
    by_cases h2 : j < L.length
    · rw [List.getElem?_append_left h2]
    · rw [List.getElem?_eq_none (by omega), List.getElem?_eq_none (by simp; omega)]
theorem hb_right {D : va_G} {cl : List vw_C} {u v : va_W} {H : Heap} (h : va_P D cl (u ++ v) H) : va_P D cl v H := by
  intro k q hk
  exact h (u.length + k) q (by rw [List.getElem?_append_right (by omega), Nat.add_sub_cancel_left]; exact hk)
theorem hb_left {D : va_G} {cl : List vw_C} {u v : va_W} {H : Heap} (h : va_P D cl (u ++ v) H) : va_P D cl u H := by
  intro k q hk
  exact h k q (by rw [List.getElem?_append_left (List.getElem?_eq_some_iff.mp hk).1]; exact hk)
theorem hb_rightD {A : Nat → Prop} {u v : va_W} (h : va_D A (u ++ v)) : va_D A v := by
  have key : ∀ (k : Nat) (q : Nat × va_E), v[k]? = some q → (u ++ v)[u.length + k]? = some q := fun k q hk => by
    rw [List.getElem?_append_right (by omega), Nat.add_sub_cancel_left]; exact hk
  refine ⟨fun i j p q hi hj e => ?_, fun k q hk => h.2 _ q (key k q hk)⟩
  have := h.1 _ _ p q (key i p hi) (key j q hj) e
  omega
theorem hb_leftD {A : Nat → Prop} {u v : va_W} (h : va_D A (u ++ v)) : va_D A u := by
  have key : ∀ (k : Nat) (q : Nat × va_E), u[k]? = some q → (u ++ v)[k]? = some q := fun k q hk => by
    rw [List.getElem?_append_left (List.getElem?_eq_some_iff.mp hk).1]; exact hk
  exact ⟨fun i j p q hi hj e => h.1 _ _ p q (key i p hi) (key j q hj) e, fun k q hk => h.2 _ q (key k q hk)⟩
/-- the left world stays behind a call that had the right one -/
theorem hb_keep {A : Nat → Prop} {D : va_G} {cl : List vw_C} {u v : va_W} {H H1 : Heap} (hP : va_P D cl (u ++ v) H) (hD : va_D A (u ++ v)) (hk : ∀ q : Nat, q < H.size → ¬ va_A v H.size q → H1[q]? = H[q]?) : va_P D cl u H1 := by
  have hu := hb_left hP
  refine hu.kept (fun k q hq => hk q.1 (hu k q hq).lt (fun h => ?_))
  rcases h with ⟨k2, e, h⟩ | h
  · have h1 : (u ++ v)[k]? = some q := by rw [List.getElem?_append_left (List.getElem?_eq_some_iff.mp hq).1]; exact hq
    have h2 : (u ++ v)[u.length + k2]? = some (q.1, e) := by rw [List.getElem?_append_right (by omega), Nat.add_sub_cancel_left]; exact h
    have h3 := hD.1 _ _ q (q.1, e) h1 h2 rfl
    have h4 := (List.getElem?_eq_some_iff.mp hq).1
    omega
  · have := (hu k q hq).lt
    omega
end
section
set_option maxRecDepth 100000 in
theorem tw_0 : (.methodLink R_Md 52 objectInit) ∈ TB := tw_f (tw_t4 (List.mem_of_getElem? (i := 162) rfl)) rfl
set_option maxRecDepth 100000 in
theorem tw_1 : (.instanceMethod objectInit) ∈ TB := tw_f (tw_t1 (List.mem_of_getElem? (i := 23) rfl)) rfl
set_option maxRecDepth 100000 in
theorem tw_2 : (.code objectInit ⟨#[0xb1]⟩ 1 none) ∈ TB := tw_f (tw_t1 (List.mem_of_getElem? (i := 24) rfl)) rfl
set_option maxRecDepth 100000 in
theorem tw_3 : (.arrayClass .int) ∈ TB := tw_f (tw_t1 (List.mem_of_getElem? (i := 56) rfl)) rfl
set_option maxRecDepth 100000 in
theorem tw_4 : (.fieldLink R_Md 32 "WaterMenModel" "miles" "[I") ∈ TB := tw_f (tw_t4 (List.mem_of_getElem? (i := 165) rfl)) rfl
set_option maxRecDepth 100000 in
theorem tw_5 : (.fieldLink R_Md 35 "WaterMenModel" "bridge" "I") ∈ TB := tw_f (tw_t4 (List.mem_of_getElem? (i := 166) rfl)) rfl
set_option maxRecDepth 100000 in
theorem tw_6 : (.fieldLink R_Md 25 "WaterMenModel" "table" "[I") ∈ TB := tw_f (tw_t4 (List.mem_of_getElem? (i := 167) rfl)) rfl
set_option maxRecDepth 100000 in
theorem tw_7 : (.arrayClass .boolean) ∈ TB := tw_f (tw_t1 (List.mem_of_getElem? (i := 57) rfl)) rfl
set_option maxRecDepth 100000 in
theorem tw_8 : (.fieldLink R_Md 17 "WaterMenModel" "hasRow" "[Z") ∈ TB := tw_f (tw_t4 (List.mem_of_getElem? (i := 168) rfl)) rfl
set_option maxRecDepth 100000 in
theorem tw_9 : (.fieldLink R_Md 21 "WaterMenModel" "rows" "[I") ∈ TB := tw_f (tw_t4 (List.mem_of_getElem? (i := 169) rfl)) rfl
set_option maxRecDepth 100000 in
theorem tw_10 : (.fieldLink R_Md 49 "WaterMenModel" "frosts" "[Z") ∈ TB := tw_f (tw_t4 (List.mem_of_getElem? (i := 170) rfl)) rfl
set_option maxRecDepth 100000 in
theorem tw_11 : (.fieldLink R_Md 58 "WaterMenModel" "state" "[I") ∈ TB := tw_f (tw_t4 (List.mem_of_getElem? (i := 171) rfl)) rfl
set_option maxRecDepth 100000 in
theorem tw_12 : (.fieldLink R_Md 61 "WaterMenModel" "master" "[I") ∈ TB := tw_f (tw_t4 (List.mem_of_getElem? (i := 172) rfl)) rfl
set_option maxRecDepth 100000 in
theorem tw_13 : (.fieldLink R_Md 64 "WaterMenModel" "boundOn" "[I") ∈ TB := tw_f (tw_t4 (List.mem_of_getElem? (i := 173) rfl)) rfl
set_option maxRecDepth 100000 in
theorem tw_14 : (.fieldLink R_Md 67 "WaterMenModel" "gaps" "[I") ∈ TB := tw_f (tw_t4 (List.mem_of_getElem? (i := 174) rfl)) rfl
set_option maxRecDepth 100000 in
theorem tw_15 : (.fieldLink R_Md 70 "WaterMenModel" "gapFrom" "[I") ∈ TB := tw_f (tw_t4 (List.mem_of_getElem? (i := 175) rfl)) rfl
set_option maxRecDepth 100000 in
theorem tw_16 : (.fieldLink R_Md 73 "WaterMenModel" "gapTo" "[I") ∈ TB := tw_f (tw_t4 (List.mem_of_getElem? (i := 176) rfl)) rfl
set_option maxRecDepth 100000 in
theorem tw_17 : (.fieldLink R_Md 76 "WaterMenModel" "coins" "[I") ∈ TB := tw_f (tw_t4 (List.mem_of_getElem? (i := 177) rfl)) rfl
set_option maxRecDepth 100000 in
theorem tw_18 : (.fieldLink R_Md 79 "WaterMenModel" "wayOf" "[I") ∈ TB := tw_f (tw_t4 (List.mem_of_getElem? (i := 178) rfl)) rfl
set_option maxRecDepth 100000 in
theorem tw_19 : (.fieldLink R_Md 82 "WaterMenModel" "tripsOf" "[I") ∈ TB := tw_f (tw_t4 (List.mem_of_getElem? (i := 179) rfl)) rfl
set_option maxRecDepth 100000 in
theorem tw_20 : (.fieldLink R_Md 85 "WaterMenModel" "shares" "[Z") ∈ TB := tw_f (tw_t4 (List.mem_of_getElem? (i := 180) rfl)) rfl
set_option maxRecDepth 100000 in
theorem tw_21 : (.fieldLink R_Md 88 "WaterMenModel" "turns" "[I") ∈ TB := tw_f (tw_t4 (List.mem_of_getElem? (i := 181) rfl)) rfl
set_option maxRecDepth 100000 in
theorem tw_22 : (.fieldLink R_Md 91 "WaterMenModel" "turn" "[I") ∈ TB := tw_f (tw_t4 (List.mem_of_getElem? (i := 182) rfl)) rfl
set_option maxRecDepth 100000 in
theorem tw_23 : (.fieldLink R_Md 94 "WaterMenModel" "boatOars" "[I") ∈ TB := tw_f (tw_t4 (List.mem_of_getElem? (i := 184) rfl)) rfl
set_option maxRecDepth 100000 in
theorem tw_24 : (.fieldLink R_Md 97 "WaterMenModel" "boatAt" "[I") ∈ TB := tw_f (tw_t4 (List.mem_of_getElem? (i := 185) rfl)) rfl
set_option maxRecDepth 100000 in
theorem tw_25 : (.fieldLink R_Md 100 "WaterMenModel" "boatFrom" "[I") ∈ TB := tw_f (tw_t4 (List.mem_of_getElem? (i := 186) rfl)) rfl
set_option maxRecDepth 100000 in
theorem tw_26 : (.fieldLink R_Md 103 "WaterMenModel" "boatTrip" "[I") ∈ TB := tw_f (tw_t4 (List.mem_of_getElem? (i := 187) rfl)) rfl
set_option maxRecDepth 100000 in
theorem tw_27 : (.fieldLink R_Md 106 "WaterMenModel" "sunk" "[Z") ∈ TB := tw_f (tw_t4 (List.mem_of_getElem? (i := 188) rfl)) rfl
set_option maxRecDepth 100000 in
theorem tw_28 : (.arrayClass .byte) ∈ TB := tw_f (tw_t1 (List.mem_of_getElem? (i := 92) rfl)) rfl
set_option maxRecDepth 100000 in
theorem tw_29 : (.fieldLink R_Md 109 "WaterMenModel" "tape" "[B") ∈ TB := tw_f (tw_t4 (List.mem_of_getElem? (i := 189) rfl)) rfl
set_option maxRecDepth 100000 in
theorem tw_30 : (.fieldLink R_Md 113 "WaterMenModel" "orderFrom" "[I") ∈ TB := tw_f (tw_t4 (List.mem_of_getElem? (i := 192) rfl)) rfl
set_option maxRecDepth 100000 in
theorem tw_31 : (.fieldLink R_Md 116 "WaterMenModel" "orderMade" "[I") ∈ TB := tw_f (tw_t4 (List.mem_of_getElem? (i := 193) rfl)) rfl
set_option maxRecDepth 100000 in
theorem tw_32 : (.fieldLink R_Md 119 "WaterMenModel" "fares" "[I") ∈ TB := tw_f (tw_t4 (List.mem_of_getElem? (i := 194) rfl)) rfl
set_option maxRecDepth 100000 in
theorem tw_33 : (.fieldLink R_Md 122 "WaterMenModel" "fareLow" "[I") ∈ TB := tw_f (tw_t4 (List.mem_of_getElem? (i := 195) rfl)) rfl
set_option maxRecDepth 100000 in
theorem tw_34 : (.fieldLink R_Md 125 "WaterMenModel" "fareHigh" "[I") ∈ TB := tw_f (tw_t4 (List.mem_of_getElem? (i := 196) rfl)) rfl
set_option maxRecDepth 100000 in
theorem tw_35 : (.fieldLink R_Md 128 "WaterMenModel" "fareIs" "[I") ∈ TB := tw_f (tw_t4 (List.mem_of_getElem? (i := 197) rfl)) rfl
set_option maxRecDepth 100000 in
theorem tw_36 : (.fieldLink R_Md 131 "WaterMenModel" "hours" "[I") ∈ TB := tw_f (tw_t4 (List.mem_of_getElem? (i := 198) rfl)) rfl
set_option maxRecDepth 100000 in
theorem tw_37 : (.fieldLink R_Md 134 "WaterMenModel" "hourLow" "[I") ∈ TB := tw_f (tw_t4 (List.mem_of_getElem? (i := 199) rfl)) rfl
set_option maxRecDepth 100000 in
theorem tw_38 : (.fieldLink R_Md 137 "WaterMenModel" "hourHigh" "[I") ∈ TB := tw_f (tw_t4 (List.mem_of_getElem? (i := 200) rfl)) rfl
set_option maxRecDepth 100000 in
theorem tw_39 : (.fieldLink R_Md 140 "WaterMenModel" "hourIs" "[I") ∈ TB := tw_f (tw_t4 (List.mem_of_getElem? (i := 201) rfl)) rfl
set_option maxRecDepth 100000 in
theorem tw_40 : (.fieldLink R_Md 143 "WaterMenModel" "single" "[I") ∈ TB := tw_f (tw_t4 (List.mem_of_getElem? (i := 202) rfl)) rfl
set_option maxRecDepth 100000 in
theorem tw_41 : (.fieldLink R_Md 146 "WaterMenModel" "singleTo" "[I") ∈ TB := tw_f (tw_t4 (List.mem_of_getElem? (i := 203) rfl)) rfl
set_option maxRecDepth 100000 in
theorem tw_42 : (.fieldLink R_Md 149 "WaterMenModel" "tripBoat" "[I") ∈ TB := tw_f (tw_t4 (List.mem_of_getElem? (i := 210) rfl)) rfl
set_option maxRecDepth 100000 in
theorem tw_43 : (.fieldLink R_Md 152 "WaterMenModel" "tripMan" "[I") ∈ TB := tw_f (tw_t4 (List.mem_of_getElem? (i := 211) rfl)) rfl
set_option maxRecDepth 100000 in
theorem tw_44 : (.fieldLink R_Md 155 "WaterMenModel" "tripFrom" "[I") ∈ TB := tw_f (tw_t4 (List.mem_of_getElem? (i := 212) rfl)) rfl
set_option maxRecDepth 100000 in
theorem tw_45 : (.fieldLink R_Md 158 "WaterMenModel" "tripTo" "[I") ∈ TB := tw_f (tw_t4 (List.mem_of_getElem? (i := 213) rfl)) rfl
set_option maxRecDepth 100000 in
theorem tw_46 : (.fieldLink R_Md 161 "WaterMenModel" "tripBegin" "[I") ∈ TB := tw_f (tw_t4 (List.mem_of_getElem? (i := 214) rfl)) rfl
set_option maxRecDepth 100000 in
theorem tw_47 : (.fieldLink R_Md 164 "WaterMenModel" "tripThere" "[I") ∈ TB := tw_f (tw_t4 (List.mem_of_getElem? (i := 215) rfl)) rfl
set_option maxRecDepth 100000 in
theorem tw_48 : (.fieldLink R_Md 167 "WaterMenModel" "tripPaid" "[I") ∈ TB := tw_f (tw_t4 (List.mem_of_getElem? (i := 216) rfl)) rfl
set_option maxRecDepth 100000 in
theorem tw_49 : (.fieldLink R_Md 170 "WaterMenModel" "sank" "[Z") ∈ TB := tw_f (tw_t4 (List.mem_of_getElem? (i := 217) rfl)) rfl
set_option maxRecDepth 100000 in
theorem tw_50 : (.arrayClass .long) ∈ TB := tw_f (tw_t5 (List.mem_of_getElem? (i := 115) rfl)) rfl
set_option maxRecDepth 100000 in
theorem tw_51 : (.fieldLink R_Md 173 "WaterMenModel" "boxIn" "[J") ∈ TB := tw_f (tw_t4 (List.mem_of_getElem? (i := 221) rfl)) rfl
set_option maxRecDepth 100000 in
theorem tw_52 : (.fieldLink R_Md 177 "WaterMenModel" "pensionOf" "[I") ∈ TB := tw_f (tw_t4 (List.mem_of_getElem? (i := 223) rfl)) rfl
set_option maxRecDepth 100000 in
theorem tw_53 : (.fieldLink R_Md 180 "WaterMenModel" "pensionEnd" "[I") ∈ TB := tw_f (tw_t4 (List.mem_of_getElem? (i := 224) rfl)) rfl
set_option maxRecDepth 100000 in
theorem tw_54 : (.fieldLink R_Md 183 "WaterMenModel" "gotten" "[I") ∈ TB := tw_f (tw_t4 (List.mem_of_getElem? (i := 225) rfl)) rfl
end
section
set_option maxRecDepth 100000 in
theorem d_Md_init_0 : decode b_Md_init 0 = .ok (.aload_n 0, 1) := by decide +kernel
set_option maxRecDepth 100000 in
theorem d_Md_init_1 : decode b_Md_init 1 = .ok (.invokespecial 52, 3) := by decide +kernel
set_option maxRecDepth 100000 in
theorem d_Md_init_4 : decode b_Md_init 4 = .ok (.aload_n 0, 1) := by decide +kernel
set_option maxRecDepth 100000 in
theorem d_Md_init_5 : decode b_Md_init 5 = .ok (.bipush 12, 2) := by decide +kernel
set_option maxRecDepth 100000 in
theorem d_Md_init_7 : decode b_Md_init 7 = .ok (.newarray .int, 2) := by decide +kernel
set_option maxRecDepth 100000 in
theorem d_Md_init_9 : decode b_Md_init 9 = .ok (.putfield 32, 3) := by decide +kernel
set_option maxRecDepth 100000 in
theorem d_Md_init_12 : decode b_Md_init 12 = .ok (.aload_n 0, 1) := by decide +kernel
set_option maxRecDepth 100000 in
theorem d_Md_init_13 : decode b_Md_init 13 = .ok (.iconst (-1), 1) := by decide +kernel
set_option maxRecDepth 100000 in
theorem d_Md_init_14 : decode b_Md_init 14 = .ok (.putfield 35, 3) := by decide +kernel
set_option maxRecDepth 100000 in
theorem d_Md_init_17 : decode b_Md_init 17 = .ok (.aload_n 0, 1) := by decide +kernel
set_option maxRecDepth 100000 in
theorem d_Md_init_18 : decode b_Md_init 18 = .ok (.bipush 12, 2) := by decide +kernel
set_option maxRecDepth 100000 in
theorem d_Md_init_20 : decode b_Md_init 20 = .ok (.newarray .int, 2) := by decide +kernel
set_option maxRecDepth 100000 in
theorem d_Md_init_22 : decode b_Md_init 22 = .ok (.putfield 25, 3) := by decide +kernel
set_option maxRecDepth 100000 in
theorem d_Md_init_25 : decode b_Md_init 25 = .ok (.aload_n 0, 1) := by decide +kernel
set_option maxRecDepth 100000 in
theorem d_Md_init_26 : decode b_Md_init 26 = .ok (.sipush 500, 3) := by decide +kernel
set_option maxRecDepth 100000 in
theorem d_Md_init_29 : decode b_Md_init 29 = .ok (.newarray .boolean, 2) := by decide +kernel
set_option maxRecDepth 100000 in
theorem d_Md_init_31 : decode b_Md_init 31 = .ok (.putfield 17, 3) := by decide +kernel
set_option maxRecDepth 100000 in
theorem d_Md_init_34 : decode b_Md_init 34 = .ok (.aload_n 0, 1) := by decide +kernel
set_option maxRecDepth 100000 in
theorem d_Md_init_35 : decode b_Md_init 35 = .ok (.sipush 6000, 3) := by decide +kernel
set_option maxRecDepth 100000 in
theorem d_Md_init_38 : decode b_Md_init 38 = .ok (.newarray .int, 2) := by decide +kernel
set_option maxRecDepth 100000 in
theorem d_Md_init_40 : decode b_Md_init 40 = .ok (.putfield 21, 3) := by decide +kernel
set_option maxRecDepth 100000 in
theorem d_Md_init_43 : decode b_Md_init 43 = .ok (.aload_n 0, 1) := by decide +kernel
set_option maxRecDepth 100000 in
theorem d_Md_init_44 : decode b_Md_init 44 = .ok (.sipush 500, 3) := by decide +kernel
set_option maxRecDepth 100000 in
theorem d_Md_init_47 : decode b_Md_init 47 = .ok (.newarray .boolean, 2) := by decide +kernel
set_option maxRecDepth 100000 in
theorem d_Md_init_49 : decode b_Md_init 49 = .ok (.putfield 49, 3) := by decide +kernel
set_option maxRecDepth 100000 in
theorem d_Md_init_52 : decode b_Md_init 52 = .ok (.aload_n 0, 1) := by decide +kernel
set_option maxRecDepth 100000 in
theorem d_Md_init_53 : decode b_Md_init 53 = .ok (.bipush 40, 2) := by decide +kernel
set_option maxRecDepth 100000 in
theorem d_Md_init_55 : decode b_Md_init 55 = .ok (.newarray .int, 2) := by decide +kernel
set_option maxRecDepth 100000 in
theorem d_Md_init_57 : decode b_Md_init 57 = .ok (.putfield 58, 3) := by decide +kernel
set_option maxRecDepth 100000 in
theorem d_Md_init_60 : decode b_Md_init 60 = .ok (.aload_n 0, 1) := by decide +kernel
set_option maxRecDepth 100000 in
theorem d_Md_init_61 : decode b_Md_init 61 = .ok (.bipush 40, 2) := by decide +kernel
set_option maxRecDepth 100000 in
theorem d_Md_init_63 : decode b_Md_init 63 = .ok (.newarray .int, 2) := by decide +kernel
set_option maxRecDepth 100000 in
theorem d_Md_init_65 : decode b_Md_init 65 = .ok (.putfield 61, 3) := by decide +kernel
set_option maxRecDepth 100000 in
theorem d_Md_init_68 : decode b_Md_init 68 = .ok (.aload_n 0, 1) := by decide +kernel
set_option maxRecDepth 100000 in
theorem d_Md_init_69 : decode b_Md_init 69 = .ok (.bipush 40, 2) := by decide +kernel
set_option maxRecDepth 100000 in
theorem d_Md_init_71 : decode b_Md_init 71 = .ok (.newarray .int, 2) := by decide +kernel
set_option maxRecDepth 100000 in
theorem d_Md_init_73 : decode b_Md_init 73 = .ok (.putfield 64, 3) := by decide +kernel
set_option maxRecDepth 100000 in
theorem d_Md_init_76 : decode b_Md_init 76 = .ok (.aload_n 0, 1) := by decide +kernel
set_option maxRecDepth 100000 in
theorem d_Md_init_77 : decode b_Md_init 77 = .ok (.bipush 40, 2) := by decide +kernel
set_option maxRecDepth 100000 in
theorem d_Md_init_79 : decode b_Md_init 79 = .ok (.newarray .int, 2) := by decide +kernel
set_option maxRecDepth 100000 in
theorem d_Md_init_81 : decode b_Md_init 81 = .ok (.putfield 67, 3) := by decide +kernel
set_option maxRecDepth 100000 in
theorem d_Md_init_84 : decode b_Md_init 84 = .ok (.aload_n 0, 1) := by decide +kernel
set_option maxRecDepth 100000 in
theorem d_Md_init_85 : decode b_Md_init 85 = .ok (.sipush 240, 3) := by decide +kernel
set_option maxRecDepth 100000 in
theorem d_Md_init_88 : decode b_Md_init 88 = .ok (.newarray .int, 2) := by decide +kernel
set_option maxRecDepth 100000 in
theorem d_Md_init_90 : decode b_Md_init 90 = .ok (.putfield 70, 3) := by decide +kernel
set_option maxRecDepth 100000 in
theorem d_Md_init_93 : decode b_Md_init 93 = .ok (.aload_n 0, 1) := by decide +kernel
set_option maxRecDepth 100000 in
theorem d_Md_init_94 : decode b_Md_init 94 = .ok (.sipush 240, 3) := by decide +kernel
set_option maxRecDepth 100000 in
theorem d_Md_init_97 : decode b_Md_init 97 = .ok (.newarray .int, 2) := by decide +kernel
set_option maxRecDepth 100000 in
theorem d_Md_init_99 : decode b_Md_init 99 = .ok (.putfield 73, 3) := by decide +kernel
set_option maxRecDepth 100000 in
theorem d_Md_init_102 : decode b_Md_init 102 = .ok (.aload_n 0, 1) := by decide +kernel
set_option maxRecDepth 100000 in
theorem d_Md_init_103 : decode b_Md_init 103 = .ok (.bipush 40, 2) := by decide +kernel
set_option maxRecDepth 100000 in
theorem d_Md_init_105 : decode b_Md_init 105 = .ok (.newarray .int, 2) := by decide +kernel
set_option maxRecDepth 100000 in
theorem d_Md_init_107 : decode b_Md_init 107 = .ok (.putfield 76, 3) := by decide +kernel
set_option maxRecDepth 100000 in
theorem d_Md_init_110 : decode b_Md_init 110 = .ok (.aload_n 0, 1) := by decide +kernel
set_option maxRecDepth 100000 in
theorem d_Md_init_111 : decode b_Md_init 111 = .ok (.bipush 40, 2) := by decide +kernel
set_option maxRecDepth 100000 in
theorem d_Md_init_113 : decode b_Md_init 113 = .ok (.newarray .int, 2) := by decide +kernel
set_option maxRecDepth 100000 in
theorem d_Md_init_115 : decode b_Md_init 115 = .ok (.putfield 79, 3) := by decide +kernel
set_option maxRecDepth 100000 in
theorem d_Md_init_118 : decode b_Md_init 118 = .ok (.aload_n 0, 1) := by decide +kernel
set_option maxRecDepth 100000 in
theorem d_Md_init_119 : decode b_Md_init 119 = .ok (.bipush 40, 2) := by decide +kernel
set_option maxRecDepth 100000 in
theorem d_Md_init_121 : decode b_Md_init 121 = .ok (.newarray .int, 2) := by decide +kernel
set_option maxRecDepth 100000 in
theorem d_Md_init_123 : decode b_Md_init 123 = .ok (.putfield 82, 3) := by decide +kernel
set_option maxRecDepth 100000 in
theorem d_Md_init_126 : decode b_Md_init 126 = .ok (.aload_n 0, 1) := by decide +kernel
set_option maxRecDepth 100000 in
theorem d_Md_init_127 : decode b_Md_init 127 = .ok (.bipush 40, 2) := by decide +kernel
set_option maxRecDepth 100000 in
theorem d_Md_init_129 : decode b_Md_init 129 = .ok (.newarray .boolean, 2) := by decide +kernel
set_option maxRecDepth 100000 in
theorem d_Md_init_131 : decode b_Md_init 131 = .ok (.putfield 85, 3) := by decide +kernel
set_option maxRecDepth 100000 in
theorem d_Md_init_134 : decode b_Md_init 134 = .ok (.aload_n 0, 1) := by decide +kernel
set_option maxRecDepth 100000 in
theorem d_Md_init_135 : decode b_Md_init 135 = .ok (.bipush 12, 2) := by decide +kernel
set_option maxRecDepth 100000 in
theorem d_Md_init_137 : decode b_Md_init 137 = .ok (.newarray .int, 2) := by decide +kernel
set_option maxRecDepth 100000 in
theorem d_Md_init_139 : decode b_Md_init 139 = .ok (.putfield 88, 3) := by decide +kernel
set_option maxRecDepth 100000 in
theorem d_Md_init_142 : decode b_Md_init 142 = .ok (.aload_n 0, 1) := by decide +kernel
set_option maxRecDepth 100000 in
theorem d_Md_init_143 : decode b_Md_init 143 = .ok (.sipush 480, 3) := by decide +kernel
set_option maxRecDepth 100000 in
theorem d_Md_init_146 : decode b_Md_init 146 = .ok (.newarray .int, 2) := by decide +kernel
set_option maxRecDepth 100000 in
theorem d_Md_init_148 : decode b_Md_init 148 = .ok (.putfield 91, 3) := by decide +kernel
set_option maxRecDepth 100000 in
theorem d_Md_init_151 : decode b_Md_init 151 = .ok (.aload_n 0, 1) := by decide +kernel
set_option maxRecDepth 100000 in
theorem d_Md_init_152 : decode b_Md_init 152 = .ok (.bipush 20, 2) := by decide +kernel
set_option maxRecDepth 100000 in
theorem d_Md_init_154 : decode b_Md_init 154 = .ok (.newarray .int, 2) := by decide +kernel
set_option maxRecDepth 100000 in
theorem d_Md_init_156 : decode b_Md_init 156 = .ok (.putfield 94, 3) := by decide +kernel
set_option maxRecDepth 100000 in
theorem d_Md_init_159 : decode b_Md_init 159 = .ok (.aload_n 0, 1) := by decide +kernel
set_option maxRecDepth 100000 in
theorem d_Md_init_160 : decode b_Md_init 160 = .ok (.bipush 20, 2) := by decide +kernel
set_option maxRecDepth 100000 in
theorem d_Md_init_162 : decode b_Md_init 162 = .ok (.newarray .int, 2) := by decide +kernel
set_option maxRecDepth 100000 in
theorem d_Md_init_164 : decode b_Md_init 164 = .ok (.putfield 97, 3) := by decide +kernel
set_option maxRecDepth 100000 in
theorem d_Md_init_167 : decode b_Md_init 167 = .ok (.aload_n 0, 1) := by decide +kernel
set_option maxRecDepth 100000 in
theorem d_Md_init_168 : decode b_Md_init 168 = .ok (.bipush 20, 2) := by decide +kernel
set_option maxRecDepth 100000 in
theorem d_Md_init_170 : decode b_Md_init 170 = .ok (.newarray .int, 2) := by decide +kernel
set_option maxRecDepth 100000 in
theorem d_Md_init_172 : decode b_Md_init 172 = .ok (.putfield 100, 3) := by decide +kernel
set_option maxRecDepth 100000 in
theorem d_Md_init_175 : decode b_Md_init 175 = .ok (.aload_n 0, 1) := by decide +kernel
set_option maxRecDepth 100000 in
theorem d_Md_init_176 : decode b_Md_init 176 = .ok (.bipush 20, 2) := by decide +kernel
set_option maxRecDepth 100000 in
theorem d_Md_init_178 : decode b_Md_init 178 = .ok (.newarray .int, 2) := by decide +kernel
set_option maxRecDepth 100000 in
theorem d_Md_init_180 : decode b_Md_init 180 = .ok (.putfield 103, 3) := by decide +kernel
set_option maxRecDepth 100000 in
theorem d_Md_init_183 : decode b_Md_init 183 = .ok (.aload_n 0, 1) := by decide +kernel
set_option maxRecDepth 100000 in
theorem d_Md_init_184 : decode b_Md_init 184 = .ok (.bipush 20, 2) := by decide +kernel
set_option maxRecDepth 100000 in
theorem d_Md_init_186 : decode b_Md_init 186 = .ok (.newarray .boolean, 2) := by decide +kernel
set_option maxRecDepth 100000 in
theorem d_Md_init_188 : decode b_Md_init 188 = .ok (.putfield 106, 3) := by decide +kernel
set_option maxRecDepth 100000 in
theorem d_Md_init_191 : decode b_Md_init 191 = .ok (.aload_n 0, 1) := by decide +kernel
set_option maxRecDepth 100000 in
theorem d_Md_init_192 : decode b_Md_init 192 = .ok (.sipush 400, 3) := by decide +kernel
set_option maxRecDepth 100000 in
theorem d_Md_init_195 : decode b_Md_init 195 = .ok (.newarray .byte, 2) := by decide +kernel
set_option maxRecDepth 100000 in
theorem d_Md_init_197 : decode b_Md_init 197 = .ok (.putfield 109, 3) := by decide +kernel
set_option maxRecDepth 100000 in
theorem d_Md_init_200 : decode b_Md_init 200 = .ok (.aload_n 0, 1) := by decide +kernel
set_option maxRecDepth 100000 in
theorem d_Md_init_201 : decode b_Md_init 201 = .ok (.bipush 20, 2) := by decide +kernel
set_option maxRecDepth 100000 in
theorem d_Md_init_203 : decode b_Md_init 203 = .ok (.newarray .int, 2) := by decide +kernel
set_option maxRecDepth 100000 in
theorem d_Md_init_205 : decode b_Md_init 205 = .ok (.putfield 113, 3) := by decide +kernel
set_option maxRecDepth 100000 in
theorem d_Md_init_208 : decode b_Md_init 208 = .ok (.aload_n 0, 1) := by decide +kernel
set_option maxRecDepth 100000 in
theorem d_Md_init_209 : decode b_Md_init 209 = .ok (.bipush 20, 2) := by decide +kernel
set_option maxRecDepth 100000 in
theorem d_Md_init_211 : decode b_Md_init 211 = .ok (.newarray .int, 2) := by decide +kernel
set_option maxRecDepth 100000 in
theorem d_Md_init_213 : decode b_Md_init 213 = .ok (.putfield 116, 3) := by decide +kernel
set_option maxRecDepth 100000 in
theorem d_Md_init_216 : decode b_Md_init 216 = .ok (.aload_n 0, 1) := by decide +kernel
set_option maxRecDepth 100000 in
theorem d_Md_init_217 : decode b_Md_init 217 = .ok (.bipush 20, 2) := by decide +kernel
set_option maxRecDepth 100000 in
theorem d_Md_init_219 : decode b_Md_init 219 = .ok (.newarray .int, 2) := by decide +kernel
set_option maxRecDepth 100000 in
theorem d_Md_init_221 : decode b_Md_init 221 = .ok (.putfield 119, 3) := by decide +kernel
set_option maxRecDepth 100000 in
theorem d_Md_init_224 : decode b_Md_init 224 = .ok (.aload_n 0, 1) := by decide +kernel
set_option maxRecDepth 100000 in
theorem d_Md_init_225 : decode b_Md_init 225 = .ok (.sipush 240, 3) := by decide +kernel
set_option maxRecDepth 100000 in
theorem d_Md_init_228 : decode b_Md_init 228 = .ok (.newarray .int, 2) := by decide +kernel
set_option maxRecDepth 100000 in
theorem d_Md_init_230 : decode b_Md_init 230 = .ok (.putfield 122, 3) := by decide +kernel
set_option maxRecDepth 100000 in
theorem d_Md_init_233 : decode b_Md_init 233 = .ok (.aload_n 0, 1) := by decide +kernel
set_option maxRecDepth 100000 in
theorem d_Md_init_234 : decode b_Md_init 234 = .ok (.sipush 240, 3) := by decide +kernel
set_option maxRecDepth 100000 in
theorem d_Md_init_237 : decode b_Md_init 237 = .ok (.newarray .int, 2) := by decide +kernel
set_option maxRecDepth 100000 in
theorem d_Md_init_239 : decode b_Md_init 239 = .ok (.putfield 125, 3) := by decide +kernel
set_option maxRecDepth 100000 in
theorem d_Md_init_242 : decode b_Md_init 242 = .ok (.aload_n 0, 1) := by decide +kernel
set_option maxRecDepth 100000 in
theorem d_Md_init_243 : decode b_Md_init 243 = .ok (.sipush 240, 3) := by decide +kernel
set_option maxRecDepth 100000 in
theorem d_Md_init_246 : decode b_Md_init 246 = .ok (.newarray .int, 2) := by decide +kernel
set_option maxRecDepth 100000 in
theorem d_Md_init_248 : decode b_Md_init 248 = .ok (.putfield 128, 3) := by decide +kernel
set_option maxRecDepth 100000 in
theorem d_Md_init_251 : decode b_Md_init 251 = .ok (.aload_n 0, 1) := by decide +kernel
set_option maxRecDepth 100000 in
theorem d_Md_init_252 : decode b_Md_init 252 = .ok (.bipush 20, 2) := by decide +kernel
set_option maxRecDepth 100000 in
theorem d_Md_init_254 : decode b_Md_init 254 = .ok (.newarray .int, 2) := by decide +kernel
set_option maxRecDepth 100000 in
theorem d_Md_init_256 : decode b_Md_init 256 = .ok (.putfield 131, 3) := by decide +kernel
set_option maxRecDepth 100000 in
theorem d_Md_init_259 : decode b_Md_init 259 = .ok (.aload_n 0, 1) := by decide +kernel
set_option maxRecDepth 100000 in
theorem d_Md_init_260 : decode b_Md_init 260 = .ok (.sipush 240, 3) := by decide +kernel
set_option maxRecDepth 100000 in
theorem d_Md_init_263 : decode b_Md_init 263 = .ok (.newarray .int, 2) := by decide +kernel
set_option maxRecDepth 100000 in
theorem d_Md_init_265 : decode b_Md_init 265 = .ok (.putfield 134, 3) := by decide +kernel
set_option maxRecDepth 100000 in
theorem d_Md_init_268 : decode b_Md_init 268 = .ok (.aload_n 0, 1) := by decide +kernel
set_option maxRecDepth 100000 in
theorem d_Md_init_269 : decode b_Md_init 269 = .ok (.sipush 240, 3) := by decide +kernel
set_option maxRecDepth 100000 in
theorem d_Md_init_272 : decode b_Md_init 272 = .ok (.newarray .int, 2) := by decide +kernel
set_option maxRecDepth 100000 in
theorem d_Md_init_274 : decode b_Md_init 274 = .ok (.putfield 137, 3) := by decide +kernel
set_option maxRecDepth 100000 in
theorem d_Md_init_277 : decode b_Md_init 277 = .ok (.aload_n 0, 1) := by decide +kernel
set_option maxRecDepth 100000 in
theorem d_Md_init_278 : decode b_Md_init 278 = .ok (.sipush 240, 3) := by decide +kernel
set_option maxRecDepth 100000 in
theorem d_Md_init_281 : decode b_Md_init 281 = .ok (.newarray .int, 2) := by decide +kernel
set_option maxRecDepth 100000 in
theorem d_Md_init_283 : decode b_Md_init 283 = .ok (.putfield 140, 3) := by decide +kernel
set_option maxRecDepth 100000 in
theorem d_Md_init_286 : decode b_Md_init 286 = .ok (.aload_n 0, 1) := by decide +kernel
set_option maxRecDepth 100000 in
theorem d_Md_init_287 : decode b_Md_init 287 = .ok (.sipush 180, 3) := by decide +kernel
set_option maxRecDepth 100000 in
theorem d_Md_init_290 : decode b_Md_init 290 = .ok (.newarray .int, 2) := by decide +kernel
set_option maxRecDepth 100000 in
theorem d_Md_init_292 : decode b_Md_init 292 = .ok (.putfield 143, 3) := by decide +kernel
set_option maxRecDepth 100000 in
theorem d_Md_init_295 : decode b_Md_init 295 = .ok (.aload_n 0, 1) := by decide +kernel
set_option maxRecDepth 100000 in
theorem d_Md_init_296 : decode b_Md_init 296 = .ok (.bipush 20, 2) := by decide +kernel
set_option maxRecDepth 100000 in
theorem d_Md_init_298 : decode b_Md_init 298 = .ok (.newarray .int, 2) := by decide +kernel
set_option maxRecDepth 100000 in
theorem d_Md_init_300 : decode b_Md_init 300 = .ok (.putfield 146, 3) := by decide +kernel
set_option maxRecDepth 100000 in
theorem d_Md_init_303 : decode b_Md_init 303 = .ok (.aload_n 0, 1) := by decide +kernel
set_option maxRecDepth 100000 in
theorem d_Md_init_304 : decode b_Md_init 304 = .ok (.sipush 600, 3) := by decide +kernel
set_option maxRecDepth 100000 in
theorem d_Md_init_307 : decode b_Md_init 307 = .ok (.newarray .int, 2) := by decide +kernel
set_option maxRecDepth 100000 in
theorem d_Md_init_309 : decode b_Md_init 309 = .ok (.putfield 149, 3) := by decide +kernel
set_option maxRecDepth 100000 in
theorem d_Md_init_312 : decode b_Md_init 312 = .ok (.aload_n 0, 1) := by decide +kernel
set_option maxRecDepth 100000 in
theorem d_Md_init_313 : decode b_Md_init 313 = .ok (.sipush 600, 3) := by decide +kernel
set_option maxRecDepth 100000 in
theorem d_Md_init_316 : decode b_Md_init 316 = .ok (.newarray .int, 2) := by decide +kernel
set_option maxRecDepth 100000 in
theorem d_Md_init_318 : decode b_Md_init 318 = .ok (.putfield 152, 3) := by decide +kernel
set_option maxRecDepth 100000 in
theorem d_Md_init_321 : decode b_Md_init 321 = .ok (.aload_n 0, 1) := by decide +kernel
set_option maxRecDepth 100000 in
theorem d_Md_init_322 : decode b_Md_init 322 = .ok (.sipush 600, 3) := by decide +kernel
set_option maxRecDepth 100000 in
theorem d_Md_init_325 : decode b_Md_init 325 = .ok (.newarray .int, 2) := by decide +kernel
set_option maxRecDepth 100000 in
theorem d_Md_init_327 : decode b_Md_init 327 = .ok (.putfield 155, 3) := by decide +kernel
set_option maxRecDepth 100000 in
theorem d_Md_init_330 : decode b_Md_init 330 = .ok (.aload_n 0, 1) := by decide +kernel
set_option maxRecDepth 100000 in
theorem d_Md_init_331 : decode b_Md_init 331 = .ok (.sipush 600, 3) := by decide +kernel
set_option maxRecDepth 100000 in
theorem d_Md_init_334 : decode b_Md_init 334 = .ok (.newarray .int, 2) := by decide +kernel
set_option maxRecDepth 100000 in
theorem d_Md_init_336 : decode b_Md_init 336 = .ok (.putfield 158, 3) := by decide +kernel
set_option maxRecDepth 100000 in
theorem d_Md_init_339 : decode b_Md_init 339 = .ok (.aload_n 0, 1) := by decide +kernel
set_option maxRecDepth 100000 in
theorem d_Md_init_340 : decode b_Md_init 340 = .ok (.sipush 600, 3) := by decide +kernel
set_option maxRecDepth 100000 in
theorem d_Md_init_343 : decode b_Md_init 343 = .ok (.newarray .int, 2) := by decide +kernel
set_option maxRecDepth 100000 in
theorem d_Md_init_345 : decode b_Md_init 345 = .ok (.putfield 161, 3) := by decide +kernel
set_option maxRecDepth 100000 in
theorem d_Md_init_348 : decode b_Md_init 348 = .ok (.aload_n 0, 1) := by decide +kernel
set_option maxRecDepth 100000 in
theorem d_Md_init_349 : decode b_Md_init 349 = .ok (.sipush 600, 3) := by decide +kernel
set_option maxRecDepth 100000 in
theorem d_Md_init_352 : decode b_Md_init 352 = .ok (.newarray .int, 2) := by decide +kernel
set_option maxRecDepth 100000 in
theorem d_Md_init_354 : decode b_Md_init 354 = .ok (.putfield 164, 3) := by decide +kernel
set_option maxRecDepth 100000 in
theorem d_Md_init_357 : decode b_Md_init 357 = .ok (.aload_n 0, 1) := by decide +kernel
set_option maxRecDepth 100000 in
theorem d_Md_init_358 : decode b_Md_init 358 = .ok (.sipush 600, 3) := by decide +kernel
set_option maxRecDepth 100000 in
theorem d_Md_init_361 : decode b_Md_init 361 = .ok (.newarray .int, 2) := by decide +kernel
set_option maxRecDepth 100000 in
theorem d_Md_init_363 : decode b_Md_init 363 = .ok (.putfield 167, 3) := by decide +kernel
set_option maxRecDepth 100000 in
theorem d_Md_init_366 : decode b_Md_init 366 = .ok (.aload_n 0, 1) := by decide +kernel
set_option maxRecDepth 100000 in
theorem d_Md_init_367 : decode b_Md_init 367 = .ok (.sipush 600, 3) := by decide +kernel
set_option maxRecDepth 100000 in
theorem d_Md_init_370 : decode b_Md_init 370 = .ok (.newarray .boolean, 2) := by decide +kernel
set_option maxRecDepth 100000 in
theorem d_Md_init_372 : decode b_Md_init 372 = .ok (.putfield 170, 3) := by decide +kernel
set_option maxRecDepth 100000 in
theorem d_Md_init_375 : decode b_Md_init 375 = .ok (.aload_n 0, 1) := by decide +kernel
set_option maxRecDepth 100000 in
theorem d_Md_init_376 : decode b_Md_init 376 = .ok (.sipush 500, 3) := by decide +kernel
set_option maxRecDepth 100000 in
theorem d_Md_init_379 : decode b_Md_init 379 = .ok (.newarray .long, 2) := by decide +kernel
set_option maxRecDepth 100000 in
theorem d_Md_init_381 : decode b_Md_init 381 = .ok (.putfield 173, 3) := by decide +kernel
set_option maxRecDepth 100000 in
theorem d_Md_init_384 : decode b_Md_init 384 = .ok (.aload_n 0, 1) := by decide +kernel
set_option maxRecDepth 100000 in
theorem d_Md_init_385 : decode b_Md_init 385 = .ok (.bipush 30, 2) := by decide +kernel
set_option maxRecDepth 100000 in
theorem d_Md_init_387 : decode b_Md_init 387 = .ok (.newarray .int, 2) := by decide +kernel
set_option maxRecDepth 100000 in
theorem d_Md_init_389 : decode b_Md_init 389 = .ok (.putfield 177, 3) := by decide +kernel
set_option maxRecDepth 100000 in
theorem d_Md_init_392 : decode b_Md_init 392 = .ok (.aload_n 0, 1) := by decide +kernel
set_option maxRecDepth 100000 in
theorem d_Md_init_393 : decode b_Md_init 393 = .ok (.bipush 30, 2) := by decide +kernel
set_option maxRecDepth 100000 in
theorem d_Md_init_395 : decode b_Md_init 395 = .ok (.newarray .int, 2) := by decide +kernel
set_option maxRecDepth 100000 in
theorem d_Md_init_397 : decode b_Md_init 397 = .ok (.putfield 180, 3) := by decide +kernel
set_option maxRecDepth 100000 in
theorem d_Md_init_400 : decode b_Md_init 400 = .ok (.aload_n 0, 1) := by decide +kernel
set_option maxRecDepth 100000 in
theorem d_Md_init_401 : decode b_Md_init 401 = .ok (.bipush 30, 2) := by decide +kernel
set_option maxRecDepth 100000 in
theorem d_Md_init_403 : decode b_Md_init 403 = .ok (.newarray .int, 2) := by decide +kernel
set_option maxRecDepth 100000 in
theorem d_Md_init_405 : decode b_Md_init 405 = .ok (.putfield 183, 3) := by decide +kernel
set_option maxRecDepth 100000 in
theorem d_Md_init_408 : decode b_Md_init 408 = .ok (.iconst 0, 1) := by decide +kernel
set_option maxRecDepth 100000 in
theorem d_Md_init_409 : decode b_Md_init 409 = .ok (.istore_n 1, 1) := by decide +kernel
set_option maxRecDepth 100000 in
theorem d_Md_init_410 : decode b_Md_init 410 = .ok (.iload_n 1, 1) := by decide +kernel
set_option maxRecDepth 100000 in
theorem d_Md_init_411 : decode b_Md_init 411 = .ok (.bipush 40, 2) := by decide +kernel
set_option maxRecDepth 100000 in
theorem d_Md_init_413 : decode b_Md_init 413 = .ok (.if_icmp .ge 23, 3) := by decide +kernel
set_option maxRecDepth 100000 in
theorem d_Md_init_416 : decode b_Md_init 416 = .ok (.aload_n 0, 1) := by decide +kernel
set_option maxRecDepth 100000 in
theorem d_Md_init_417 : decode b_Md_init 417 = .ok (.getfield 61, 3) := by decide +kernel
set_option maxRecDepth 100000 in
theorem d_Md_init_420 : decode b_Md_init 420 = .ok (.iload_n 1, 1) := by decide +kernel
set_option maxRecDepth 100000 in
theorem d_Md_init_421 : decode b_Md_init 421 = .ok (.iconst (-1), 1) := by decide +kernel
set_option maxRecDepth 100000 in
theorem d_Md_init_422 : decode b_Md_init 422 = .ok (.iastore, 1) := by decide +kernel
set_option maxRecDepth 100000 in
theorem d_Md_init_423 : decode b_Md_init 423 = .ok (.aload_n 0, 1) := by decide +kernel
set_option maxRecDepth 100000 in
theorem d_Md_init_424 : decode b_Md_init 424 = .ok (.getfield 79, 3) := by decide +kernel
set_option maxRecDepth 100000 in
theorem d_Md_init_427 : decode b_Md_init 427 = .ok (.iload_n 1, 1) := by decide +kernel
set_option maxRecDepth 100000 in
theorem d_Md_init_428 : decode b_Md_init 428 = .ok (.iconst (-1), 1) := by decide +kernel
set_option maxRecDepth 100000 in
theorem d_Md_init_429 : decode b_Md_init 429 = .ok (.iastore, 1) := by decide +kernel
set_option maxRecDepth 100000 in
theorem d_Md_init_430 : decode b_Md_init 430 = .ok (.iinc 1 1, 3) := by decide +kernel
set_option maxRecDepth 100000 in
theorem d_Md_init_433 : decode b_Md_init 433 = .ok (.goto (-23), 3) := by decide +kernel
set_option maxRecDepth 100000 in
theorem d_Md_init_436 : decode b_Md_init 436 = .ok (.return_, 1) := by decide +kernel
end
section
def manF : List Value := [.int 0, .null, .int (-1), .int 0, .int 0, .int 0, .int 0, .int (-1)]
def XW (a : Nat → Nat) (k : Nat → ClassId) (L : List Nat) : va_W := [((a 0), .inr (0, [.ref (a 1), .ref (a 6), .ref (a 7), .ref (a 8), .ref (a 9), .ref (a 10), .ref (a 12), .int 0, .int 0, .int 0, .int 0, .int 0, .ref (a 15)])), ((a 1), .inr (1, [.ref (a 2), .ref (a 3), .ref (a 4), .ref (a 5), .int 0, .int (-1)])), ((a 2), .inl ((k 2), 12, .inl (fun _ => 0))), ((a 3), .inl ((k 3), 12, .inl (fun _ => 0))), ((a 4), .inl ((k 4), 500, .inr (.inr (.inr (.inr (fun _ => none)))))), ((a 5), .inl ((k 5), 500, .inl (fun _ => 0))), ((a 6), .inl ((k 6), 40, .inr (.inr (.inr (.inr (fun j => L[j]?)))))), ((a 7), .inl ((k 7), 20, .inr (.inr (.inr (.inr (fun _ => none)))))), ((a 8), .inl ((k 8), 20, .inr (.inr (.inr (.inr (fun _ => none)))))), ((a 9), .inl ((k 9), 600, .inr (.inr (.inr (.inr (fun _ => none)))))), ((a 10), .inr (4, [.ref (a 11), .int 0, .int 0, .int 0, .int 0, .int 0])), ((a 11), .inl ((k 11), 400, .inl (fun _ => 0))), ((a 12), .inr (5, [.int 0, .int 0, .int 0, .int 0, .ref (a 13), .ref (a 14), .int 0])), ((a 13), .inl ((k 13), 500, .inl (fun _ => 0))), ((a 14), .inl ((k 14), 30, .inr (.inr (.inr (.inr (fun _ => none)))))), ((a 15), .inr (3, [.int 0, .int 0, .ref (a 16), .ref (a 17), .ref (a 18), .int 0, .int 0, .int 0, .int 0])), ((a 16), .inl ((k 16), 36, .inl (fun _ => 0))), ((a 17), .inl ((k 17), 36, .inl (fun _ => 0))), ((a 18), .inl ((k 18), 9, .inl (fun _ => 0)))] ++ va_pl L (fun _ => .inr (2, manF))
def XT (k : Nat → ClassId) : List (ClassId × FieldType) := [((k 2), .int), ((k 3), .int), ((k 4), .array .int), ((k 5), .boolean), ((k 6), .object R_Mn), ((k 7), .object R_Bt), ((k 8), .object R_Or), ((k 9), .object R_Tr), ((k 11), .byte), ((k 13), .int), ((k 14), .object R_Pn), ((k 16), .int), ((k 17), .int), ((k 18), .int)]
def MW (a : Nat → Nat) (k : Nat → ClassId) : va_W := [((a 0), .inr (7, [.int 0, .int 0, .int 0, .ref (a 1), .int (-1), .ref (a 2), .ref (a 3), .ref (a 4), .ref (a 5), .ref (a 6), .ref (a 7), .ref (a 8), .ref (a 9), .ref (a 10), .ref (a 11), .ref (a 12), .ref (a 13), .ref (a 14), .ref (a 15), .ref (a 16), .ref (a 17), .int 0, .ref (a 18), .ref (a 19), .ref (a 20), .ref (a 21), .ref (a 22), .ref (a 23), .int 0, .int 0, .ref (a 24), .ref (a 25), .ref (a 26), .ref (a 27), .ref (a 28), .ref (a 29), .ref (a 30), .ref (a 31), .ref (a 32), .ref (a 33), .ref (a 34), .ref (a 35), .int 0, .int 0, .int 0, .int 0, .int 0, .int 0, .ref (a 36), .ref (a 37), .ref (a 38), .ref (a 39), .ref (a 40), .ref (a 41), .ref (a 42), .ref (a 43), .long 0, .long 0, .long 0, .ref (a 44), .int 0, .ref (a 45), .ref (a 46), .ref (a 47)])), ((a 1), .inl ((k 1), 12, .inl (fun _ => 0))), ((a 2), .inl ((k 2), 12, .inl (fun _ => 0))), ((a 3), .inl ((k 3), 500, .inl (fun _ => 0))), ((a 4), .inl ((k 4), 6000, .inl (fun _ => 0))), ((a 5), .inl ((k 5), 500, .inl (fun _ => 0))), ((a 6), .inl ((k 6), 40, .inl (fun _ => 0))), ((a 7), .inl ((k 7), 40, .inl (fun _ => (-1)))), ((a 8), .inl ((k 8), 40, .inl (fun _ => 0))), ((a 9), .inl ((k 9), 40, .inl (fun _ => 0))), ((a 10), .inl ((k 10), 240, .inl (fun _ => 0))), ((a 11), .inl ((k 11), 240, .inl (fun _ => 0))), ((a 12), .inl ((k 12), 40, .inl (fun _ => 0))), ((a 13), .inl ((k 13), 40, .inl (fun _ => (-1)))), ((a 14), .inl ((k 14), 40, .inl (fun _ => 0))), ((a 15), .inl ((k 15), 40, .inl (fun _ => 0))), ((a 16), .inl ((k 16), 12, .inl (fun _ => 0))), ((a 17), .inl ((k 17), 480, .inl (fun _ => 0))), ((a 18), .inl ((k 18), 20, .inl (fun _ => 0))), ((a 19), .inl ((k 19), 20, .inl (fun _ => 0))), ((a 20), .inl ((k 20), 20, .inl (fun _ => 0))), ((a 21), .inl ((k 21), 20, .inl (fun _ => 0))), ((a 22), .inl ((k 22), 20, .inl (fun _ => 0))), ((a 23), .inl ((k 23), 400, .inl (fun _ => 0))), ((a 24), .inl ((k 24), 20, .inl (fun _ => 0))), ((a 25), .inl ((k 25), 20, .inl (fun _ => 0))), ((a 26), .inl ((k 26), 20, .inl (fun _ => 0))), ((a 27), .inl ((k 27), 240, .inl (fun _ => 0))), ((a 28), .inl ((k 28), 240, .inl (fun _ => 0))), ((a 29), .inl ((k 29), 240, .inl (fun _ => 0))), ((a 30), .inl ((k 30), 20, .inl (fun _ => 0))), ((a 31), .inl ((k 31), 240, .inl (fun _ => 0))), ((a 32), .inl ((k 32), 240, .inl (fun _ => 0))), ((a 33), .inl ((k 33), 240, .inl (fun _ => 0))), ((a 34), .inl ((k 34), 180, .inl (fun _ => 0))), ((a 35), .inl ((k 35), 20, .inl (fun _ => 0))), ((a 36), .inl ((k 36), 600, .inl (fun _ => 0))), ((a 37), .inl ((k 37), 600, .inl (fun _ => 0))), ((a 38), .inl ((k 38), 600, .inl (fun _ => 0))), ((a 39), .inl ((k 39), 600, .inl (fun _ => 0))), ((a 40), .inl ((k 40), 600, .inl (fun _ => 0))), ((a 41), .inl ((k 41), 600, .inl (fun _ => 0))), ((a 42), .inl ((k 42), 600, .inl (fun _ => 0))), ((a 43), .inl ((k 43), 600, .inl (fun _ => 0))), ((a 44), .inl ((k 44), 500, .inr (.inl (fun _ => 0)))), ((a 45), .inl ((k 45), 30, .inl (fun _ => 0))), ((a 46), .inl ((k 46), 30, .inl (fun _ => 0))), ((a 47), .inl ((k 47), 30, .inl (fun _ => 0)))]
def MT (k : Nat → ClassId) : List (ClassId × FieldType) := [((k 1), .int), ((k 2), .int), ((k 3), .boolean), ((k 4), .int), ((k 5), .boolean), ((k 6), .int), ((k 7), .int), ((k 8), .int), ((k 9), .int), ((k 10), .int), ((k 11), .int), ((k 12), .int), ((k 13), .int), ((k 14), .int), ((k 15), .boolean), ((k 16), .int), ((k 17), .int), ((k 18), .int), ((k 19), .int), ((k 20), .int), ((k 21), .int), ((k 22), .boolean), ((k 23), .byte), ((k 24), .int), ((k 25), .int), ((k 26), .int), ((k 27), .int), ((k 28), .int), ((k 29), .int), ((k 30), .int), ((k 31), .int), ((k 32), .int), ((k 33), .int), ((k 34), .int), ((k 35), .int), ((k 36), .int), ((k 37), .int), ((k 38), .int), ((k 39), .int), ((k 40), .int), ((k 41), .int), ((k 42), .int), ((k 43), .boolean), ((k 44), .long), ((k 45), .int), ((k 46), .int), ((k 47), .int)]
theorem xw_man {a : Nat → Nat} {k : Nat → ClassId} {L : List Nat} (hL : L.length = 40) {i : Int32} (h : vp_in i 40) : ∃ (q kx : Nat), L[i.toNatClampNeg]? = some q ∧ (XW a k L)[kx]? = some (q, .inr (2, manF)) := by
  have hlt : i.toNatClampNeg < L.length := by rw [hL]; exact Nat.not_le.mp fun q => h (Or.inr q)
  obtain ⟨kx, hk⟩ := va_pl_get (X := [((a 0), .inr (0, [.ref (a 1), .ref (a 6), .ref (a 7), .ref (a 8), .ref (a 9), .ref (a 10), .ref (a 12), .int 0, .int 0, .int 0, .int 0, .int 0, .ref (a 15)])), ((a 1), .inr (1, [.ref (a 2), .ref (a 3), .ref (a 4), .ref (a 5), .int 0, .int (-1)])), ((a 2), .inl ((k 2), 12, .inl (fun _ => 0))), ((a 3), .inl ((k 3), 12, .inl (fun _ => 0))), ((a 4), .inl ((k 4), 500, .inr (.inr (.inr (.inr (fun _ => none)))))), ((a 5), .inl ((k 5), 500, .inl (fun _ => 0))), ((a 6), .inl ((k 6), 40, .inr (.inr (.inr (.inr (fun j => L[j]?)))))), ((a 7), .inl ((k 7), 20, .inr (.inr (.inr (.inr (fun _ => none)))))), ((a 8), .inl ((k 8), 20, .inr (.inr (.inr (.inr (fun _ => none)))))), ((a 9), .inl ((k 9), 600, .inr (.inr (.inr (.inr (fun _ => none)))))), ((a 10), .inr (4, [.ref (a 11), .int 0, .int 0, .int 0, .int 0, .int 0])), ((a 11), .inl ((k 11), 400, .inl (fun _ => 0))), ((a 12), .inr (5, [.int 0, .int 0, .int 0, .int 0, .ref (a 13), .ref (a 14), .int 0])), ((a 13), .inl ((k 13), 500, .inl (fun _ => 0))), ((a 14), .inl ((k 14), 30, .inr (.inr (.inr (.inr (fun _ => none)))))), ((a 15), .inr (3, [.int 0, .int 0, .ref (a 16), .ref (a 17), .ref (a 18), .int 0, .int 0, .int 0, .int 0])), ((a 16), .inl ((k 16), 36, .inl (fun _ => 0))), ((a 17), .inl ((k 17), 36, .inl (fun _ => 0))), ((a 18), .inl ((k 18), 9, .inl (fun _ => 0)))]) (f := fun _ => .inr (2, manF)) (List.getElem_mem hlt)
  exact ⟨_, kx, List.getElem?_eq_getElem hlt, hk⟩
end
section
set_option maxHeartbeats 4000000 in
set_option maxRecDepth 100000 in
theorem c_Md_init (l : Launch) (dC : Nat → ClassId) (dI : Nat → Nat → Nat) (h_0 : Nat) (sz : Nat)   : Met l y_Md_init (.code y_Md_init b_Md_init 2 none :: TB) ({ frames := 1, cells := 47, slots := 15926, locals := 12 }) (va_Pc [.ref h_0] (PC dC dI [(h_0, .inr (7, [.int 0, .int 0, .int 0, .null, .int 0, .null, .null, .null, .null, .null, .null, .null, .null, .null, .null, .null, .null, .null, .null, .null, .null, .int 0, .null, .null, .null, .null, .null, .null, .int 0, .int 0, .null, .null, .null, .null, .null, .null, .null, .null, .null, .null, .null, .null, .int 0, .int 0, .int 0, .int 0, .int 0, .int 0, .null, .null, .null, .null, .null, .null, .null, .null, .long 0, .long 0, .long 0, .null, .int 0, .null, .null, .null]))] [] sz)) (va_Qv (fun (_ : Unit) => True) (fun (_ : Unit) t => ∃ (a : Nat → Nat) (k : Nat → ClassId), a 0 = h_0 ∧ va_P (dC, dI) vwCl (MW a k) t.heap ∧ va_K (dC, dI) vwCl (MT k) t ∧ va_D (va_A [(h_0, .inr (7, [.int 0, .int 0, .int 0, .null, .int 0, .null, .null, .null, .null, .null, .null, .null, .null, .null, .null, .null, .null, .null, .null, .null, .null, .int 0, .null, .null, .null, .null, .null, .null, .int 0, .int 0, .null, .null, .null, .null, .null, .null, .null, .null, .null, .null, .null, .null, .int 0, .int 0, .int 0, .int 0, .int 0, .int 0, .null, .null, .null, .null, .null, .null, .null, .null, .long 0, .long 0, .long 0, .null, .int 0, .null, .null, .null]))] sz) (MW a k)) (va_A [(h_0, .inr (7, [.int 0, .int 0, .int 0, .null, .int 0, .null, .null, .null, .null, .null, .null, .null, .null, .null, .null, .null, .null, .null, .null, .null, .null, .int 0, .null, .null, .null, .null, .null, .null, .int 0, .int 0, .null, .null, .null, .null, .null, .null, .null, .null, .null, .null, .null, .null, .int 0, .int 0, .int 0, .int 0, .int 0, .int 0, .null, .null, .null, .null, .null, .null, .null, .null, .long 0, .long 0, .long 0, .null, .int 0, .null, .null, .null]))] sz)) 47 15926 (va_A [(h_0, .inr (7, [.int 0, .int 0, .int 0, .null, .int 0, .null, .null, .null, .null, .null, .null, .null, .null, .null, .null, .null, .null, .null, .null, .null, .null, .int 0, .null, .null, .null, .null, .null, .null, .int 0, .int 0, .null, .null, .null, .null, .null, .null, .null, .null, .null, .null, .null, .null, .int 0, .int 0, .int 0, .int 0, .int 0, .int 0, .null, .null, .null, .null, .null, .null, .null, .null, .long 0, .long 0, .long 0, .null, .int 0, .null, .null, .null]))] sz) := by
  refine Met.ofW (cc := b_Md_init) (maxL := 2) (ret := none) (by decide) rfl ?_
  intro p e s m args below meth c s₁ B hml hv
  obtain ⟨rfl, hsz, hP, hK, hD0, hN⟩ := hv
  have hx := B.exec
  have hb := B.bytes
  have hr := B.returns
  have hts := atoms_spec (ws := (.code y_Md_init b_Md_init 2 none :: TB)) B.pre
  have htb := fun w (h : w ∈ TB) => hts w (List.mem_cons_of_mem _ h)
  have hown : s.vm.findClass R_Md = some m.cls := findClass_of_methodNamed B.named
  have hlocks := B.notSynchronized
  have hin : meth.name = "<init>" := (name_of_methodNamed B.named B.method).1
  have hl := lv_entry ([.ref h_0]) (n := 2) (Nat.le_of_ble_eq_true rfl)
  rw [lg_entry_eq]
  generalize (lg_sl ([.ref h_0]) ++ List.replicate (2 - (lg_sl ([.ref h_0])).length) Slot.unset).toArray = ls at hl ⊢
  have hl : lv_has ls 2 [(0, .ref h_0)] := hl
  subst hsz
  have hD := hD0.self (sz := s.heap.size)
  obtain ⟨A, hAe⟩ : ∃ A, va_A [(h_0, .inr (7, [.int 0, .int 0, .int 0, .null, .int 0, .null, .null, .null, .null, .null, .null, .null, .null, .null, .null, .null, .null, .null, .null, .null, .null, .int 0, .null, .null, .null, .null, .null, .null, .int 0, .int 0, .null, .null, .null, .null, .null, .null, .null, .null, .null, .null, .null, .null, .int 0, .int 0, .int 0, .int 0, .int 0, .int 0, .null, .null, .null, .null, .null, .null, .null, .null, .long 0, .long 0, .long 0, .null, .int 0, .null, .null, .null]))] s.heap.size = A := ⟨_, rfl⟩
  rw [hAe] at hD
  have hA : ∀ q : Nat, s.heap.size ≤ q → A q := fun q h => by rw [← hAe]; exact Or.inr h
  have hS : va_S A s.heap s.heap [] := va_S.rf
  have hP := hP
  obtain ⟨F_0, hF_0⟩ : ∃ F : List Value, F = [.int 0, .int 0, .int 0, .null, .int 0, .null, .null, .null, .null, .null, .null, .null, .null, .null, .null, .null, .null, .null, .null, .null, .null, .int 0, .null, .null, .null, .null, .null, .null, .int 0, .int 0, .null, .null, .null, .null, .null, .null, .null, .null, .null, .null, .null, .null, .int 0, .int 0, .int 0, .int 0, .int 0, .int 0, .null, .null, .null, .null, .null, .null, .null, .null, .long 0, .long 0, .long 0, .null, .int 0, .null, .null, .null] := ⟨_, rfl⟩
  have hl_0 : F_0.length = 64 := by rw [hF_0]; rfl
  obtain ⟨R_0, hR_0⟩ : ∃ R : va_W, R = [] := ⟨_, rfl⟩
  obtain ⟨T_0, hT_0⟩ : ∃ T : List (ClassId × FieldType), T = [] := ⟨_, rfl⟩
  have hP : va_P (dC, dI) vwCl ((h_0, .inr (7, F_0)) :: R_0) s.heap := by rw [hF_0, hR_0]; exact hP
  have hD : va_D A ((h_0, .inr (7, F_0)) :: R_0) := by rw [hF_0, hR_0]; exact hD
  have hK : va_K (dC, dI) vwCl T_0 s := by rw [hT_0]; exact hK
  refine lv_aload_n hx hb d_Md_init_0 rfl (lv_at hl 0 rfl) ?_
  refine W.objInit hx hb hown (htb (.methodLink R_Md 52 objectInit) tw_0) (htb (.instanceMethod objectInit) tw_1) (htb (.code objectInit ⟨#[0xb1]⟩ 1 none) tw_2) rfl (by rw [hml]; exact hl.1) rfl d_Md_init_1 (Nat.le_of_ble_eq_true rfl) (Nat.le_of_ble_eq_true rfl) ?_
  refine W.eq (g2 := F0 m 4 ls []) rfl ?_
  refine lv_aload_n hx hb d_Md_init_4 rfl (lv_at hl 0 rfl) ?_
  refine lv_bipush (v := 12) hx hb d_Md_init_5 (by decide +kernel) ?_
  refine va_newa (atype := .int) (ty := .int) (N' := 12) (a0 := (12, .inl (fun _ => 0))) hx hb (htb (.arrayClass .int) tw_3) rfl hK hP hD hS hA (fun _ => rfl) (by decide +kernel) (by decide +kernel) (by decide +kernel) (by decide +kernel) (by decide +kernel) d_Md_init_7 (fun q_1 k_2 H hK hP hD hS => ?_)
  refine W.widen (k := 1) (n := 12) (by decide +kernel) (by decide +kernel) ?_
  obtain ⟨R_1, hR_1⟩ : ∃ R : va_W, R = [(q_1, .inl (k_2, 12, .inl (fun _ => 0)))] := ⟨_, rfl⟩
  have eR : R_0 ++ [(q_1, .inl (k_2, 12, .inl (fun _ => 0)))] = R_1 := by rw [hR_0, hR_1]; rfl
  have hP : va_P (dC, dI) vwCl ((h_0, .inr (7, F_0)) :: R_1) H := by rw [← eR]; exact hP
  have hD : va_D A ((h_0, .inr (7, F_0)) :: R_1) := by rw [← eR]; exact hD
  obtain ⟨T_1, hT_1⟩ : ∃ T : List (ClassId × FieldType), T = [(k_2, .int)] := ⟨_, rfl⟩
  have hK : va_K (dC, dI) vwCl T_1 s := by rw [show T_1 = T_0 ++ [(k_2, .int)] from by rw [hT_0, hT_1]; rfl]; exact hK
  clear eR hR_0 hT_0
  refine va_putF (D := (dC, dI)) (ci := 7) (v := .ref q_1) (ty := .array (.int)) (C := R_Md) (T := F_Md) (N := 64) (fs := F_0) hx hb htb i_Md t_Md t_Md_ok n_Md hown hK hP hD hS 0 rfl rfl 3 (by decide) (htb (.fieldLink R_Md 32 "WaterMenModel" "miles" "[I") tw_4) (fun _ h9 => h9) rfl hin rfl (by decide +kernel) rfl rfl (by omega) d_Md_init_9 (fun H locs hP hD hS => ?_)
  obtain ⟨F_1, hF_1⟩ : ∃ F : List Value, F = [.int 0, .int 0, .int 0, .ref q_1, .int 0, .null, .null, .null, .null, .null, .null, .null, .null, .null, .null, .null, .null, .null, .null, .null, .null, .int 0, .null, .null, .null, .null, .null, .null, .int 0, .int 0, .null, .null, .null, .null, .null, .null, .null, .null, .null, .null, .null, .null, .int 0, .int 0, .int 0, .int 0, .int 0, .int 0, .null, .null, .null, .null, .null, .null, .null, .null, .long 0, .long 0, .long 0, .null, .int 0, .null, .null, .null] := ⟨_, rfl⟩
  have eF : F_0.set 3 (.ref q_1) = F_1 := by rw [hF_0, hF_1]; rfl
  have hP : va_P (dC, dI) vwCl ((h_0, .inr (7, F_1)) :: R_1) H := by rw [← eF]; exact hP
  have hD : va_D A ((h_0, .inr (7, F_1)) :: R_1) := by rw [← eF]; exact hD
  have hl_1 : F_1.length = 64 := by rw [hF_1]; rfl
  clear eF hF_0 hl_0
  refine lv_aload_n hx hb d_Md_init_12 rfl (lv_at hl 0 rfl) ?_
  refine lv_iconst (v := (-1)) hx hb d_Md_init_13 (by decide +kernel) ?_
  refine va_put (D := (dC, dI)) (ci := 7) (v := .int (-1)) (ty := .int) (C := R_Md) (T := F_Md) (N := 64) (fs := F_1) hx hb htb i_Md t_Md t_Md_ok n_Md hown hK hP hD hS 0 rfl rfl 4 (by decide) (htb (.fieldLink R_Md 35 "WaterMenModel" "bridge" "I") tw_5) (fun _ h9 => h9) rfl (by decide +kernel) rfl rfl (by omega) d_Md_init_14 (fun H locs hP hD hS => ?_)
  obtain ⟨F_2, hF_2⟩ : ∃ F : List Value, F = [.int 0, .int 0, .int 0, .ref q_1, .int (-1), .null, .null, .null, .null, .null, .null, .null, .null, .null, .null, .null, .null, .null, .null, .null, .null, .int 0, .null, .null, .null, .null, .null, .null, .int 0, .int 0, .null, .null, .null, .null, .null, .null, .null, .null, .null, .null, .null, .null, .int 0, .int 0, .int 0, .int 0, .int 0, .int 0, .null, .null, .null, .null, .null, .null, .null, .null, .long 0, .long 0, .long 0, .null, .int 0, .null, .null, .null] := ⟨_, rfl⟩
  have eF : F_1.set 4 (.int (-1)) = F_2 := by rw [hF_1, hF_2]; rfl
  have hP : va_P (dC, dI) vwCl ((h_0, .inr (7, F_2)) :: R_1) H := by rw [← eF]; exact hP
  have hD : va_D A ((h_0, .inr (7, F_2)) :: R_1) := by rw [← eF]; exact hD
  have hl_2 : F_2.length = 64 := by rw [hF_2]; rfl
  clear eF hF_1 hl_1
  refine lv_aload_n hx hb d_Md_init_17 rfl (lv_at hl 0 rfl) ?_
  refine lv_bipush (v := 12) hx hb d_Md_init_18 (by decide +kernel) ?_
  refine va_newa (atype := .int) (ty := .int) (N' := 12) (a0 := (12, .inl (fun _ => 0))) hx hb (htb (.arrayClass .int) tw_3) rfl hK hP hD hS hA (fun _ => rfl) (by decide +kernel) (by decide +kernel) (by decide +kernel) (by decide +kernel) (by decide +kernel) d_Md_init_20 (fun q_3 k_4 H hK hP hD hS => ?_)
  refine W.widen (k := 2) (n := 24) (by decide +kernel) (by decide +kernel) ?_
  obtain ⟨R_2, hR_2⟩ : ∃ R : va_W, R = [(q_1, .inl (k_2, 12, .inl (fun _ => 0))), (q_3, .inl (k_4, 12, .inl (fun _ => 0)))] := ⟨_, rfl⟩
  have eR : R_1 ++ [(q_3, .inl (k_4, 12, .inl (fun _ => 0)))] = R_2 := by rw [hR_1, hR_2]; rfl
  have hP : va_P (dC, dI) vwCl ((h_0, .inr (7, F_2)) :: R_2) H := by rw [← eR]; exact hP
  have hD : va_D A ((h_0, .inr (7, F_2)) :: R_2) := by rw [← eR]; exact hD
  obtain ⟨T_2, hT_2⟩ : ∃ T : List (ClassId × FieldType), T = [(k_2, .int), (k_4, .int)] := ⟨_, rfl⟩
  have hK : va_K (dC, dI) vwCl T_2 s := by rw [show T_2 = T_1 ++ [(k_4, .int)] from by rw [hT_1, hT_2]; rfl]; exact hK
  clear eR hR_1 hT_1
  refine va_putF (D := (dC, dI)) (ci := 7) (v := .ref q_3) (ty := .array (.int)) (C := R_Md) (T := F_Md) (N := 64) (fs := F_2) hx hb htb i_Md t_Md t_Md_ok n_Md hown hK hP hD hS 0 rfl rfl 5 (by decide) (htb (.fieldLink R_Md 25 "WaterMenModel" "table" "[I") tw_6) (fun _ h9 => h9) rfl hin rfl (by decide +kernel) rfl rfl (by omega) d_Md_init_22 (fun H locs hP hD hS => ?_)
  obtain ⟨F_3, hF_3⟩ : ∃ F : List Value, F = [.int 0, .int 0, .int 0, .ref q_1, .int (-1), .ref q_3, .null, .null, .null, .null, .null, .null, .null, .null, .null, .null, .null, .null, .null, .null, .null, .int 0, .null, .null, .null, .null, .null, .null, .int 0, .int 0, .null, .null, .null, .null, .null, .null, .null, .null, .null, .null, .null, .null, .int 0, .int 0, .int 0, .int 0, .int 0, .int 0, .null, .null, .null, .null, .null, .null, .null, .null, .long 0, .long 0, .long 0, .null, .int 0, .null, .null, .null] := ⟨_, rfl⟩
  have eF : F_2.set 5 (.ref q_3) = F_3 := by rw [hF_2, hF_3]; rfl
  have hP : va_P (dC, dI) vwCl ((h_0, .inr (7, F_3)) :: R_2) H := by rw [← eF]; exact hP
  have hD : va_D A ((h_0, .inr (7, F_3)) :: R_2) := by rw [← eF]; exact hD
  have hl_3 : F_3.length = 64 := by rw [hF_3]; rfl
  clear eF hF_2 hl_2
  refine lv_aload_n hx hb d_Md_init_25 rfl (lv_at hl 0 rfl) ?_
  refine lv_sipush (v := 500) hx hb d_Md_init_26 (by decide +kernel) ?_
  refine va_newa (atype := .boolean) (ty := .boolean) (N' := 500) (a0 := (500, .inl (fun _ => 0))) hx hb (htb (.arrayClass .boolean) tw_7) rfl hK hP hD hS hA (fun _ => rfl) (by decide +kernel) (by decide +kernel) (by decide +kernel) (by decide +kernel) (by decide +kernel) d_Md_init_29 (fun q_5 k_6 H hK hP hD hS => ?_)
  refine W.widen (k := 3) (n := 524) (by decide +kernel) (by decide +kernel) ?_
  obtain ⟨R_3, hR_3⟩ : ∃ R : va_W, R = [(q_1, .inl (k_2, 12, .inl (fun _ => 0))), (q_3, .inl (k_4, 12, .inl (fun _ => 0))), (q_5, .inl (k_6, 500, .inl (fun _ => 0)))] := ⟨_, rfl⟩
  have eR : R_2 ++ [(q_5, .inl (k_6, 500, .inl (fun _ => 0)))] = R_3 := by rw [hR_2, hR_3]; rfl
  have hP : va_P (dC, dI) vwCl ((h_0, .inr (7, F_3)) :: R_3) H := by rw [← eR]; exact hP
  have hD : va_D A ((h_0, .inr (7, F_3)) :: R_3) := by rw [← eR]; exact hD
  obtain ⟨T_3, hT_3⟩ : ∃ T : List (ClassId × FieldType), T = [(k_2, .int), (k_4, .int), (k_6, .boolean)] := ⟨_, rfl⟩
  have hK : va_K (dC, dI) vwCl T_3 s := by rw [show T_3 = T_2 ++ [(k_6, .boolean)] from by rw [hT_2, hT_3]; rfl]; exact hK
  clear eR hR_2 hT_2
  refine va_putF (D := (dC, dI)) (ci := 7) (v := .ref q_5) (ty := .array (.boolean)) (C := R_Md) (T := F_Md) (N := 64) (fs := F_3) hx hb htb i_Md t_Md t_Md_ok n_Md hown hK hP hD hS 0 rfl rfl 6 (by decide) (htb (.fieldLink R_Md 17 "WaterMenModel" "hasRow" "[Z") tw_8) (fun _ h9 => h9) rfl hin rfl (by decide +kernel) rfl rfl (by omega) d_Md_init_31 (fun H locs hP hD hS => ?_)
  obtain ⟨F_4, hF_4⟩ : ∃ F : List Value, F = [.int 0, .int 0, .int 0, .ref q_1, .int (-1), .ref q_3, .ref q_5, .null, .null, .null, .null, .null, .null, .null, .null, .null, .null, .null, .null, .null, .null, .int 0, .null, .null, .null, .null, .null, .null, .int 0, .int 0, .null, .null, .null, .null, .null, .null, .null, .null, .null, .null, .null, .null, .int 0, .int 0, .int 0, .int 0, .int 0, .int 0, .null, .null, .null, .null, .null, .null, .null, .null, .long 0, .long 0, .long 0, .null, .int 0, .null, .null, .null] := ⟨_, rfl⟩
  have eF : F_3.set 6 (.ref q_5) = F_4 := by rw [hF_3, hF_4]; rfl
  have hP : va_P (dC, dI) vwCl ((h_0, .inr (7, F_4)) :: R_3) H := by rw [← eF]; exact hP
  have hD : va_D A ((h_0, .inr (7, F_4)) :: R_3) := by rw [← eF]; exact hD
  have hl_4 : F_4.length = 64 := by rw [hF_4]; rfl
  clear eF hF_3 hl_3
  refine lv_aload_n hx hb d_Md_init_34 rfl (lv_at hl 0 rfl) ?_
  refine lv_sipush (v := 6000) hx hb d_Md_init_35 (by decide +kernel) ?_
  refine va_newa (atype := .int) (ty := .int) (N' := 6000) (a0 := (6000, .inl (fun _ => 0))) hx hb (htb (.arrayClass .int) tw_3) rfl hK hP hD hS hA (fun _ => rfl) (by decide +kernel) (by decide +kernel) (by decide +kernel) (by decide +kernel) (by decide +kernel) d_Md_init_38 (fun q_7 k_8 H hK hP hD hS => ?_)
  refine W.widen (k := 4) (n := 6524) (by decide +kernel) (by decide +kernel) ?_
  obtain ⟨R_4, hR_4⟩ : ∃ R : va_W, R = [(q_1, .inl (k_2, 12, .inl (fun _ => 0))), (q_3, .inl (k_4, 12, .inl (fun _ => 0))), (q_5, .inl (k_6, 500, .inl (fun _ => 0))), (q_7, .inl (k_8, 6000, .inl (fun _ => 0)))] := ⟨_, rfl⟩
  have eR : R_3 ++ [(q_7, .inl (k_8, 6000, .inl (fun _ => 0)))] = R_4 := by rw [hR_3, hR_4]; rfl
  have hP : va_P (dC, dI) vwCl ((h_0, .inr (7, F_4)) :: R_4) H := by rw [← eR]; exact hP
  have hD : va_D A ((h_0, .inr (7, F_4)) :: R_4) := by rw [← eR]; exact hD
  obtain ⟨T_4, hT_4⟩ : ∃ T : List (ClassId × FieldType), T = [(k_2, .int), (k_4, .int), (k_6, .boolean), (k_8, .int)] := ⟨_, rfl⟩
  have hK : va_K (dC, dI) vwCl T_4 s := by rw [show T_4 = T_3 ++ [(k_8, .int)] from by rw [hT_3, hT_4]; rfl]; exact hK
  clear eR hR_3 hT_3
  refine va_putF (D := (dC, dI)) (ci := 7) (v := .ref q_7) (ty := .array (.int)) (C := R_Md) (T := F_Md) (N := 64) (fs := F_4) hx hb htb i_Md t_Md t_Md_ok n_Md hown hK hP hD hS 0 rfl rfl 7 (by decide) (htb (.fieldLink R_Md 21 "WaterMenModel" "rows" "[I") tw_9) (fun _ h9 => h9) rfl hin rfl (by decide +kernel) rfl rfl (by omega) d_Md_init_40 (fun H locs hP hD hS => ?_)
  obtain ⟨F_5, hF_5⟩ : ∃ F : List Value, F = [.int 0, .int 0, .int 0, .ref q_1, .int (-1), .ref q_3, .ref q_5, .ref q_7, .null, .null, .null, .null, .null, .null, .null, .null, .null, .null, .null, .null, .null, .int 0, .null, .null, .null, .null, .null, .null, .int 0, .int 0, .null, .null, .null, .null, .null, .null, .null, .null, .null, .null, .null, .null, .int 0, .int 0, .int 0, .int 0, .int 0, .int 0, .null, .null, .null, .null, .null, .null, .null, .null, .long 0, .long 0, .long 0, .null, .int 0, .null, .null, .null] := ⟨_, rfl⟩
  have eF : F_4.set 7 (.ref q_7) = F_5 := by rw [hF_4, hF_5]; rfl
  have hP : va_P (dC, dI) vwCl ((h_0, .inr (7, F_5)) :: R_4) H := by rw [← eF]; exact hP
  have hD : va_D A ((h_0, .inr (7, F_5)) :: R_4) := by rw [← eF]; exact hD
  have hl_5 : F_5.length = 64 := by rw [hF_5]; rfl
  clear eF hF_4 hl_4
  refine lv_aload_n hx hb d_Md_init_43 rfl (lv_at hl 0 rfl) ?_
  refine lv_sipush (v := 500) hx hb d_Md_init_44 (by decide +kernel) ?_
  refine va_newa (atype := .boolean) (ty := .boolean) (N' := 500) (a0 := (500, .inl (fun _ => 0))) hx hb (htb (.arrayClass .boolean) tw_7) rfl hK hP hD hS hA (fun _ => rfl) (by decide +kernel) (by decide +kernel) (by decide +kernel) (by decide +kernel) (by decide +kernel) d_Md_init_47 (fun q_9 k_10 H hK hP hD hS => ?_)
  refine W.widen (k := 5) (n := 7024) (by decide +kernel) (by decide +kernel) ?_
  obtain ⟨R_5, hR_5⟩ : ∃ R : va_W, R = [(q_1, .inl (k_2, 12, .inl (fun _ => 0))), (q_3, .inl (k_4, 12, .inl (fun _ => 0))), (q_5, .inl (k_6, 500, .inl (fun _ => 0))), (q_7, .inl (k_8, 6000, .inl (fun _ => 0))), (q_9, .inl (k_10, 500, .inl (fun _ => 0)))] := ⟨_, rfl⟩
  have eR : R_4 ++ [(q_9, .inl (k_10, 500, .inl (fun _ => 0)))] = R_5 := by rw [hR_4, hR_5]; rfl
  have hP : va_P (dC, dI) vwCl ((h_0, .inr (7, F_5)) :: R_5) H := by rw [← eR]; exact hP
  have hD : va_D A ((h_0, .inr (7, F_5)) :: R_5) := by rw [← eR]; exact hD
  obtain ⟨T_5, hT_5⟩ : ∃ T : List (ClassId × FieldType), T = [(k_2, .int), (k_4, .int), (k_6, .boolean), (k_8, .int), (k_10, .boolean)] := ⟨_, rfl⟩
  have hK : va_K (dC, dI) vwCl T_5 s := by rw [show T_5 = T_4 ++ [(k_10, .boolean)] from by rw [hT_4, hT_5]; rfl]; exact hK
  clear eR hR_4 hT_4
  refine va_putF (D := (dC, dI)) (ci := 7) (v := .ref q_9) (ty := .array (.boolean)) (C := R_Md) (T := F_Md) (N := 64) (fs := F_5) hx hb htb i_Md t_Md t_Md_ok n_Md hown hK hP hD hS 0 rfl rfl 8 (by decide) (htb (.fieldLink R_Md 49 "WaterMenModel" "frosts" "[Z") tw_10) (fun _ h9 => h9) rfl hin rfl (by decide +kernel) rfl rfl (by omega) d_Md_init_49 (fun H locs hP hD hS => ?_)
  obtain ⟨F_6, hF_6⟩ : ∃ F : List Value, F = [.int 0, .int 0, .int 0, .ref q_1, .int (-1), .ref q_3, .ref q_5, .ref q_7, .ref q_9, .null, .null, .null, .null, .null, .null, .null, .null, .null, .null, .null, .null, .int 0, .null, .null, .null, .null, .null, .null, .int 0, .int 0, .null, .null, .null, .null, .null, .null, .null, .null, .null, .null, .null, .null, .int 0, .int 0, .int 0, .int 0, .int 0, .int 0, .null, .null, .null, .null, .null, .null, .null, .null, .long 0, .long 0, .long 0, .null, .int 0, .null, .null, .null] := ⟨_, rfl⟩
  have eF : F_5.set 8 (.ref q_9) = F_6 := by rw [hF_5, hF_6]; rfl
  have hP : va_P (dC, dI) vwCl ((h_0, .inr (7, F_6)) :: R_5) H := by rw [← eF]; exact hP
  have hD : va_D A ((h_0, .inr (7, F_6)) :: R_5) := by rw [← eF]; exact hD
  have hl_6 : F_6.length = 64 := by rw [hF_6]; rfl
  clear eF hF_5 hl_5
  refine lv_aload_n hx hb d_Md_init_52 rfl (lv_at hl 0 rfl) ?_
  refine lv_bipush (v := 40) hx hb d_Md_init_53 (by decide +kernel) ?_
  refine va_newa (atype := .int) (ty := .int) (N' := 40) (a0 := (40, .inl (fun _ => 0))) hx hb (htb (.arrayClass .int) tw_3) rfl hK hP hD hS hA (fun _ => rfl) (by decide +kernel) (by decide +kernel) (by decide +kernel) (by decide +kernel) (by decide +kernel) d_Md_init_55 (fun q_11 k_12 H hK hP hD hS => ?_)
  refine W.widen (k := 6) (n := 7064) (by decide +kernel) (by decide +kernel) ?_
  obtain ⟨R_6, hR_6⟩ : ∃ R : va_W, R = [(q_1, .inl (k_2, 12, .inl (fun _ => 0))), (q_3, .inl (k_4, 12, .inl (fun _ => 0))), (q_5, .inl (k_6, 500, .inl (fun _ => 0))), (q_7, .inl (k_8, 6000, .inl (fun _ => 0))), (q_9, .inl (k_10, 500, .inl (fun _ => 0))), (q_11, .inl (k_12, 40, .inl (fun _ => 0)))] := ⟨_, rfl⟩
  have eR : R_5 ++ [(q_11, .inl (k_12, 40, .inl (fun _ => 0)))] = R_6 := by rw [hR_5, hR_6]; rfl
  have hP : va_P (dC, dI) vwCl ((h_0, .inr (7, F_6)) :: R_6) H := by rw [← eR]; exact hP
  have hD : va_D A ((h_0, .inr (7, F_6)) :: R_6) := by rw [← eR]; exact hD
  obtain ⟨T_6, hT_6⟩ : ∃ T : List (ClassId × FieldType), T = [(k_2, .int), (k_4, .int), (k_6, .boolean), (k_8, .int), (k_10, .boolean), (k_12, .int)] := ⟨_, rfl⟩
  have hK : va_K (dC, dI) vwCl T_6 s := by rw [show T_6 = T_5 ++ [(k_12, .int)] from by rw [hT_5, hT_6]; rfl]; exact hK
  clear eR hR_5 hT_5
  refine va_putF (D := (dC, dI)) (ci := 7) (v := .ref q_11) (ty := .array (.int)) (C := R_Md) (T := F_Md) (N := 64) (fs := F_6) hx hb htb i_Md t_Md t_Md_ok n_Md hown hK hP hD hS 0 rfl rfl 9 (by decide) (htb (.fieldLink R_Md 58 "WaterMenModel" "state" "[I") tw_11) (fun _ h9 => h9) rfl hin rfl (by decide +kernel) rfl rfl (by omega) d_Md_init_57 (fun H locs hP hD hS => ?_)
  obtain ⟨F_7, hF_7⟩ : ∃ F : List Value, F = [.int 0, .int 0, .int 0, .ref q_1, .int (-1), .ref q_3, .ref q_5, .ref q_7, .ref q_9, .ref q_11, .null, .null, .null, .null, .null, .null, .null, .null, .null, .null, .null, .int 0, .null, .null, .null, .null, .null, .null, .int 0, .int 0, .null, .null, .null, .null, .null, .null, .null, .null, .null, .null, .null, .null, .int 0, .int 0, .int 0, .int 0, .int 0, .int 0, .null, .null, .null, .null, .null, .null, .null, .null, .long 0, .long 0, .long 0, .null, .int 0, .null, .null, .null] := ⟨_, rfl⟩
  have eF : F_6.set 9 (.ref q_11) = F_7 := by rw [hF_6, hF_7]; rfl
  have hP : va_P (dC, dI) vwCl ((h_0, .inr (7, F_7)) :: R_6) H := by rw [← eF]; exact hP
  have hD : va_D A ((h_0, .inr (7, F_7)) :: R_6) := by rw [← eF]; exact hD
  have hl_7 : F_7.length = 64 := by rw [hF_7]; rfl
  clear eF hF_6 hl_6
  refine lv_aload_n hx hb d_Md_init_60 rfl (lv_at hl 0 rfl) ?_
  refine lv_bipush (v := 40) hx hb d_Md_init_61 (by decide +kernel) ?_
  refine va_newa (atype := .int) (ty := .int) (N' := 40) (a0 := (40, .inl (fun _ => 0))) hx hb (htb (.arrayClass .int) tw_3) rfl hK hP hD hS hA (fun _ => rfl) (by decide +kernel) (by decide +kernel) (by decide +kernel) (by decide +kernel) (by decide +kernel) d_Md_init_63 (fun q_13 k_14 H hK hP hD hS => ?_)
  refine W.widen (k := 7) (n := 7104) (by decide +kernel) (by decide +kernel) ?_
  obtain ⟨R_7, hR_7⟩ : ∃ R : va_W, R = [(q_1, .inl (k_2, 12, .inl (fun _ => 0))), (q_3, .inl (k_4, 12, .inl (fun _ => 0))), (q_5, .inl (k_6, 500, .inl (fun _ => 0))), (q_7, .inl (k_8, 6000, .inl (fun _ => 0))), (q_9, .inl (k_10, 500, .inl (fun _ => 0))), (q_11, .inl (k_12, 40, .inl (fun _ => 0))), (q_13, .inl (k_14, 40, .inl (fun _ => 0)))] := ⟨_, rfl⟩
  have eR : R_6 ++ [(q_13, .inl (k_14, 40, .inl (fun _ => 0)))] = R_7 := by rw [hR_6, hR_7]; rfl
  have hP : va_P (dC, dI) vwCl ((h_0, .inr (7, F_7)) :: R_7) H := by rw [← eR]; exact hP
  have hD : va_D A ((h_0, .inr (7, F_7)) :: R_7) := by rw [← eR]; exact hD
  obtain ⟨T_7, hT_7⟩ : ∃ T : List (ClassId × FieldType), T = [(k_2, .int), (k_4, .int), (k_6, .boolean), (k_8, .int), (k_10, .boolean), (k_12, .int), (k_14, .int)] := ⟨_, rfl⟩
  have hK : va_K (dC, dI) vwCl T_7 s := by rw [show T_7 = T_6 ++ [(k_14, .int)] from by rw [hT_6, hT_7]; rfl]; exact hK
  clear eR hR_6 hT_6
  refine va_putF (D := (dC, dI)) (ci := 7) (v := .ref q_13) (ty := .array (.int)) (C := R_Md) (T := F_Md) (N := 64) (fs := F_7) hx hb htb i_Md t_Md t_Md_ok n_Md hown hK hP hD hS 0 rfl rfl 10 (by decide) (htb (.fieldLink R_Md 61 "WaterMenModel" "master" "[I") tw_12) (fun _ h9 => h9) rfl hin rfl (by decide +kernel) rfl rfl (by omega) d_Md_init_65 (fun H locs hP hD hS => ?_)
  obtain ⟨F_8, hF_8⟩ : ∃ F : List Value, F = [.int 0, .int 0, .int 0, .ref q_1, .int (-1), .ref q_3, .ref q_5, .ref q_7, .ref q_9, .ref q_11, .ref q_13, .null, .null, .null, .null, .null, .null, .null, .null, .null, .null, .int 0, .null, .null, .null, .null, .null, .null, .int 0, .int 0, .null, .null, .null, .null, .null, .null, .null, .null, .null, .null, .null, .null, .int 0, .int 0, .int 0, .int 0, .int 0, .int 0, .null, .null, .null, .null, .null, .null, .null, .null, .long 0, .long 0, .long 0, .null, .int 0, .null, .null, .null] := ⟨_, rfl⟩
  have eF : F_7.set 10 (.ref q_13) = F_8 := by rw [hF_7, hF_8]; rfl
  have hP : va_P (dC, dI) vwCl ((h_0, .inr (7, F_8)) :: R_7) H := by rw [← eF]; exact hP
  have hD : va_D A ((h_0, .inr (7, F_8)) :: R_7) := by rw [← eF]; exact hD
  have hl_8 : F_8.length = 64 := by rw [hF_8]; rfl
  clear eF hF_7 hl_7
  refine lv_aload_n hx hb d_Md_init_68 rfl (lv_at hl 0 rfl) ?_
  refine lv_bipush (v := 40) hx hb d_Md_init_69 (by decide +kernel) ?_
  refine va_newa (atype := .int) (ty := .int) (N' := 40) (a0 := (40, .inl (fun _ => 0))) hx hb (htb (.arrayClass .int) tw_3) rfl hK hP hD hS hA (fun _ => rfl) (by decide +kernel) (by decide +kernel) (by decide +kernel) (by decide +kernel) (by decide +kernel) d_Md_init_71 (fun q_15 k_16 H hK hP hD hS => ?_)
  refine W.widen (k := 8) (n := 7144) (by decide +kernel) (by decide +kernel) ?_
  obtain ⟨R_8, hR_8⟩ : ∃ R : va_W, R = [(q_1, .inl (k_2, 12, .inl (fun _ => 0))), (q_3, .inl (k_4, 12, .inl (fun _ => 0))), (q_5, .inl (k_6, 500, .inl (fun _ => 0))), (q_7, .inl (k_8, 6000, .inl (fun _ => 0))), (q_9, .inl (k_10, 500, .inl (fun _ => 0))), (q_11, .inl (k_12, 40, .inl (fun _ => 0))), (q_13, .inl (k_14, 40, .inl (fun _ => 0))), (q_15, .inl (k_16, 40, .inl (fun _ => 0)))] := ⟨_, rfl⟩
  have eR : R_7 ++ [(q_15, .inl (k_16, 40, .inl (fun _ => 0)))] = R_8 := by rw [hR_7, hR_8]; rfl
  have hP : va_P (dC, dI) vwCl ((h_0, .inr (7, F_8)) :: R_8) H := by rw [← eR]; exact hP
  have hD : va_D A ((h_0, .inr (7, F_8)) :: R_8) := by rw [← eR]; exact hD
  obtain ⟨T_8, hT_8⟩ : ∃ T : List (ClassId × FieldType), T = [(k_2, .int), (k_4, .int), (k_6, .boolean), (k_8, .int), (k_10, .boolean), (k_12, .int), (k_14, .int), (k_16, .int)] := ⟨_, rfl⟩
  have hK : va_K (dC, dI) vwCl T_8 s := by rw [show T_8 = T_7 ++ [(k_16, .int)] from by rw [hT_7, hT_8]; rfl]; exact hK
  clear eR hR_7 hT_7
  refine va_putF (D := (dC, dI)) (ci := 7) (v := .ref q_15) (ty := .array (.int)) (C := R_Md) (T := F_Md) (N := 64) (fs := F_8) hx hb htb i_Md t_Md t_Md_ok n_Md hown hK hP hD hS 0 rfl rfl 11 (by decide) (htb (.fieldLink R_Md 64 "WaterMenModel" "boundOn" "[I") tw_13) (fun _ h9 => h9) rfl hin rfl (by decide +kernel) rfl rfl (by omega) d_Md_init_73 (fun H locs hP hD hS => ?_)
  obtain ⟨F_9, hF_9⟩ : ∃ F : List Value, F = [.int 0, .int 0, .int 0, .ref q_1, .int (-1), .ref q_3, .ref q_5, .ref q_7, .ref q_9, .ref q_11, .ref q_13, .ref q_15, .null, .null, .null, .null, .null, .null, .null, .null, .null, .int 0, .null, .null, .null, .null, .null, .null, .int 0, .int 0, .null, .null, .null, .null, .null, .null, .null, .null, .null, .null, .null, .null, .int 0, .int 0, .int 0, .int 0, .int 0, .int 0, .null, .null, .null, .null, .null, .null, .null, .null, .long 0, .long 0, .long 0, .null, .int 0, .null, .null, .null] := ⟨_, rfl⟩
  have eF : F_8.set 11 (.ref q_15) = F_9 := by rw [hF_8, hF_9]; rfl
  have hP : va_P (dC, dI) vwCl ((h_0, .inr (7, F_9)) :: R_8) H := by rw [← eF]; exact hP
  have hD : va_D A ((h_0, .inr (7, F_9)) :: R_8) := by rw [← eF]; exact hD
  have hl_9 : F_9.length = 64 := by rw [hF_9]; rfl
  clear eF hF_8 hl_8
  refine lv_aload_n hx hb d_Md_init_76 rfl (lv_at hl 0 rfl) ?_
  refine lv_bipush (v := 40) hx hb d_Md_init_77 (by decide +kernel) ?_
  refine va_newa (atype := .int) (ty := .int) (N' := 40) (a0 := (40, .inl (fun _ => 0))) hx hb (htb (.arrayClass .int) tw_3) rfl hK hP hD hS hA (fun _ => rfl) (by decide +kernel) (by decide +kernel) (by decide +kernel) (by decide +kernel) (by decide +kernel) d_Md_init_79 (fun q_17 k_18 H hK hP hD hS => ?_)
  refine W.widen (k := 9) (n := 7184) (by decide +kernel) (by decide +kernel) ?_
  obtain ⟨R_9, hR_9⟩ : ∃ R : va_W, R = [(q_1, .inl (k_2, 12, .inl (fun _ => 0))), (q_3, .inl (k_4, 12, .inl (fun _ => 0))), (q_5, .inl (k_6, 500, .inl (fun _ => 0))), (q_7, .inl (k_8, 6000, .inl (fun _ => 0))), (q_9, .inl (k_10, 500, .inl (fun _ => 0))), (q_11, .inl (k_12, 40, .inl (fun _ => 0))), (q_13, .inl (k_14, 40, .inl (fun _ => 0))), (q_15, .inl (k_16, 40, .inl (fun _ => 0))), (q_17, .inl (k_18, 40, .inl (fun _ => 0)))] := ⟨_, rfl⟩
  have eR : R_8 ++ [(q_17, .inl (k_18, 40, .inl (fun _ => 0)))] = R_9 := by rw [hR_8, hR_9]; rfl
  have hP : va_P (dC, dI) vwCl ((h_0, .inr (7, F_9)) :: R_9) H := by rw [← eR]; exact hP
  have hD : va_D A ((h_0, .inr (7, F_9)) :: R_9) := by rw [← eR]; exact hD
  obtain ⟨T_9, hT_9⟩ : ∃ T : List (ClassId × FieldType), T = [(k_2, .int), (k_4, .int), (k_6, .boolean), (k_8, .int), (k_10, .boolean), (k_12, .int), (k_14, .int), (k_16, .int), (k_18, .int)] := ⟨_, rfl⟩
  have hK : va_K (dC, dI) vwCl T_9 s := by rw [show T_9 = T_8 ++ [(k_18, .int)] from by rw [hT_8, hT_9]; rfl]; exact hK
  clear eR hR_8 hT_8
  refine va_putF (D := (dC, dI)) (ci := 7) (v := .ref q_17) (ty := .array (.int)) (C := R_Md) (T := F_Md) (N := 64) (fs := F_9) hx hb htb i_Md t_Md t_Md_ok n_Md hown hK hP hD hS 0 rfl rfl 12 (by decide) (htb (.fieldLink R_Md 67 "WaterMenModel" "gaps" "[I") tw_14) (fun _ h9 => h9) rfl hin rfl (by decide +kernel) rfl rfl (by omega) d_Md_init_81 (fun H locs hP hD hS => ?_)
  obtain ⟨F_10, hF_10⟩ : ∃ F : List Value, F = [.int 0, .int 0, .int 0, .ref q_1, .int (-1), .ref q_3, .ref q_5, .ref q_7, .ref q_9, .ref q_11, .ref q_13, .ref q_15, .ref q_17, .null, .null, .null, .null, .null, .null, .null, .null, .int 0, .null, .null, .null, .null, .null, .null, .int 0, .int 0, .null, .null, .null, .null, .null, .null, .null, .null, .null, .null, .null, .null, .int 0, .int 0, .int 0, .int 0, .int 0, .int 0, .null, .null, .null, .null, .null, .null, .null, .null, .long 0, .long 0, .long 0, .null, .int 0, .null, .null, .null] := ⟨_, rfl⟩
  have eF : F_9.set 12 (.ref q_17) = F_10 := by rw [hF_9, hF_10]; rfl
  have hP : va_P (dC, dI) vwCl ((h_0, .inr (7, F_10)) :: R_9) H := by rw [← eF]; exact hP
  have hD : va_D A ((h_0, .inr (7, F_10)) :: R_9) := by rw [← eF]; exact hD
  have hl_10 : F_10.length = 64 := by rw [hF_10]; rfl
  clear eF hF_9 hl_9
  refine lv_aload_n hx hb d_Md_init_84 rfl (lv_at hl 0 rfl) ?_
  refine lv_sipush (v := 240) hx hb d_Md_init_85 (by decide +kernel) ?_
  refine va_newa (atype := .int) (ty := .int) (N' := 240) (a0 := (240, .inl (fun _ => 0))) hx hb (htb (.arrayClass .int) tw_3) rfl hK hP hD hS hA (fun _ => rfl) (by decide +kernel) (by decide +kernel) (by decide +kernel) (by decide +kernel) (by decide +kernel) d_Md_init_88 (fun q_19 k_20 H hK hP hD hS => ?_)
  refine W.widen (k := 10) (n := 7424) (by decide +kernel) (by decide +kernel) ?_
  obtain ⟨R_10, hR_10⟩ : ∃ R : va_W, R = [(q_1, .inl (k_2, 12, .inl (fun _ => 0))), (q_3, .inl (k_4, 12, .inl (fun _ => 0))), (q_5, .inl (k_6, 500, .inl (fun _ => 0))), (q_7, .inl (k_8, 6000, .inl (fun _ => 0))), (q_9, .inl (k_10, 500, .inl (fun _ => 0))), (q_11, .inl (k_12, 40, .inl (fun _ => 0))), (q_13, .inl (k_14, 40, .inl (fun _ => 0))), (q_15, .inl (k_16, 40, .inl (fun _ => 0))), (q_17, .inl (k_18, 40, .inl (fun _ => 0))), (q_19, .inl (k_20, 240, .inl (fun _ => 0)))] := ⟨_, rfl⟩
  have eR : R_9 ++ [(q_19, .inl (k_20, 240, .inl (fun _ => 0)))] = R_10 := by rw [hR_9, hR_10]; rfl
  have hP : va_P (dC, dI) vwCl ((h_0, .inr (7, F_10)) :: R_10) H := by rw [← eR]; exact hP
  have hD : va_D A ((h_0, .inr (7, F_10)) :: R_10) := by rw [← eR]; exact hD
  obtain ⟨T_10, hT_10⟩ : ∃ T : List (ClassId × FieldType), T = [(k_2, .int), (k_4, .int), (k_6, .boolean), (k_8, .int), (k_10, .boolean), (k_12, .int), (k_14, .int), (k_16, .int), (k_18, .int), (k_20, .int)] := ⟨_, rfl⟩
  have hK : va_K (dC, dI) vwCl T_10 s := by rw [show T_10 = T_9 ++ [(k_20, .int)] from by rw [hT_9, hT_10]; rfl]; exact hK
  clear eR hR_9 hT_9
  refine va_putF (D := (dC, dI)) (ci := 7) (v := .ref q_19) (ty := .array (.int)) (C := R_Md) (T := F_Md) (N := 64) (fs := F_10) hx hb htb i_Md t_Md t_Md_ok n_Md hown hK hP hD hS 0 rfl rfl 13 (by decide) (htb (.fieldLink R_Md 70 "WaterMenModel" "gapFrom" "[I") tw_15) (fun _ h9 => h9) rfl hin rfl (by decide +kernel) rfl rfl (by omega) d_Md_init_90 (fun H locs hP hD hS => ?_)
  obtain ⟨F_11, hF_11⟩ : ∃ F : List Value, F = [.int 0, .int 0, .int 0, .ref q_1, .int (-1), .ref q_3, .ref q_5, .ref q_7, .ref q_9, .ref q_11, .ref q_13, .ref q_15, .ref q_17, .ref q_19, .null, .null, .null, .null, .null, .null, .null, .int 0, .null, .null, .null, .null, .null, .null, .int 0, .int 0, .null, .null, .null, .null, .null, .null, .null, .null, .null, .null, .null, .null, .int 0, .int 0, .int 0, .int 0, .int 0, .int 0, .null, .null, .null, .null, .null, .null, .null, .null, .long 0, .long 0, .long 0, .null, .int 0, .null, .null, .null] := ⟨_, rfl⟩
  have eF : F_10.set 13 (.ref q_19) = F_11 := by rw [hF_10, hF_11]; rfl
  have hP : va_P (dC, dI) vwCl ((h_0, .inr (7, F_11)) :: R_10) H := by rw [← eF]; exact hP
  have hD : va_D A ((h_0, .inr (7, F_11)) :: R_10) := by rw [← eF]; exact hD
  have hl_11 : F_11.length = 64 := by rw [hF_11]; rfl
  clear eF hF_10 hl_10
  refine lv_aload_n hx hb d_Md_init_93 rfl (lv_at hl 0 rfl) ?_
  refine lv_sipush (v := 240) hx hb d_Md_init_94 (by decide +kernel) ?_
  refine va_newa (atype := .int) (ty := .int) (N' := 240) (a0 := (240, .inl (fun _ => 0))) hx hb (htb (.arrayClass .int) tw_3) rfl hK hP hD hS hA (fun _ => rfl) (by decide +kernel) (by decide +kernel) (by decide +kernel) (by decide +kernel) (by decide +kernel) d_Md_init_97 (fun q_21 k_22 H hK hP hD hS => ?_)
  refine W.widen (k := 11) (n := 7664) (by decide +kernel) (by decide +kernel) ?_
  obtain ⟨R_11, hR_11⟩ : ∃ R : va_W, R = [(q_1, .inl (k_2, 12, .inl (fun _ => 0))), (q_3, .inl (k_4, 12, .inl (fun _ => 0))), (q_5, .inl (k_6, 500, .inl (fun _ => 0))), (q_7, .inl (k_8, 6000, .inl (fun _ => 0))), (q_9, .inl (k_10, 500, .inl (fun _ => 0))), (q_11, .inl (k_12, 40, .inl (fun _ => 0))), (q_13, .inl (k_14, 40, .inl (fun _ => 0))), (q_15, .inl (k_16, 40, .inl (fun _ => 0))), (q_17, .inl (k_18, 40, .inl (fun _ => 0))), (q_19, .inl (k_20, 240, .inl (fun _ => 0))), (q_21, .inl (k_22, 240, .inl (fun _ => 0)))] := ⟨_, rfl⟩
  have eR : R_10 ++ [(q_21, .inl (k_22, 240, .inl (fun _ => 0)))] = R_11 := by rw [hR_10, hR_11]; rfl
  have hP : va_P (dC, dI) vwCl ((h_0, .inr (7, F_11)) :: R_11) H := by rw [← eR]; exact hP
  have hD : va_D A ((h_0, .inr (7, F_11)) :: R_11) := by rw [← eR]; exact hD
  obtain ⟨T_11, hT_11⟩ : ∃ T : List (ClassId × FieldType), T = [(k_2, .int), (k_4, .int), (k_6, .boolean), (k_8, .int), (k_10, .boolean), (k_12, .int), (k_14, .int), (k_16, .int), (k_18, .int), (k_20, .int), (k_22, .int)] := ⟨_, rfl⟩
  have hK : va_K (dC, dI) vwCl T_11 s := by rw [show T_11 = T_10 ++ [(k_22, .int)] from by rw [hT_10, hT_11]; rfl]; exact hK
  clear eR hR_10 hT_10
  refine va_putF (D := (dC, dI)) (ci := 7) (v := .ref q_21) (ty := .array (.int)) (C := R_Md) (T := F_Md) (N := 64) (fs := F_11) hx hb htb i_Md t_Md t_Md_ok n_Md hown hK hP hD hS 0 rfl rfl 14 (by decide) (htb (.fieldLink R_Md 73 "WaterMenModel" "gapTo" "[I") tw_16) (fun _ h9 => h9) rfl hin rfl (by decide +kernel) rfl rfl (by omega) d_Md_init_99 (fun H locs hP hD hS => ?_)
  obtain ⟨F_12, hF_12⟩ : ∃ F : List Value, F = [.int 0, .int 0, .int 0, .ref q_1, .int (-1), .ref q_3, .ref q_5, .ref q_7, .ref q_9, .ref q_11, .ref q_13, .ref q_15, .ref q_17, .ref q_19, .ref q_21, .null, .null, .null, .null, .null, .null, .int 0, .null, .null, .null, .null, .null, .null, .int 0, .int 0, .null, .null, .null, .null, .null, .null, .null, .null, .null, .null, .null, .null, .int 0, .int 0, .int 0, .int 0, .int 0, .int 0, .null, .null, .null, .null, .null, .null, .null, .null, .long 0, .long 0, .long 0, .null, .int 0, .null, .null, .null] := ⟨_, rfl⟩
  have eF : F_11.set 14 (.ref q_21) = F_12 := by rw [hF_11, hF_12]; rfl
  have hP : va_P (dC, dI) vwCl ((h_0, .inr (7, F_12)) :: R_11) H := by rw [← eF]; exact hP
  have hD : va_D A ((h_0, .inr (7, F_12)) :: R_11) := by rw [← eF]; exact hD
  have hl_12 : F_12.length = 64 := by rw [hF_12]; rfl
  clear eF hF_11 hl_11
  refine lv_aload_n hx hb d_Md_init_102 rfl (lv_at hl 0 rfl) ?_
  refine lv_bipush (v := 40) hx hb d_Md_init_103 (by decide +kernel) ?_
  refine va_newa (atype := .int) (ty := .int) (N' := 40) (a0 := (40, .inl (fun _ => 0))) hx hb (htb (.arrayClass .int) tw_3) rfl hK hP hD hS hA (fun _ => rfl) (by decide +kernel) (by decide +kernel) (by decide +kernel) (by decide +kernel) (by decide +kernel) d_Md_init_105 (fun q_23 k_24 H hK hP hD hS => ?_)
  refine W.widen (k := 12) (n := 7704) (by decide +kernel) (by decide +kernel) ?_
  obtain ⟨R_12, hR_12⟩ : ∃ R : va_W, R = [(q_1, .inl (k_2, 12, .inl (fun _ => 0))), (q_3, .inl (k_4, 12, .inl (fun _ => 0))), (q_5, .inl (k_6, 500, .inl (fun _ => 0))), (q_7, .inl (k_8, 6000, .inl (fun _ => 0))), (q_9, .inl (k_10, 500, .inl (fun _ => 0))), (q_11, .inl (k_12, 40, .inl (fun _ => 0))), (q_13, .inl (k_14, 40, .inl (fun _ => 0))), (q_15, .inl (k_16, 40, .inl (fun _ => 0))), (q_17, .inl (k_18, 40, .inl (fun _ => 0))), (q_19, .inl (k_20, 240, .inl (fun _ => 0))), (q_21, .inl (k_22, 240, .inl (fun _ => 0))), (q_23, .inl (k_24, 40, .inl (fun _ => 0)))] := ⟨_, rfl⟩
  have eR : R_11 ++ [(q_23, .inl (k_24, 40, .inl (fun _ => 0)))] = R_12 := by rw [hR_11, hR_12]; rfl
  have hP : va_P (dC, dI) vwCl ((h_0, .inr (7, F_12)) :: R_12) H := by rw [← eR]; exact hP
  have hD : va_D A ((h_0, .inr (7, F_12)) :: R_12) := by rw [← eR]; exact hD
  obtain ⟨T_12, hT_12⟩ : ∃ T : List (ClassId × FieldType), T = [(k_2, .int), (k_4, .int), (k_6, .boolean), (k_8, .int), (k_10, .boolean), (k_12, .int), (k_14, .int), (k_16, .int), (k_18, .int), (k_20, .int), (k_22, .int), (k_24, .int)] := ⟨_, rfl⟩
  have hK : va_K (dC, dI) vwCl T_12 s := by rw [show T_12 = T_11 ++ [(k_24, .int)] from by rw [hT_11, hT_12]; rfl]; exact hK
  clear eR hR_11 hT_11
  refine va_putF (D := (dC, dI)) (ci := 7) (v := .ref q_23) (ty := .array (.int)) (C := R_Md) (T := F_Md) (N := 64) (fs := F_12) hx hb htb i_Md t_Md t_Md_ok n_Md hown hK hP hD hS 0 rfl rfl 15 (by decide) (htb (.fieldLink R_Md 76 "WaterMenModel" "coins" "[I") tw_17) (fun _ h9 => h9) rfl hin rfl (by decide +kernel) rfl rfl (by omega) d_Md_init_107 (fun H locs hP hD hS => ?_)
  obtain ⟨F_13, hF_13⟩ : ∃ F : List Value, F = [.int 0, .int 0, .int 0, .ref q_1, .int (-1), .ref q_3, .ref q_5, .ref q_7, .ref q_9, .ref q_11, .ref q_13, .ref q_15, .ref q_17, .ref q_19, .ref q_21, .ref q_23, .null, .null, .null, .null, .null, .int 0, .null, .null, .null, .null, .null, .null, .int 0, .int 0, .null, .null, .null, .null, .null, .null, .null, .null, .null, .null, .null, .null, .int 0, .int 0, .int 0, .int 0, .int 0, .int 0, .null, .null, .null, .null, .null, .null, .null, .null, .long 0, .long 0, .long 0, .null, .int 0, .null, .null, .null] := ⟨_, rfl⟩
  have eF : F_12.set 15 (.ref q_23) = F_13 := by rw [hF_12, hF_13]; rfl
  have hP : va_P (dC, dI) vwCl ((h_0, .inr (7, F_13)) :: R_12) H := by rw [← eF]; exact hP
  have hD : va_D A ((h_0, .inr (7, F_13)) :: R_12) := by rw [← eF]; exact hD
  have hl_13 : F_13.length = 64 := by rw [hF_13]; rfl
  clear eF hF_12 hl_12
  refine lv_aload_n hx hb d_Md_init_110 rfl (lv_at hl 0 rfl) ?_
  refine lv_bipush (v := 40) hx hb d_Md_init_111 (by decide +kernel) ?_
  refine va_newa (atype := .int) (ty := .int) (N' := 40) (a0 := (40, .inl (fun _ => 0))) hx hb (htb (.arrayClass .int) tw_3) rfl hK hP hD hS hA (fun _ => rfl) (by decide +kernel) (by decide +kernel) (by decide +kernel) (by decide +kernel) (by decide +kernel) d_Md_init_113 (fun q_25 k_26 H hK hP hD hS => ?_)
  refine W.widen (k := 13) (n := 7744) (by decide +kernel) (by decide +kernel) ?_
  obtain ⟨R_13, hR_13⟩ : ∃ R : va_W, R = [(q_1, .inl (k_2, 12, .inl (fun _ => 0))), (q_3, .inl (k_4, 12, .inl (fun _ => 0))), (q_5, .inl (k_6, 500, .inl (fun _ => 0))), (q_7, .inl (k_8, 6000, .inl (fun _ => 0))), (q_9, .inl (k_10, 500, .inl (fun _ => 0))), (q_11, .inl (k_12, 40, .inl (fun _ => 0))), (q_13, .inl (k_14, 40, .inl (fun _ => 0))), (q_15, .inl (k_16, 40, .inl (fun _ => 0))), (q_17, .inl (k_18, 40, .inl (fun _ => 0))), (q_19, .inl (k_20, 240, .inl (fun _ => 0))), (q_21, .inl (k_22, 240, .inl (fun _ => 0))), (q_23, .inl (k_24, 40, .inl (fun _ => 0))), (q_25, .inl (k_26, 40, .inl (fun _ => 0)))] := ⟨_, rfl⟩
  have eR : R_12 ++ [(q_25, .inl (k_26, 40, .inl (fun _ => 0)))] = R_13 := by rw [hR_12, hR_13]; rfl
  have hP : va_P (dC, dI) vwCl ((h_0, .inr (7, F_13)) :: R_13) H := by rw [← eR]; exact hP
  have hD : va_D A ((h_0, .inr (7, F_13)) :: R_13) := by rw [← eR]; exact hD
  obtain ⟨T_13, hT_13⟩ : ∃ T : List (ClassId × FieldType), T = [(k_2, .int), (k_4, .int), (k_6, .boolean), (k_8, .int), (k_10, .boolean), (k_12, .int), (k_14, .int), (k_16, .int), (k_18, .int), (k_20, .int), (k_22, .int), (k_24, .int), (k_26, .int)] := ⟨_, rfl⟩
  have hK : va_K (dC, dI) vwCl T_13 s := by rw [show T_13 = T_12 ++ [(k_26, .int)] from by rw [hT_12, hT_13]; rfl]; exact hK
  clear eR hR_12 hT_12
  refine va_putF (D := (dC, dI)) (ci := 7) (v := .ref q_25) (ty := .array (.int)) (C := R_Md) (T := F_Md) (N := 64) (fs := F_13) hx hb htb i_Md t_Md t_Md_ok n_Md hown hK hP hD hS 0 rfl rfl 16 (by decide) (htb (.fieldLink R_Md 79 "WaterMenModel" "wayOf" "[I") tw_18) (fun _ h9 => h9) rfl hin rfl (by decide +kernel) rfl rfl (by omega) d_Md_init_115 (fun H locs hP hD hS => ?_)
  obtain ⟨F_14, hF_14⟩ : ∃ F : List Value, F = [.int 0, .int 0, .int 0, .ref q_1, .int (-1), .ref q_3, .ref q_5, .ref q_7, .ref q_9, .ref q_11, .ref q_13, .ref q_15, .ref q_17, .ref q_19, .ref q_21, .ref q_23, .ref q_25, .null, .null, .null, .null, .int 0, .null, .null, .null, .null, .null, .null, .int 0, .int 0, .null, .null, .null, .null, .null, .null, .null, .null, .null, .null, .null, .null, .int 0, .int 0, .int 0, .int 0, .int 0, .int 0, .null, .null, .null, .null, .null, .null, .null, .null, .long 0, .long 0, .long 0, .null, .int 0, .null, .null, .null] := ⟨_, rfl⟩
  have eF : F_13.set 16 (.ref q_25) = F_14 := by rw [hF_13, hF_14]; rfl
  have hP : va_P (dC, dI) vwCl ((h_0, .inr (7, F_14)) :: R_13) H := by rw [← eF]; exact hP
  have hD : va_D A ((h_0, .inr (7, F_14)) :: R_13) := by rw [← eF]; exact hD
  have hl_14 : F_14.length = 64 := by rw [hF_14]; rfl
  clear eF hF_13 hl_13
  refine lv_aload_n hx hb d_Md_init_118 rfl (lv_at hl 0 rfl) ?_
  refine lv_bipush (v := 40) hx hb d_Md_init_119 (by decide +kernel) ?_
  refine va_newa (atype := .int) (ty := .int) (N' := 40) (a0 := (40, .inl (fun _ => 0))) hx hb (htb (.arrayClass .int) tw_3) rfl hK hP hD hS hA (fun _ => rfl) (by decide +kernel) (by decide +kernel) (by decide +kernel) (by decide +kernel) (by decide +kernel) d_Md_init_121 (fun q_27 k_28 H hK hP hD hS => ?_)
  refine W.widen (k := 14) (n := 7784) (by decide +kernel) (by decide +kernel) ?_
  obtain ⟨R_14, hR_14⟩ : ∃ R : va_W, R = [(q_1, .inl (k_2, 12, .inl (fun _ => 0))), (q_3, .inl (k_4, 12, .inl (fun _ => 0))), (q_5, .inl (k_6, 500, .inl (fun _ => 0))), (q_7, .inl (k_8, 6000, .inl (fun _ => 0))), (q_9, .inl (k_10, 500, .inl (fun _ => 0))), (q_11, .inl (k_12, 40, .inl (fun _ => 0))), (q_13, .inl (k_14, 40, .inl (fun _ => 0))), (q_15, .inl (k_16, 40, .inl (fun _ => 0))), (q_17, .inl (k_18, 40, .inl (fun _ => 0))), (q_19, .inl (k_20, 240, .inl (fun _ => 0))), (q_21, .inl (k_22, 240, .inl (fun _ => 0))), (q_23, .inl (k_24, 40, .inl (fun _ => 0))), (q_25, .inl (k_26, 40, .inl (fun _ => 0))), (q_27, .inl (k_28, 40, .inl (fun _ => 0)))] := ⟨_, rfl⟩
  have eR : R_13 ++ [(q_27, .inl (k_28, 40, .inl (fun _ => 0)))] = R_14 := by rw [hR_13, hR_14]; rfl
  have hP : va_P (dC, dI) vwCl ((h_0, .inr (7, F_14)) :: R_14) H := by rw [← eR]; exact hP
  have hD : va_D A ((h_0, .inr (7, F_14)) :: R_14) := by rw [← eR]; exact hD
  obtain ⟨T_14, hT_14⟩ : ∃ T : List (ClassId × FieldType), T = [(k_2, .int), (k_4, .int), (k_6, .boolean), (k_8, .int), (k_10, .boolean), (k_12, .int), (k_14, .int), (k_16, .int), (k_18, .int), (k_20, .int), (k_22, .int), (k_24, .int), (k_26, .int), (k_28, .int)] := ⟨_, rfl⟩
  have hK : va_K (dC, dI) vwCl T_14 s := by rw [show T_14 = T_13 ++ [(k_28, .int)] from by rw [hT_13, hT_14]; rfl]; exact hK
  clear eR hR_13 hT_13
  refine va_putF (D := (dC, dI)) (ci := 7) (v := .ref q_27) (ty := .array (.int)) (C := R_Md) (T := F_Md) (N := 64) (fs := F_14) hx hb htb i_Md t_Md t_Md_ok n_Md hown hK hP hD hS 0 rfl rfl 17 (by decide) (htb (.fieldLink R_Md 82 "WaterMenModel" "tripsOf" "[I") tw_19) (fun _ h9 => h9) rfl hin rfl (by decide +kernel) rfl rfl (by omega) d_Md_init_123 (fun H locs hP hD hS => ?_)
  obtain ⟨F_15, hF_15⟩ : ∃ F : List Value, F = [.int 0, .int 0, .int 0, .ref q_1, .int (-1), .ref q_3, .ref q_5, .ref q_7, .ref q_9, .ref q_11, .ref q_13, .ref q_15, .ref q_17, .ref q_19, .ref q_21, .ref q_23, .ref q_25, .ref q_27, .null, .null, .null, .int 0, .null, .null, .null, .null, .null, .null, .int 0, .int 0, .null, .null, .null, .null, .null, .null, .null, .null, .null, .null, .null, .null, .int 0, .int 0, .int 0, .int 0, .int 0, .int 0, .null, .null, .null, .null, .null, .null, .null, .null, .long 0, .long 0, .long 0, .null, .int 0, .null, .null, .null] := ⟨_, rfl⟩
  have eF : F_14.set 17 (.ref q_27) = F_15 := by rw [hF_14, hF_15]; rfl
  have hP : va_P (dC, dI) vwCl ((h_0, .inr (7, F_15)) :: R_14) H := by rw [← eF]; exact hP
  have hD : va_D A ((h_0, .inr (7, F_15)) :: R_14) := by rw [← eF]; exact hD
  have hl_15 : F_15.length = 64 := by rw [hF_15]; rfl
  clear eF hF_14 hl_14
  refine lv_aload_n hx hb d_Md_init_126 rfl (lv_at hl 0 rfl) ?_
  refine lv_bipush (v := 40) hx hb d_Md_init_127 (by decide +kernel) ?_
  refine va_newa (atype := .boolean) (ty := .boolean) (N' := 40) (a0 := (40, .inl (fun _ => 0))) hx hb (htb (.arrayClass .boolean) tw_7) rfl hK hP hD hS hA (fun _ => rfl) (by decide +kernel) (by decide +kernel) (by decide +kernel) (by decide +kernel) (by decide +kernel) d_Md_init_129 (fun q_29 k_30 H hK hP hD hS => ?_)
  refine W.widen (k := 15) (n := 7824) (by decide +kernel) (by decide +kernel) ?_
  obtain ⟨R_15, hR_15⟩ : ∃ R : va_W, R = [(q_1, .inl (k_2, 12, .inl (fun _ => 0))), (q_3, .inl (k_4, 12, .inl (fun _ => 0))), (q_5, .inl (k_6, 500, .inl (fun _ => 0))), (q_7, .inl (k_8, 6000, .inl (fun _ => 0))), (q_9, .inl (k_10, 500, .inl (fun _ => 0))), (q_11, .inl (k_12, 40, .inl (fun _ => 0))), (q_13, .inl (k_14, 40, .inl (fun _ => 0))), (q_15, .inl (k_16, 40, .inl (fun _ => 0))), (q_17, .inl (k_18, 40, .inl (fun _ => 0))), (q_19, .inl (k_20, 240, .inl (fun _ => 0))), (q_21, .inl (k_22, 240, .inl (fun _ => 0))), (q_23, .inl (k_24, 40, .inl (fun _ => 0))), (q_25, .inl (k_26, 40, .inl (fun _ => 0))), (q_27, .inl (k_28, 40, .inl (fun _ => 0))), (q_29, .inl (k_30, 40, .inl (fun _ => 0)))] := ⟨_, rfl⟩
  have eR : R_14 ++ [(q_29, .inl (k_30, 40, .inl (fun _ => 0)))] = R_15 := by rw [hR_14, hR_15]; rfl
  have hP : va_P (dC, dI) vwCl ((h_0, .inr (7, F_15)) :: R_15) H := by rw [← eR]; exact hP
  have hD : va_D A ((h_0, .inr (7, F_15)) :: R_15) := by rw [← eR]; exact hD
  obtain ⟨T_15, hT_15⟩ : ∃ T : List (ClassId × FieldType), T = [(k_2, .int), (k_4, .int), (k_6, .boolean), (k_8, .int), (k_10, .boolean), (k_12, .int), (k_14, .int), (k_16, .int), (k_18, .int), (k_20, .int), (k_22, .int), (k_24, .int), (k_26, .int), (k_28, .int), (k_30, .boolean)] := ⟨_, rfl⟩
  have hK : va_K (dC, dI) vwCl T_15 s := by rw [show T_15 = T_14 ++ [(k_30, .boolean)] from by rw [hT_14, hT_15]; rfl]; exact hK
  clear eR hR_14 hT_14
  refine va_putF (D := (dC, dI)) (ci := 7) (v := .ref q_29) (ty := .array (.boolean)) (C := R_Md) (T := F_Md) (N := 64) (fs := F_15) hx hb htb i_Md t_Md t_Md_ok n_Md hown hK hP hD hS 0 rfl rfl 18 (by decide) (htb (.fieldLink R_Md 85 "WaterMenModel" "shares" "[Z") tw_20) (fun _ h9 => h9) rfl hin rfl (by decide +kernel) rfl rfl (by omega) d_Md_init_131 (fun H locs hP hD hS => ?_)
  obtain ⟨F_16, hF_16⟩ : ∃ F : List Value, F = [.int 0, .int 0, .int 0, .ref q_1, .int (-1), .ref q_3, .ref q_5, .ref q_7, .ref q_9, .ref q_11, .ref q_13, .ref q_15, .ref q_17, .ref q_19, .ref q_21, .ref q_23, .ref q_25, .ref q_27, .ref q_29, .null, .null, .int 0, .null, .null, .null, .null, .null, .null, .int 0, .int 0, .null, .null, .null, .null, .null, .null, .null, .null, .null, .null, .null, .null, .int 0, .int 0, .int 0, .int 0, .int 0, .int 0, .null, .null, .null, .null, .null, .null, .null, .null, .long 0, .long 0, .long 0, .null, .int 0, .null, .null, .null] := ⟨_, rfl⟩
  have eF : F_15.set 18 (.ref q_29) = F_16 := by rw [hF_15, hF_16]; rfl
  have hP : va_P (dC, dI) vwCl ((h_0, .inr (7, F_16)) :: R_15) H := by rw [← eF]; exact hP
  have hD : va_D A ((h_0, .inr (7, F_16)) :: R_15) := by rw [← eF]; exact hD
  have hl_16 : F_16.length = 64 := by rw [hF_16]; rfl
  clear eF hF_15 hl_15
  refine lv_aload_n hx hb d_Md_init_134 rfl (lv_at hl 0 rfl) ?_
  refine lv_bipush (v := 12) hx hb d_Md_init_135 (by decide +kernel) ?_
  refine va_newa (atype := .int) (ty := .int) (N' := 12) (a0 := (12, .inl (fun _ => 0))) hx hb (htb (.arrayClass .int) tw_3) rfl hK hP hD hS hA (fun _ => rfl) (by decide +kernel) (by decide +kernel) (by decide +kernel) (by decide +kernel) (by decide +kernel) d_Md_init_137 (fun q_31 k_32 H hK hP hD hS => ?_)
  refine W.widen (k := 16) (n := 7836) (by decide +kernel) (by decide +kernel) ?_
  obtain ⟨R_16, hR_16⟩ : ∃ R : va_W, R = [(q_1, .inl (k_2, 12, .inl (fun _ => 0))), (q_3, .inl (k_4, 12, .inl (fun _ => 0))), (q_5, .inl (k_6, 500, .inl (fun _ => 0))), (q_7, .inl (k_8, 6000, .inl (fun _ => 0))), (q_9, .inl (k_10, 500, .inl (fun _ => 0))), (q_11, .inl (k_12, 40, .inl (fun _ => 0))), (q_13, .inl (k_14, 40, .inl (fun _ => 0))), (q_15, .inl (k_16, 40, .inl (fun _ => 0))), (q_17, .inl (k_18, 40, .inl (fun _ => 0))), (q_19, .inl (k_20, 240, .inl (fun _ => 0))), (q_21, .inl (k_22, 240, .inl (fun _ => 0))), (q_23, .inl (k_24, 40, .inl (fun _ => 0))), (q_25, .inl (k_26, 40, .inl (fun _ => 0))), (q_27, .inl (k_28, 40, .inl (fun _ => 0))), (q_29, .inl (k_30, 40, .inl (fun _ => 0))), (q_31, .inl (k_32, 12, .inl (fun _ => 0)))] := ⟨_, rfl⟩
  have eR : R_15 ++ [(q_31, .inl (k_32, 12, .inl (fun _ => 0)))] = R_16 := by rw [hR_15, hR_16]; rfl
  have hP : va_P (dC, dI) vwCl ((h_0, .inr (7, F_16)) :: R_16) H := by rw [← eR]; exact hP
  have hD : va_D A ((h_0, .inr (7, F_16)) :: R_16) := by rw [← eR]; exact hD
  obtain ⟨T_16, hT_16⟩ : ∃ T : List (ClassId × FieldType), T = [(k_2, .int), (k_4, .int), (k_6, .boolean), (k_8, .int), (k_10, .boolean), (k_12, .int), (k_14, .int), (k_16, .int), (k_18, .int), (k_20, .int), (k_22, .int), (k_24, .int), (k_26, .int), (k_28, .int), (k_30, .boolean), (k_32, .int)] := ⟨_, rfl⟩
  have hK : va_K (dC, dI) vwCl T_16 s := by rw [show T_16 = T_15 ++ [(k_32, .int)] from by rw [hT_15, hT_16]; rfl]; exact hK
  clear eR hR_15 hT_15
  refine va_putF (D := (dC, dI)) (ci := 7) (v := .ref q_31) (ty := .array (.int)) (C := R_Md) (T := F_Md) (N := 64) (fs := F_16) hx hb htb i_Md t_Md t_Md_ok n_Md hown hK hP hD hS 0 rfl rfl 19 (by decide) (htb (.fieldLink R_Md 88 "WaterMenModel" "turns" "[I") tw_21) (fun _ h9 => h9) rfl hin rfl (by decide +kernel) rfl rfl (by omega) d_Md_init_139 (fun H locs hP hD hS => ?_)
  obtain ⟨F_17, hF_17⟩ : ∃ F : List Value, F = [.int 0, .int 0, .int 0, .ref q_1, .int (-1), .ref q_3, .ref q_5, .ref q_7, .ref q_9, .ref q_11, .ref q_13, .ref q_15, .ref q_17, .ref q_19, .ref q_21, .ref q_23, .ref q_25, .ref q_27, .ref q_29, .ref q_31, .null, .int 0, .null, .null, .null, .null, .null, .null, .int 0, .int 0, .null, .null, .null, .null, .null, .null, .null, .null, .null, .null, .null, .null, .int 0, .int 0, .int 0, .int 0, .int 0, .int 0, .null, .null, .null, .null, .null, .null, .null, .null, .long 0, .long 0, .long 0, .null, .int 0, .null, .null, .null] := ⟨_, rfl⟩
  have eF : F_16.set 19 (.ref q_31) = F_17 := by rw [hF_16, hF_17]; rfl
  have hP : va_P (dC, dI) vwCl ((h_0, .inr (7, F_17)) :: R_16) H := by rw [← eF]; exact hP
  have hD : va_D A ((h_0, .inr (7, F_17)) :: R_16) := by rw [← eF]; exact hD
  have hl_17 : F_17.length = 64 := by rw [hF_17]; rfl
  clear eF hF_16 hl_16
  refine lv_aload_n hx hb d_Md_init_142 rfl (lv_at hl 0 rfl) ?_
  refine lv_sipush (v := 480) hx hb d_Md_init_143 (by decide +kernel) ?_
  refine va_newa (atype := .int) (ty := .int) (N' := 480) (a0 := (480, .inl (fun _ => 0))) hx hb (htb (.arrayClass .int) tw_3) rfl hK hP hD hS hA (fun _ => rfl) (by decide +kernel) (by decide +kernel) (by decide +kernel) (by decide +kernel) (by decide +kernel) d_Md_init_146 (fun q_33 k_34 H hK hP hD hS => ?_)
  refine W.widen (k := 17) (n := 8316) (by decide +kernel) (by decide +kernel) ?_
  obtain ⟨R_17, hR_17⟩ : ∃ R : va_W, R = [(q_1, .inl (k_2, 12, .inl (fun _ => 0))), (q_3, .inl (k_4, 12, .inl (fun _ => 0))), (q_5, .inl (k_6, 500, .inl (fun _ => 0))), (q_7, .inl (k_8, 6000, .inl (fun _ => 0))), (q_9, .inl (k_10, 500, .inl (fun _ => 0))), (q_11, .inl (k_12, 40, .inl (fun _ => 0))), (q_13, .inl (k_14, 40, .inl (fun _ => 0))), (q_15, .inl (k_16, 40, .inl (fun _ => 0))), (q_17, .inl (k_18, 40, .inl (fun _ => 0))), (q_19, .inl (k_20, 240, .inl (fun _ => 0))), (q_21, .inl (k_22, 240, .inl (fun _ => 0))), (q_23, .inl (k_24, 40, .inl (fun _ => 0))), (q_25, .inl (k_26, 40, .inl (fun _ => 0))), (q_27, .inl (k_28, 40, .inl (fun _ => 0))), (q_29, .inl (k_30, 40, .inl (fun _ => 0))), (q_31, .inl (k_32, 12, .inl (fun _ => 0))), (q_33, .inl (k_34, 480, .inl (fun _ => 0)))] := ⟨_, rfl⟩
  have eR : R_16 ++ [(q_33, .inl (k_34, 480, .inl (fun _ => 0)))] = R_17 := by rw [hR_16, hR_17]; rfl
  have hP : va_P (dC, dI) vwCl ((h_0, .inr (7, F_17)) :: R_17) H := by rw [← eR]; exact hP
  have hD : va_D A ((h_0, .inr (7, F_17)) :: R_17) := by rw [← eR]; exact hD
  obtain ⟨T_17, hT_17⟩ : ∃ T : List (ClassId × FieldType), T = [(k_2, .int), (k_4, .int), (k_6, .boolean), (k_8, .int), (k_10, .boolean), (k_12, .int), (k_14, .int), (k_16, .int), (k_18, .int), (k_20, .int), (k_22, .int), (k_24, .int), (k_26, .int), (k_28, .int), (k_30, .boolean), (k_32, .int), (k_34, .int)] := ⟨_, rfl⟩
  have hK : va_K (dC, dI) vwCl T_17 s := by rw [show T_17 = T_16 ++ [(k_34, .int)] from by rw [hT_16, hT_17]; rfl]; exact hK
  clear eR hR_16 hT_16
  refine va_putF (D := (dC, dI)) (ci := 7) (v := .ref q_33) (ty := .array (.int)) (C := R_Md) (T := F_Md) (N := 64) (fs := F_17) hx hb htb i_Md t_Md t_Md_ok n_Md hown hK hP hD hS 0 rfl rfl 20 (by decide) (htb (.fieldLink R_Md 91 "WaterMenModel" "turn" "[I") tw_22) (fun _ h9 => h9) rfl hin rfl (by decide +kernel) rfl rfl (by omega) d_Md_init_148 (fun H locs hP hD hS => ?_)
  obtain ⟨F_18, hF_18⟩ : ∃ F : List Value, F = [.int 0, .int 0, .int 0, .ref q_1, .int (-1), .ref q_3, .ref q_5, .ref q_7, .ref q_9, .ref q_11, .ref q_13, .ref q_15, .ref q_17, .ref q_19, .ref q_21, .ref q_23, .ref q_25, .ref q_27, .ref q_29, .ref q_31, .ref q_33, .int 0, .null, .null, .null, .null, .null, .null, .int 0, .int 0, .null, .null, .null, .null, .null, .null, .null, .null, .null, .null, .null, .null, .int 0, .int 0, .int 0, .int 0, .int 0, .int 0, .null, .null, .null, .null, .null, .null, .null, .null, .long 0, .long 0, .long 0, .null, .int 0, .null, .null, .null] := ⟨_, rfl⟩
  have eF : F_17.set 20 (.ref q_33) = F_18 := by rw [hF_17, hF_18]; rfl
  have hP : va_P (dC, dI) vwCl ((h_0, .inr (7, F_18)) :: R_17) H := by rw [← eF]; exact hP
  have hD : va_D A ((h_0, .inr (7, F_18)) :: R_17) := by rw [← eF]; exact hD
  have hl_18 : F_18.length = 64 := by rw [hF_18]; rfl
  clear eF hF_17 hl_17
  refine lv_aload_n hx hb d_Md_init_151 rfl (lv_at hl 0 rfl) ?_
  refine lv_bipush (v := 20) hx hb d_Md_init_152 (by decide +kernel) ?_
  refine va_newa (atype := .int) (ty := .int) (N' := 20) (a0 := (20, .inl (fun _ => 0))) hx hb (htb (.arrayClass .int) tw_3) rfl hK hP hD hS hA (fun _ => rfl) (by decide +kernel) (by decide +kernel) (by decide +kernel) (by decide +kernel) (by decide +kernel) d_Md_init_154 (fun q_35 k_36 H hK hP hD hS => ?_)
  refine W.widen (k := 18) (n := 8336) (by decide +kernel) (by decide +kernel) ?_
  obtain ⟨R_18, hR_18⟩ : ∃ R : va_W, R = [(q_1, .inl (k_2, 12, .inl (fun _ => 0))), (q_3, .inl (k_4, 12, .inl (fun _ => 0))), (q_5, .inl (k_6, 500, .inl (fun _ => 0))), (q_7, .inl (k_8, 6000, .inl (fun _ => 0))), (q_9, .inl (k_10, 500, .inl (fun _ => 0))), (q_11, .inl (k_12, 40, .inl (fun _ => 0))), (q_13, .inl (k_14, 40, .inl (fun _ => 0))), (q_15, .inl (k_16, 40, .inl (fun _ => 0))), (q_17, .inl (k_18, 40, .inl (fun _ => 0))), (q_19, .inl (k_20, 240, .inl (fun _ => 0))), (q_21, .inl (k_22, 240, .inl (fun _ => 0))), (q_23, .inl (k_24, 40, .inl (fun _ => 0))), (q_25, .inl (k_26, 40, .inl (fun _ => 0))), (q_27, .inl (k_28, 40, .inl (fun _ => 0))), (q_29, .inl (k_30, 40, .inl (fun _ => 0))), (q_31, .inl (k_32, 12, .inl (fun _ => 0))), (q_33, .inl (k_34, 480, .inl (fun _ => 0))), (q_35, .inl (k_36, 20, .inl (fun _ => 0)))] := ⟨_, rfl⟩
  have eR : R_17 ++ [(q_35, .inl (k_36, 20, .inl (fun _ => 0)))] = R_18 := by rw [hR_17, hR_18]; rfl
  have hP : va_P (dC, dI) vwCl ((h_0, .inr (7, F_18)) :: R_18) H := by rw [← eR]; exact hP
  have hD : va_D A ((h_0, .inr (7, F_18)) :: R_18) := by rw [← eR]; exact hD
  obtain ⟨T_18, hT_18⟩ : ∃ T : List (ClassId × FieldType), T = [(k_2, .int), (k_4, .int), (k_6, .boolean), (k_8, .int), (k_10, .boolean), (k_12, .int), (k_14, .int), (k_16, .int), (k_18, .int), (k_20, .int), (k_22, .int), (k_24, .int), (k_26, .int), (k_28, .int), (k_30, .boolean), (k_32, .int), (k_34, .int), (k_36, .int)] := ⟨_, rfl⟩
  have hK : va_K (dC, dI) vwCl T_18 s := by rw [show T_18 = T_17 ++ [(k_36, .int)] from by rw [hT_17, hT_18]; rfl]; exact hK
  clear eR hR_17 hT_17
  refine va_putF (D := (dC, dI)) (ci := 7) (v := .ref q_35) (ty := .array (.int)) (C := R_Md) (T := F_Md) (N := 64) (fs := F_18) hx hb htb i_Md t_Md t_Md_ok n_Md hown hK hP hD hS 0 rfl rfl 22 (by decide) (htb (.fieldLink R_Md 94 "WaterMenModel" "boatOars" "[I") tw_23) (fun _ h9 => h9) rfl hin rfl (by decide +kernel) rfl rfl (by omega) d_Md_init_156 (fun H locs hP hD hS => ?_)
  obtain ⟨F_19, hF_19⟩ : ∃ F : List Value, F = [.int 0, .int 0, .int 0, .ref q_1, .int (-1), .ref q_3, .ref q_5, .ref q_7, .ref q_9, .ref q_11, .ref q_13, .ref q_15, .ref q_17, .ref q_19, .ref q_21, .ref q_23, .ref q_25, .ref q_27, .ref q_29, .ref q_31, .ref q_33, .int 0, .ref q_35, .null, .null, .null, .null, .null, .int 0, .int 0, .null, .null, .null, .null, .null, .null, .null, .null, .null, .null, .null, .null, .int 0, .int 0, .int 0, .int 0, .int 0, .int 0, .null, .null, .null, .null, .null, .null, .null, .null, .long 0, .long 0, .long 0, .null, .int 0, .null, .null, .null] := ⟨_, rfl⟩
  have eF : F_18.set 22 (.ref q_35) = F_19 := by rw [hF_18, hF_19]; rfl
  have hP : va_P (dC, dI) vwCl ((h_0, .inr (7, F_19)) :: R_18) H := by rw [← eF]; exact hP
  have hD : va_D A ((h_0, .inr (7, F_19)) :: R_18) := by rw [← eF]; exact hD
  have hl_19 : F_19.length = 64 := by rw [hF_19]; rfl
  clear eF hF_18 hl_18
  refine lv_aload_n hx hb d_Md_init_159 rfl (lv_at hl 0 rfl) ?_
  refine lv_bipush (v := 20) hx hb d_Md_init_160 (by decide +kernel) ?_
  refine va_newa (atype := .int) (ty := .int) (N' := 20) (a0 := (20, .inl (fun _ => 0))) hx hb (htb (.arrayClass .int) tw_3) rfl hK hP hD hS hA (fun _ => rfl) (by decide +kernel) (by decide +kernel) (by decide +kernel) (by decide +kernel) (by decide +kernel) d_Md_init_162 (fun q_37 k_38 H hK hP hD hS => ?_)
  refine W.widen (k := 19) (n := 8356) (by decide +kernel) (by decide +kernel) ?_
  obtain ⟨R_19, hR_19⟩ : ∃ R : va_W, R = [(q_1, .inl (k_2, 12, .inl (fun _ => 0))), (q_3, .inl (k_4, 12, .inl (fun _ => 0))), (q_5, .inl (k_6, 500, .inl (fun _ => 0))), (q_7, .inl (k_8, 6000, .inl (fun _ => 0))), (q_9, .inl (k_10, 500, .inl (fun _ => 0))), (q_11, .inl (k_12, 40, .inl (fun _ => 0))), (q_13, .inl (k_14, 40, .inl (fun _ => 0))), (q_15, .inl (k_16, 40, .inl (fun _ => 0))), (q_17, .inl (k_18, 40, .inl (fun _ => 0))), (q_19, .inl (k_20, 240, .inl (fun _ => 0))), (q_21, .inl (k_22, 240, .inl (fun _ => 0))), (q_23, .inl (k_24, 40, .inl (fun _ => 0))), (q_25, .inl (k_26, 40, .inl (fun _ => 0))), (q_27, .inl (k_28, 40, .inl (fun _ => 0))), (q_29, .inl (k_30, 40, .inl (fun _ => 0))), (q_31, .inl (k_32, 12, .inl (fun _ => 0))), (q_33, .inl (k_34, 480, .inl (fun _ => 0))), (q_35, .inl (k_36, 20, .inl (fun _ => 0))), (q_37, .inl (k_38, 20, .inl (fun _ => 0)))] := ⟨_, rfl⟩
  have eR : R_18 ++ [(q_37, .inl (k_38, 20, .inl (fun _ => 0)))] = R_19 := by rw [hR_18, hR_19]; rfl
  have hP : va_P (dC, dI) vwCl ((h_0, .inr (7, F_19)) :: R_19) H := by rw [← eR]; exact hP
  have hD : va_D A ((h_0, .inr (7, F_19)) :: R_19) := by rw [← eR]; exact hD
  obtain ⟨T_19, hT_19⟩ : ∃ T : List (ClassId × FieldType), T = [(k_2, .int), (k_4, .int), (k_6, .boolean), (k_8, .int), (k_10, .boolean), (k_12, .int), (k_14, .int), (k_16, .int), (k_18, .int), (k_20, .int), (k_22, .int), (k_24, .int), (k_26, .int), (k_28, .int), (k_30, .boolean), (k_32, .int), (k_34, .int), (k_36, .int), (k_38, .int)] := ⟨_, rfl⟩
  have hK : va_K (dC, dI) vwCl T_19 s := by rw [show T_19 = T_18 ++ [(k_38, .int)] from by rw [hT_18, hT_19]; rfl]; exact hK
  clear eR hR_18 hT_18
  refine va_putF (D := (dC, dI)) (ci := 7) (v := .ref q_37) (ty := .array (.int)) (C := R_Md) (T := F_Md) (N := 64) (fs := F_19) hx hb htb i_Md t_Md t_Md_ok n_Md hown hK hP hD hS 0 rfl rfl 23 (by decide) (htb (.fieldLink R_Md 97 "WaterMenModel" "boatAt" "[I") tw_24) (fun _ h9 => h9) rfl hin rfl (by decide +kernel) rfl rfl (by omega) d_Md_init_164 (fun H locs hP hD hS => ?_)
  obtain ⟨F_20, hF_20⟩ : ∃ F : List Value, F = [.int 0, .int 0, .int 0, .ref q_1, .int (-1), .ref q_3, .ref q_5, .ref q_7, .ref q_9, .ref q_11, .ref q_13, .ref q_15, .ref q_17, .ref q_19, .ref q_21, .ref q_23, .ref q_25, .ref q_27, .ref q_29, .ref q_31, .ref q_33, .int 0, .ref q_35, .ref q_37, .null, .null, .null, .null, .int 0, .int 0, .null, .null, .null, .null, .null, .null, .null, .null, .null, .null, .null, .null, .int 0, .int 0, .int 0, .int 0, .int 0, .int 0, .null, .null, .null, .null, .null, .null, .null, .null, .long 0, .long 0, .long 0, .null, .int 0, .null, .null, .null] := ⟨_, rfl⟩
  have eF : F_19.set 23 (.ref q_37) = F_20 := by rw [hF_19, hF_20]; rfl
  have hP : va_P (dC, dI) vwCl ((h_0, .inr (7, F_20)) :: R_19) H := by rw [← eF]; exact hP
  have hD : va_D A ((h_0, .inr (7, F_20)) :: R_19) := by rw [← eF]; exact hD
  have hl_20 : F_20.length = 64 := by rw [hF_20]; rfl
  clear eF hF_19 hl_19
  refine lv_aload_n hx hb d_Md_init_167 rfl (lv_at hl 0 rfl) ?_
  refine lv_bipush (v := 20) hx hb d_Md_init_168 (by decide +kernel) ?_
  refine va_newa (atype := .int) (ty := .int) (N' := 20) (a0 := (20, .inl (fun _ => 0))) hx hb (htb (.arrayClass .int) tw_3) rfl hK hP hD hS hA (fun _ => rfl) (by decide +kernel) (by decide +kernel) (by decide +kernel) (by decide +kernel) (by decide +kernel) d_Md_init_170 (fun q_39 k_40 H hK hP hD hS => ?_)
  refine W.widen (k := 20) (n := 8376) (by decide +kernel) (by decide +kernel) ?_
  obtain ⟨R_20, hR_20⟩ : ∃ R : va_W, R = [(q_1, .inl (k_2, 12, .inl (fun _ => 0))), (q_3, .inl (k_4, 12, .inl (fun _ => 0))), (q_5, .inl (k_6, 500, .inl (fun _ => 0))), (q_7, .inl (k_8, 6000, .inl (fun _ => 0))), (q_9, .inl (k_10, 500, .inl (fun _ => 0))), (q_11, .inl (k_12, 40, .inl (fun _ => 0))), (q_13, .inl (k_14, 40, .inl (fun _ => 0))), (q_15, .inl (k_16, 40, .inl (fun _ => 0))), (q_17, .inl (k_18, 40, .inl (fun _ => 0))), (q_19, .inl (k_20, 240, .inl (fun _ => 0))), (q_21, .inl (k_22, 240, .inl (fun _ => 0))), (q_23, .inl (k_24, 40, .inl (fun _ => 0))), (q_25, .inl (k_26, 40, .inl (fun _ => 0))), (q_27, .inl (k_28, 40, .inl (fun _ => 0))), (q_29, .inl (k_30, 40, .inl (fun _ => 0))), (q_31, .inl (k_32, 12, .inl (fun _ => 0))), (q_33, .inl (k_34, 480, .inl (fun _ => 0))), (q_35, .inl (k_36, 20, .inl (fun _ => 0))), (q_37, .inl (k_38, 20, .inl (fun _ => 0))), (q_39, .inl (k_40, 20, .inl (fun _ => 0)))] := ⟨_, rfl⟩
  have eR : R_19 ++ [(q_39, .inl (k_40, 20, .inl (fun _ => 0)))] = R_20 := by rw [hR_19, hR_20]; rfl
  have hP : va_P (dC, dI) vwCl ((h_0, .inr (7, F_20)) :: R_20) H := by rw [← eR]; exact hP
  have hD : va_D A ((h_0, .inr (7, F_20)) :: R_20) := by rw [← eR]; exact hD
  obtain ⟨T_20, hT_20⟩ : ∃ T : List (ClassId × FieldType), T = [(k_2, .int), (k_4, .int), (k_6, .boolean), (k_8, .int), (k_10, .boolean), (k_12, .int), (k_14, .int), (k_16, .int), (k_18, .int), (k_20, .int), (k_22, .int), (k_24, .int), (k_26, .int), (k_28, .int), (k_30, .boolean), (k_32, .int), (k_34, .int), (k_36, .int), (k_38, .int), (k_40, .int)] := ⟨_, rfl⟩
  have hK : va_K (dC, dI) vwCl T_20 s := by rw [show T_20 = T_19 ++ [(k_40, .int)] from by rw [hT_19, hT_20]; rfl]; exact hK
  clear eR hR_19 hT_19
  refine va_putF (D := (dC, dI)) (ci := 7) (v := .ref q_39) (ty := .array (.int)) (C := R_Md) (T := F_Md) (N := 64) (fs := F_20) hx hb htb i_Md t_Md t_Md_ok n_Md hown hK hP hD hS 0 rfl rfl 24 (by decide) (htb (.fieldLink R_Md 100 "WaterMenModel" "boatFrom" "[I") tw_25) (fun _ h9 => h9) rfl hin rfl (by decide +kernel) rfl rfl (by omega) d_Md_init_172 (fun H locs hP hD hS => ?_)
  obtain ⟨F_21, hF_21⟩ : ∃ F : List Value, F = [.int 0, .int 0, .int 0, .ref q_1, .int (-1), .ref q_3, .ref q_5, .ref q_7, .ref q_9, .ref q_11, .ref q_13, .ref q_15, .ref q_17, .ref q_19, .ref q_21, .ref q_23, .ref q_25, .ref q_27, .ref q_29, .ref q_31, .ref q_33, .int 0, .ref q_35, .ref q_37, .ref q_39, .null, .null, .null, .int 0, .int 0, .null, .null, .null, .null, .null, .null, .null, .null, .null, .null, .null, .null, .int 0, .int 0, .int 0, .int 0, .int 0, .int 0, .null, .null, .null, .null, .null, .null, .null, .null, .long 0, .long 0, .long 0, .null, .int 0, .null, .null, .null] := ⟨_, rfl⟩
  have eF : F_20.set 24 (.ref q_39) = F_21 := by rw [hF_20, hF_21]; rfl
  have hP : va_P (dC, dI) vwCl ((h_0, .inr (7, F_21)) :: R_20) H := by rw [← eF]; exact hP
  have hD : va_D A ((h_0, .inr (7, F_21)) :: R_20) := by rw [← eF]; exact hD
  have hl_21 : F_21.length = 64 := by rw [hF_21]; rfl
  clear eF hF_20 hl_20
  refine lv_aload_n hx hb d_Md_init_175 rfl (lv_at hl 0 rfl) ?_
  refine lv_bipush (v := 20) hx hb d_Md_init_176 (by decide +kernel) ?_
  refine va_newa (atype := .int) (ty := .int) (N' := 20) (a0 := (20, .inl (fun _ => 0))) hx hb (htb (.arrayClass .int) tw_3) rfl hK hP hD hS hA (fun _ => rfl) (by decide +kernel) (by decide +kernel) (by decide +kernel) (by decide +kernel) (by decide +kernel) d_Md_init_178 (fun q_41 k_42 H hK hP hD hS => ?_)
  refine W.widen (k := 21) (n := 8396) (by decide +kernel) (by decide +kernel) ?_
  obtain ⟨R_21, hR_21⟩ : ∃ R : va_W, R = [(q_1, .inl (k_2, 12, .inl (fun _ => 0))), (q_3, .inl (k_4, 12, .inl (fun _ => 0))), (q_5, .inl (k_6, 500, .inl (fun _ => 0))), (q_7, .inl (k_8, 6000, .inl (fun _ => 0))), (q_9, .inl (k_10, 500, .inl (fun _ => 0))), (q_11, .inl (k_12, 40, .inl (fun _ => 0))), (q_13, .inl (k_14, 40, .inl (fun _ => 0))), (q_15, .inl (k_16, 40, .inl (fun _ => 0))), (q_17, .inl (k_18, 40, .inl (fun _ => 0))), (q_19, .inl (k_20, 240, .inl (fun _ => 0))), (q_21, .inl (k_22, 240, .inl (fun _ => 0))), (q_23, .inl (k_24, 40, .inl (fun _ => 0))), (q_25, .inl (k_26, 40, .inl (fun _ => 0))), (q_27, .inl (k_28, 40, .inl (fun _ => 0))), (q_29, .inl (k_30, 40, .inl (fun _ => 0))), (q_31, .inl (k_32, 12, .inl (fun _ => 0))), (q_33, .inl (k_34, 480, .inl (fun _ => 0))), (q_35, .inl (k_36, 20, .inl (fun _ => 0))), (q_37, .inl (k_38, 20, .inl (fun _ => 0))), (q_39, .inl (k_40, 20, .inl (fun _ => 0))), (q_41, .inl (k_42, 20, .inl (fun _ => 0)))] := ⟨_, rfl⟩
  have eR : R_20 ++ [(q_41, .inl (k_42, 20, .inl (fun _ => 0)))] = R_21 := by rw [hR_20, hR_21]; rfl
  have hP : va_P (dC, dI) vwCl ((h_0, .inr (7, F_21)) :: R_21) H := by rw [← eR]; exact hP
  have hD : va_D A ((h_0, .inr (7, F_21)) :: R_21) := by rw [← eR]; exact hD
  obtain ⟨T_21, hT_21⟩ : ∃ T : List (ClassId × FieldType), T = [(k_2, .int), (k_4, .int), (k_6, .boolean), (k_8, .int), (k_10, .boolean), (k_12, .int), (k_14, .int), (k_16, .int), (k_18, .int), (k_20, .int), (k_22, .int), (k_24, .int), (k_26, .int), (k_28, .int), (k_30, .boolean), (k_32, .int), (k_34, .int), (k_36, .int), (k_38, .int), (k_40, .int), (k_42, .int)] := ⟨_, rfl⟩
  have hK : va_K (dC, dI) vwCl T_21 s := by rw [show T_21 = T_20 ++ [(k_42, .int)] from by rw [hT_20, hT_21]; rfl]; exact hK
  clear eR hR_20 hT_20
  refine va_putF (D := (dC, dI)) (ci := 7) (v := .ref q_41) (ty := .array (.int)) (C := R_Md) (T := F_Md) (N := 64) (fs := F_21) hx hb htb i_Md t_Md t_Md_ok n_Md hown hK hP hD hS 0 rfl rfl 25 (by decide) (htb (.fieldLink R_Md 103 "WaterMenModel" "boatTrip" "[I") tw_26) (fun _ h9 => h9) rfl hin rfl (by decide +kernel) rfl rfl (by omega) d_Md_init_180 (fun H locs hP hD hS => ?_)
  obtain ⟨F_22, hF_22⟩ : ∃ F : List Value, F = [.int 0, .int 0, .int 0, .ref q_1, .int (-1), .ref q_3, .ref q_5, .ref q_7, .ref q_9, .ref q_11, .ref q_13, .ref q_15, .ref q_17, .ref q_19, .ref q_21, .ref q_23, .ref q_25, .ref q_27, .ref q_29, .ref q_31, .ref q_33, .int 0, .ref q_35, .ref q_37, .ref q_39, .ref q_41, .null, .null, .int 0, .int 0, .null, .null, .null, .null, .null, .null, .null, .null, .null, .null, .null, .null, .int 0, .int 0, .int 0, .int 0, .int 0, .int 0, .null, .null, .null, .null, .null, .null, .null, .null, .long 0, .long 0, .long 0, .null, .int 0, .null, .null, .null] := ⟨_, rfl⟩
  have eF : F_21.set 25 (.ref q_41) = F_22 := by rw [hF_21, hF_22]; rfl
  have hP : va_P (dC, dI) vwCl ((h_0, .inr (7, F_22)) :: R_21) H := by rw [← eF]; exact hP
  have hD : va_D A ((h_0, .inr (7, F_22)) :: R_21) := by rw [← eF]; exact hD
  have hl_22 : F_22.length = 64 := by rw [hF_22]; rfl
  clear eF hF_21 hl_21
  refine lv_aload_n hx hb d_Md_init_183 rfl (lv_at hl 0 rfl) ?_
  refine lv_bipush (v := 20) hx hb d_Md_init_184 (by decide +kernel) ?_
  refine va_newa (atype := .boolean) (ty := .boolean) (N' := 20) (a0 := (20, .inl (fun _ => 0))) hx hb (htb (.arrayClass .boolean) tw_7) rfl hK hP hD hS hA (fun _ => rfl) (by decide +kernel) (by decide +kernel) (by decide +kernel) (by decide +kernel) (by decide +kernel) d_Md_init_186 (fun q_43 k_44 H hK hP hD hS => ?_)
  refine W.widen (k := 22) (n := 8416) (by decide +kernel) (by decide +kernel) ?_
  obtain ⟨R_22, hR_22⟩ : ∃ R : va_W, R = [(q_1, .inl (k_2, 12, .inl (fun _ => 0))), (q_3, .inl (k_4, 12, .inl (fun _ => 0))), (q_5, .inl (k_6, 500, .inl (fun _ => 0))), (q_7, .inl (k_8, 6000, .inl (fun _ => 0))), (q_9, .inl (k_10, 500, .inl (fun _ => 0))), (q_11, .inl (k_12, 40, .inl (fun _ => 0))), (q_13, .inl (k_14, 40, .inl (fun _ => 0))), (q_15, .inl (k_16, 40, .inl (fun _ => 0))), (q_17, .inl (k_18, 40, .inl (fun _ => 0))), (q_19, .inl (k_20, 240, .inl (fun _ => 0))), (q_21, .inl (k_22, 240, .inl (fun _ => 0))), (q_23, .inl (k_24, 40, .inl (fun _ => 0))), (q_25, .inl (k_26, 40, .inl (fun _ => 0))), (q_27, .inl (k_28, 40, .inl (fun _ => 0))), (q_29, .inl (k_30, 40, .inl (fun _ => 0))), (q_31, .inl (k_32, 12, .inl (fun _ => 0))), (q_33, .inl (k_34, 480, .inl (fun _ => 0))), (q_35, .inl (k_36, 20, .inl (fun _ => 0))), (q_37, .inl (k_38, 20, .inl (fun _ => 0))), (q_39, .inl (k_40, 20, .inl (fun _ => 0))), (q_41, .inl (k_42, 20, .inl (fun _ => 0))), (q_43, .inl (k_44, 20, .inl (fun _ => 0)))] := ⟨_, rfl⟩
  have eR : R_21 ++ [(q_43, .inl (k_44, 20, .inl (fun _ => 0)))] = R_22 := by rw [hR_21, hR_22]; rfl
  have hP : va_P (dC, dI) vwCl ((h_0, .inr (7, F_22)) :: R_22) H := by rw [← eR]; exact hP
  have hD : va_D A ((h_0, .inr (7, F_22)) :: R_22) := by rw [← eR]; exact hD
  obtain ⟨T_22, hT_22⟩ : ∃ T : List (ClassId × FieldType), T = [(k_2, .int), (k_4, .int), (k_6, .boolean), (k_8, .int), (k_10, .boolean), (k_12, .int), (k_14, .int), (k_16, .int), (k_18, .int), (k_20, .int), (k_22, .int), (k_24, .int), (k_26, .int), (k_28, .int), (k_30, .boolean), (k_32, .int), (k_34, .int), (k_36, .int), (k_38, .int), (k_40, .int), (k_42, .int), (k_44, .boolean)] := ⟨_, rfl⟩
  have hK : va_K (dC, dI) vwCl T_22 s := by rw [show T_22 = T_21 ++ [(k_44, .boolean)] from by rw [hT_21, hT_22]; rfl]; exact hK
  clear eR hR_21 hT_21
  refine va_putF (D := (dC, dI)) (ci := 7) (v := .ref q_43) (ty := .array (.boolean)) (C := R_Md) (T := F_Md) (N := 64) (fs := F_22) hx hb htb i_Md t_Md t_Md_ok n_Md hown hK hP hD hS 0 rfl rfl 26 (by decide) (htb (.fieldLink R_Md 106 "WaterMenModel" "sunk" "[Z") tw_27) (fun _ h9 => h9) rfl hin rfl (by decide +kernel) rfl rfl (by omega) d_Md_init_188 (fun H locs hP hD hS => ?_)
  obtain ⟨F_23, hF_23⟩ : ∃ F : List Value, F = [.int 0, .int 0, .int 0, .ref q_1, .int (-1), .ref q_3, .ref q_5, .ref q_7, .ref q_9, .ref q_11, .ref q_13, .ref q_15, .ref q_17, .ref q_19, .ref q_21, .ref q_23, .ref q_25, .ref q_27, .ref q_29, .ref q_31, .ref q_33, .int 0, .ref q_35, .ref q_37, .ref q_39, .ref q_41, .ref q_43, .null, .int 0, .int 0, .null, .null, .null, .null, .null, .null, .null, .null, .null, .null, .null, .null, .int 0, .int 0, .int 0, .int 0, .int 0, .int 0, .null, .null, .null, .null, .null, .null, .null, .null, .long 0, .long 0, .long 0, .null, .int 0, .null, .null, .null] := ⟨_, rfl⟩
  have eF : F_22.set 26 (.ref q_43) = F_23 := by rw [hF_22, hF_23]; rfl
  have hP : va_P (dC, dI) vwCl ((h_0, .inr (7, F_23)) :: R_22) H := by rw [← eF]; exact hP
  have hD : va_D A ((h_0, .inr (7, F_23)) :: R_22) := by rw [← eF]; exact hD
  have hl_23 : F_23.length = 64 := by rw [hF_23]; rfl
  clear eF hF_22 hl_22
  refine lv_aload_n hx hb d_Md_init_191 rfl (lv_at hl 0 rfl) ?_
  refine lv_sipush (v := 400) hx hb d_Md_init_192 (by decide +kernel) ?_
  refine va_newa (atype := .byte) (ty := .byte) (N' := 400) (a0 := (400, .inl (fun _ => 0))) hx hb (htb (.arrayClass .byte) tw_28) rfl hK hP hD hS hA (fun _ => rfl) (by decide +kernel) (by decide +kernel) (by decide +kernel) (by decide +kernel) (by decide +kernel) d_Md_init_195 (fun q_45 k_46 H hK hP hD hS => ?_)
  refine W.widen (k := 23) (n := 8816) (by decide +kernel) (by decide +kernel) ?_
  obtain ⟨R_23, hR_23⟩ : ∃ R : va_W, R = [(q_1, .inl (k_2, 12, .inl (fun _ => 0))), (q_3, .inl (k_4, 12, .inl (fun _ => 0))), (q_5, .inl (k_6, 500, .inl (fun _ => 0))), (q_7, .inl (k_8, 6000, .inl (fun _ => 0))), (q_9, .inl (k_10, 500, .inl (fun _ => 0))), (q_11, .inl (k_12, 40, .inl (fun _ => 0))), (q_13, .inl (k_14, 40, .inl (fun _ => 0))), (q_15, .inl (k_16, 40, .inl (fun _ => 0))), (q_17, .inl (k_18, 40, .inl (fun _ => 0))), (q_19, .inl (k_20, 240, .inl (fun _ => 0))), (q_21, .inl (k_22, 240, .inl (fun _ => 0))), (q_23, .inl (k_24, 40, .inl (fun _ => 0))), (q_25, .inl (k_26, 40, .inl (fun _ => 0))), (q_27, .inl (k_28, 40, .inl (fun _ => 0))), (q_29, .inl (k_30, 40, .inl (fun _ => 0))), (q_31, .inl (k_32, 12, .inl (fun _ => 0))), (q_33, .inl (k_34, 480, .inl (fun _ => 0))), (q_35, .inl (k_36, 20, .inl (fun _ => 0))), (q_37, .inl (k_38, 20, .inl (fun _ => 0))), (q_39, .inl (k_40, 20, .inl (fun _ => 0))), (q_41, .inl (k_42, 20, .inl (fun _ => 0))), (q_43, .inl (k_44, 20, .inl (fun _ => 0))), (q_45, .inl (k_46, 400, .inl (fun _ => 0)))] := ⟨_, rfl⟩
  have eR : R_22 ++ [(q_45, .inl (k_46, 400, .inl (fun _ => 0)))] = R_23 := by rw [hR_22, hR_23]; rfl
  have hP : va_P (dC, dI) vwCl ((h_0, .inr (7, F_23)) :: R_23) H := by rw [← eR]; exact hP
  have hD : va_D A ((h_0, .inr (7, F_23)) :: R_23) := by rw [← eR]; exact hD
  obtain ⟨T_23, hT_23⟩ : ∃ T : List (ClassId × FieldType), T = [(k_2, .int), (k_4, .int), (k_6, .boolean), (k_8, .int), (k_10, .boolean), (k_12, .int), (k_14, .int), (k_16, .int), (k_18, .int), (k_20, .int), (k_22, .int), (k_24, .int), (k_26, .int), (k_28, .int), (k_30, .boolean), (k_32, .int), (k_34, .int), (k_36, .int), (k_38, .int), (k_40, .int), (k_42, .int), (k_44, .boolean), (k_46, .byte)] := ⟨_, rfl⟩
  have hK : va_K (dC, dI) vwCl T_23 s := by rw [show T_23 = T_22 ++ [(k_46, .byte)] from by rw [hT_22, hT_23]; rfl]; exact hK
  clear eR hR_22 hT_22
  refine va_putF (D := (dC, dI)) (ci := 7) (v := .ref q_45) (ty := .array (.byte)) (C := R_Md) (T := F_Md) (N := 64) (fs := F_23) hx hb htb i_Md t_Md t_Md_ok n_Md hown hK hP hD hS 0 rfl rfl 27 (by decide) (htb (.fieldLink R_Md 109 "WaterMenModel" "tape" "[B") tw_29) (fun _ h9 => h9) rfl hin rfl (by decide +kernel) rfl rfl (by omega) d_Md_init_197 (fun H locs hP hD hS => ?_)
  obtain ⟨F_24, hF_24⟩ : ∃ F : List Value, F = [.int 0, .int 0, .int 0, .ref q_1, .int (-1), .ref q_3, .ref q_5, .ref q_7, .ref q_9, .ref q_11, .ref q_13, .ref q_15, .ref q_17, .ref q_19, .ref q_21, .ref q_23, .ref q_25, .ref q_27, .ref q_29, .ref q_31, .ref q_33, .int 0, .ref q_35, .ref q_37, .ref q_39, .ref q_41, .ref q_43, .ref q_45, .int 0, .int 0, .null, .null, .null, .null, .null, .null, .null, .null, .null, .null, .null, .null, .int 0, .int 0, .int 0, .int 0, .int 0, .int 0, .null, .null, .null, .null, .null, .null, .null, .null, .long 0, .long 0, .long 0, .null, .int 0, .null, .null, .null] := ⟨_, rfl⟩
  have eF : F_23.set 27 (.ref q_45) = F_24 := by rw [hF_23, hF_24]; rfl
  have hP : va_P (dC, dI) vwCl ((h_0, .inr (7, F_24)) :: R_23) H := by rw [← eF]; exact hP
  have hD : va_D A ((h_0, .inr (7, F_24)) :: R_23) := by rw [← eF]; exact hD
  have hl_24 : F_24.length = 64 := by rw [hF_24]; rfl
  clear eF hF_23 hl_23
  refine lv_aload_n hx hb d_Md_init_200 rfl (lv_at hl 0 rfl) ?_
  refine lv_bipush (v := 20) hx hb d_Md_init_201 (by decide +kernel) ?_
  refine va_newa (atype := .int) (ty := .int) (N' := 20) (a0 := (20, .inl (fun _ => 0))) hx hb (htb (.arrayClass .int) tw_3) rfl hK hP hD hS hA (fun _ => rfl) (by decide +kernel) (by decide +kernel) (by decide +kernel) (by decide +kernel) (by decide +kernel) d_Md_init_203 (fun q_47 k_48 H hK hP hD hS => ?_)
  refine W.widen (k := 24) (n := 8836) (by decide +kernel) (by decide +kernel) ?_
  obtain ⟨R_24, hR_24⟩ : ∃ R : va_W, R = [(q_1, .inl (k_2, 12, .inl (fun _ => 0))), (q_3, .inl (k_4, 12, .inl (fun _ => 0))), (q_5, .inl (k_6, 500, .inl (fun _ => 0))), (q_7, .inl (k_8, 6000, .inl (fun _ => 0))), (q_9, .inl (k_10, 500, .inl (fun _ => 0))), (q_11, .inl (k_12, 40, .inl (fun _ => 0))), (q_13, .inl (k_14, 40, .inl (fun _ => 0))), (q_15, .inl (k_16, 40, .inl (fun _ => 0))), (q_17, .inl (k_18, 40, .inl (fun _ => 0))), (q_19, .inl (k_20, 240, .inl (fun _ => 0))), (q_21, .inl (k_22, 240, .inl (fun _ => 0))), (q_23, .inl (k_24, 40, .inl (fun _ => 0))), (q_25, .inl (k_26, 40, .inl (fun _ => 0))), (q_27, .inl (k_28, 40, .inl (fun _ => 0))), (q_29, .inl (k_30, 40, .inl (fun _ => 0))), (q_31, .inl (k_32, 12, .inl (fun _ => 0))), (q_33, .inl (k_34, 480, .inl (fun _ => 0))), (q_35, .inl (k_36, 20, .inl (fun _ => 0))), (q_37, .inl (k_38, 20, .inl (fun _ => 0))), (q_39, .inl (k_40, 20, .inl (fun _ => 0))), (q_41, .inl (k_42, 20, .inl (fun _ => 0))), (q_43, .inl (k_44, 20, .inl (fun _ => 0))), (q_45, .inl (k_46, 400, .inl (fun _ => 0))), (q_47, .inl (k_48, 20, .inl (fun _ => 0)))] := ⟨_, rfl⟩
  have eR : R_23 ++ [(q_47, .inl (k_48, 20, .inl (fun _ => 0)))] = R_24 := by rw [hR_23, hR_24]; rfl
  have hP : va_P (dC, dI) vwCl ((h_0, .inr (7, F_24)) :: R_24) H := by rw [← eR]; exact hP
  have hD : va_D A ((h_0, .inr (7, F_24)) :: R_24) := by rw [← eR]; exact hD
  obtain ⟨T_24, hT_24⟩ : ∃ T : List (ClassId × FieldType), T = [(k_2, .int), (k_4, .int), (k_6, .boolean), (k_8, .int), (k_10, .boolean), (k_12, .int), (k_14, .int), (k_16, .int), (k_18, .int), (k_20, .int), (k_22, .int), (k_24, .int), (k_26, .int), (k_28, .int), (k_30, .boolean), (k_32, .int), (k_34, .int), (k_36, .int), (k_38, .int), (k_40, .int), (k_42, .int), (k_44, .boolean), (k_46, .byte), (k_48, .int)] := ⟨_, rfl⟩
  have hK : va_K (dC, dI) vwCl T_24 s := by rw [show T_24 = T_23 ++ [(k_48, .int)] from by rw [hT_23, hT_24]; rfl]; exact hK
  clear eR hR_23 hT_23
  refine va_putF (D := (dC, dI)) (ci := 7) (v := .ref q_47) (ty := .array (.int)) (C := R_Md) (T := F_Md) (N := 64) (fs := F_24) hx hb htb i_Md t_Md t_Md_ok n_Md hown hK hP hD hS 0 rfl rfl 30 (by decide) (htb (.fieldLink R_Md 113 "WaterMenModel" "orderFrom" "[I") tw_30) (fun _ h9 => h9) rfl hin rfl (by decide +kernel) rfl rfl (by omega) d_Md_init_205 (fun H locs hP hD hS => ?_)
  obtain ⟨F_25, hF_25⟩ : ∃ F : List Value, F = [.int 0, .int 0, .int 0, .ref q_1, .int (-1), .ref q_3, .ref q_5, .ref q_7, .ref q_9, .ref q_11, .ref q_13, .ref q_15, .ref q_17, .ref q_19, .ref q_21, .ref q_23, .ref q_25, .ref q_27, .ref q_29, .ref q_31, .ref q_33, .int 0, .ref q_35, .ref q_37, .ref q_39, .ref q_41, .ref q_43, .ref q_45, .int 0, .int 0, .ref q_47, .null, .null, .null, .null, .null, .null, .null, .null, .null, .null, .null, .int 0, .int 0, .int 0, .int 0, .int 0, .int 0, .null, .null, .null, .null, .null, .null, .null, .null, .long 0, .long 0, .long 0, .null, .int 0, .null, .null, .null] := ⟨_, rfl⟩
  have eF : F_24.set 30 (.ref q_47) = F_25 := by rw [hF_24, hF_25]; rfl
  have hP : va_P (dC, dI) vwCl ((h_0, .inr (7, F_25)) :: R_24) H := by rw [← eF]; exact hP
  have hD : va_D A ((h_0, .inr (7, F_25)) :: R_24) := by rw [← eF]; exact hD
  have hl_25 : F_25.length = 64 := by rw [hF_25]; rfl
  clear eF hF_24 hl_24
  refine lv_aload_n hx hb d_Md_init_208 rfl (lv_at hl 0 rfl) ?_
  refine lv_bipush (v := 20) hx hb d_Md_init_209 (by decide +kernel) ?_
  refine va_newa (atype := .int) (ty := .int) (N' := 20) (a0 := (20, .inl (fun _ => 0))) hx hb (htb (.arrayClass .int) tw_3) rfl hK hP hD hS hA (fun _ => rfl) (by decide +kernel) (by decide +kernel) (by decide +kernel) (by decide +kernel) (by decide +kernel) d_Md_init_211 (fun q_49 k_50 H hK hP hD hS => ?_)
  refine W.widen (k := 25) (n := 8856) (by decide +kernel) (by decide +kernel) ?_
  obtain ⟨R_25, hR_25⟩ : ∃ R : va_W, R = [(q_1, .inl (k_2, 12, .inl (fun _ => 0))), (q_3, .inl (k_4, 12, .inl (fun _ => 0))), (q_5, .inl (k_6, 500, .inl (fun _ => 0))), (q_7, .inl (k_8, 6000, .inl (fun _ => 0))), (q_9, .inl (k_10, 500, .inl (fun _ => 0))), (q_11, .inl (k_12, 40, .inl (fun _ => 0))), (q_13, .inl (k_14, 40, .inl (fun _ => 0))), (q_15, .inl (k_16, 40, .inl (fun _ => 0))), (q_17, .inl (k_18, 40, .inl (fun _ => 0))), (q_19, .inl (k_20, 240, .inl (fun _ => 0))), (q_21, .inl (k_22, 240, .inl (fun _ => 0))), (q_23, .inl (k_24, 40, .inl (fun _ => 0))), (q_25, .inl (k_26, 40, .inl (fun _ => 0))), (q_27, .inl (k_28, 40, .inl (fun _ => 0))), (q_29, .inl (k_30, 40, .inl (fun _ => 0))), (q_31, .inl (k_32, 12, .inl (fun _ => 0))), (q_33, .inl (k_34, 480, .inl (fun _ => 0))), (q_35, .inl (k_36, 20, .inl (fun _ => 0))), (q_37, .inl (k_38, 20, .inl (fun _ => 0))), (q_39, .inl (k_40, 20, .inl (fun _ => 0))), (q_41, .inl (k_42, 20, .inl (fun _ => 0))), (q_43, .inl (k_44, 20, .inl (fun _ => 0))), (q_45, .inl (k_46, 400, .inl (fun _ => 0))), (q_47, .inl (k_48, 20, .inl (fun _ => 0))), (q_49, .inl (k_50, 20, .inl (fun _ => 0)))] := ⟨_, rfl⟩
  have eR : R_24 ++ [(q_49, .inl (k_50, 20, .inl (fun _ => 0)))] = R_25 := by rw [hR_24, hR_25]; rfl
  have hP : va_P (dC, dI) vwCl ((h_0, .inr (7, F_25)) :: R_25) H := by rw [← eR]; exact hP
  have hD : va_D A ((h_0, .inr (7, F_25)) :: R_25) := by rw [← eR]; exact hD
  obtain ⟨T_25, hT_25⟩ : ∃ T : List (ClassId × FieldType), T = [(k_2, .int), (k_4, .int), (k_6, .boolean), (k_8, .int), (k_10, .boolean), (k_12, .int), (k_14, .int), (k_16, .int), (k_18, .int), (k_20, .int), (k_22, .int), (k_24, .int), (k_26, .int), (k_28, .int), (k_30, .boolean), (k_32, .int), (k_34, .int), (k_36, .int), (k_38, .int), (k_40, .int), (k_42, .int), (k_44, .boolean), (k_46, .byte), (k_48, .int), (k_50, .int)] := ⟨_, rfl⟩
  have hK : va_K (dC, dI) vwCl T_25 s := by rw [show T_25 = T_24 ++ [(k_50, .int)] from by rw [hT_24, hT_25]; rfl]; exact hK
  clear eR hR_24 hT_24
  refine va_putF (D := (dC, dI)) (ci := 7) (v := .ref q_49) (ty := .array (.int)) (C := R_Md) (T := F_Md) (N := 64) (fs := F_25) hx hb htb i_Md t_Md t_Md_ok n_Md hown hK hP hD hS 0 rfl rfl 31 (by decide) (htb (.fieldLink R_Md 116 "WaterMenModel" "orderMade" "[I") tw_31) (fun _ h9 => h9) rfl hin rfl (by decide +kernel) rfl rfl (by omega) d_Md_init_213 (fun H locs hP hD hS => ?_)
  obtain ⟨F_26, hF_26⟩ : ∃ F : List Value, F = [.int 0, .int 0, .int 0, .ref q_1, .int (-1), .ref q_3, .ref q_5, .ref q_7, .ref q_9, .ref q_11, .ref q_13, .ref q_15, .ref q_17, .ref q_19, .ref q_21, .ref q_23, .ref q_25, .ref q_27, .ref q_29, .ref q_31, .ref q_33, .int 0, .ref q_35, .ref q_37, .ref q_39, .ref q_41, .ref q_43, .ref q_45, .int 0, .int 0, .ref q_47, .ref q_49, .null, .null, .null, .null, .null, .null, .null, .null, .null, .null, .int 0, .int 0, .int 0, .int 0, .int 0, .int 0, .null, .null, .null, .null, .null, .null, .null, .null, .long 0, .long 0, .long 0, .null, .int 0, .null, .null, .null] := ⟨_, rfl⟩
  have eF : F_25.set 31 (.ref q_49) = F_26 := by rw [hF_25, hF_26]; rfl
  have hP : va_P (dC, dI) vwCl ((h_0, .inr (7, F_26)) :: R_25) H := by rw [← eF]; exact hP
  have hD : va_D A ((h_0, .inr (7, F_26)) :: R_25) := by rw [← eF]; exact hD
  have hl_26 : F_26.length = 64 := by rw [hF_26]; rfl
  clear eF hF_25 hl_25
  refine lv_aload_n hx hb d_Md_init_216 rfl (lv_at hl 0 rfl) ?_
  refine lv_bipush (v := 20) hx hb d_Md_init_217 (by decide +kernel) ?_
  refine va_newa (atype := .int) (ty := .int) (N' := 20) (a0 := (20, .inl (fun _ => 0))) hx hb (htb (.arrayClass .int) tw_3) rfl hK hP hD hS hA (fun _ => rfl) (by decide +kernel) (by decide +kernel) (by decide +kernel) (by decide +kernel) (by decide +kernel) d_Md_init_219 (fun q_51 k_52 H hK hP hD hS => ?_)
  refine W.widen (k := 26) (n := 8876) (by decide +kernel) (by decide +kernel) ?_
  obtain ⟨R_26, hR_26⟩ : ∃ R : va_W, R = [(q_1, .inl (k_2, 12, .inl (fun _ => 0))), (q_3, .inl (k_4, 12, .inl (fun _ => 0))), (q_5, .inl (k_6, 500, .inl (fun _ => 0))), (q_7, .inl (k_8, 6000, .inl (fun _ => 0))), (q_9, .inl (k_10, 500, .inl (fun _ => 0))), (q_11, .inl (k_12, 40, .inl (fun _ => 0))), (q_13, .inl (k_14, 40, .inl (fun _ => 0))), (q_15, .inl (k_16, 40, .inl (fun _ => 0))), (q_17, .inl (k_18, 40, .inl (fun _ => 0))), (q_19, .inl (k_20, 240, .inl (fun _ => 0))), (q_21, .inl (k_22, 240, .inl (fun _ => 0))), (q_23, .inl (k_24, 40, .inl (fun _ => 0))), (q_25, .inl (k_26, 40, .inl (fun _ => 0))), (q_27, .inl (k_28, 40, .inl (fun _ => 0))), (q_29, .inl (k_30, 40, .inl (fun _ => 0))), (q_31, .inl (k_32, 12, .inl (fun _ => 0))), (q_33, .inl (k_34, 480, .inl (fun _ => 0))), (q_35, .inl (k_36, 20, .inl (fun _ => 0))), (q_37, .inl (k_38, 20, .inl (fun _ => 0))), (q_39, .inl (k_40, 20, .inl (fun _ => 0))), (q_41, .inl (k_42, 20, .inl (fun _ => 0))), (q_43, .inl (k_44, 20, .inl (fun _ => 0))), (q_45, .inl (k_46, 400, .inl (fun _ => 0))), (q_47, .inl (k_48, 20, .inl (fun _ => 0))), (q_49, .inl (k_50, 20, .inl (fun _ => 0))), (q_51, .inl (k_52, 20, .inl (fun _ => 0)))] := ⟨_, rfl⟩
  have eR : R_25 ++ [(q_51, .inl (k_52, 20, .inl (fun _ => 0)))] = R_26 := by rw [hR_25, hR_26]; rfl
  have hP : va_P (dC, dI) vwCl ((h_0, .inr (7, F_26)) :: R_26) H := by rw [← eR]; exact hP
  have hD : va_D A ((h_0, .inr (7, F_26)) :: R_26) := by rw [← eR]; exact hD
  obtain ⟨T_26, hT_26⟩ : ∃ T : List (ClassId × FieldType), T = [(k_2, .int), (k_4, .int), (k_6, .boolean), (k_8, .int), (k_10, .boolean), (k_12, .int), (k_14, .int), (k_16, .int), (k_18, .int), (k_20, .int), (k_22, .int), (k_24, .int), (k_26, .int), (k_28, .int), (k_30, .boolean), (k_32, .int), (k_34, .int), (k_36, .int), (k_38, .int), (k_40, .int), (k_42, .int), (k_44, .boolean), (k_46, .byte), (k_48, .int), (k_50, .int), (k_52, .int)] := ⟨_, rfl⟩
  have hK : va_K (dC, dI) vwCl T_26 s := by rw [show T_26 = T_25 ++ [(k_52, .int)] from by rw [hT_25, hT_26]; rfl]; exact hK
  clear eR hR_25 hT_25
  refine va_putF (D := (dC, dI)) (ci := 7) (v := .ref q_51) (ty := .array (.int)) (C := R_Md) (T := F_Md) (N := 64) (fs := F_26) hx hb htb i_Md t_Md t_Md_ok n_Md hown hK hP hD hS 0 rfl rfl 32 (by decide) (htb (.fieldLink R_Md 119 "WaterMenModel" "fares" "[I") tw_32) (fun _ h9 => h9) rfl hin rfl (by decide +kernel) rfl rfl (by omega) d_Md_init_221 (fun H locs hP hD hS => ?_)
  obtain ⟨F_27, hF_27⟩ : ∃ F : List Value, F = [.int 0, .int 0, .int 0, .ref q_1, .int (-1), .ref q_3, .ref q_5, .ref q_7, .ref q_9, .ref q_11, .ref q_13, .ref q_15, .ref q_17, .ref q_19, .ref q_21, .ref q_23, .ref q_25, .ref q_27, .ref q_29, .ref q_31, .ref q_33, .int 0, .ref q_35, .ref q_37, .ref q_39, .ref q_41, .ref q_43, .ref q_45, .int 0, .int 0, .ref q_47, .ref q_49, .ref q_51, .null, .null, .null, .null, .null, .null, .null, .null, .null, .int 0, .int 0, .int 0, .int 0, .int 0, .int 0, .null, .null, .null, .null, .null, .null, .null, .null, .long 0, .long 0, .long 0, .null, .int 0, .null, .null, .null] := ⟨_, rfl⟩
  have eF : F_26.set 32 (.ref q_51) = F_27 := by rw [hF_26, hF_27]; rfl
  have hP : va_P (dC, dI) vwCl ((h_0, .inr (7, F_27)) :: R_26) H := by rw [← eF]; exact hP
  have hD : va_D A ((h_0, .inr (7, F_27)) :: R_26) := by rw [← eF]; exact hD
  have hl_27 : F_27.length = 64 := by rw [hF_27]; rfl
  clear eF hF_26 hl_26
  refine lv_aload_n hx hb d_Md_init_224 rfl (lv_at hl 0 rfl) ?_
  refine lv_sipush (v := 240) hx hb d_Md_init_225 (by decide +kernel) ?_
  refine va_newa (atype := .int) (ty := .int) (N' := 240) (a0 := (240, .inl (fun _ => 0))) hx hb (htb (.arrayClass .int) tw_3) rfl hK hP hD hS hA (fun _ => rfl) (by decide +kernel) (by decide +kernel) (by decide +kernel) (by decide +kernel) (by decide +kernel) d_Md_init_228 (fun q_53 k_54 H hK hP hD hS => ?_)
  refine W.widen (k := 27) (n := 9116) (by decide +kernel) (by decide +kernel) ?_
  obtain ⟨R_27, hR_27⟩ : ∃ R : va_W, R = [(q_1, .inl (k_2, 12, .inl (fun _ => 0))), (q_3, .inl (k_4, 12, .inl (fun _ => 0))), (q_5, .inl (k_6, 500, .inl (fun _ => 0))), (q_7, .inl (k_8, 6000, .inl (fun _ => 0))), (q_9, .inl (k_10, 500, .inl (fun _ => 0))), (q_11, .inl (k_12, 40, .inl (fun _ => 0))), (q_13, .inl (k_14, 40, .inl (fun _ => 0))), (q_15, .inl (k_16, 40, .inl (fun _ => 0))), (q_17, .inl (k_18, 40, .inl (fun _ => 0))), (q_19, .inl (k_20, 240, .inl (fun _ => 0))), (q_21, .inl (k_22, 240, .inl (fun _ => 0))), (q_23, .inl (k_24, 40, .inl (fun _ => 0))), (q_25, .inl (k_26, 40, .inl (fun _ => 0))), (q_27, .inl (k_28, 40, .inl (fun _ => 0))), (q_29, .inl (k_30, 40, .inl (fun _ => 0))), (q_31, .inl (k_32, 12, .inl (fun _ => 0))), (q_33, .inl (k_34, 480, .inl (fun _ => 0))), (q_35, .inl (k_36, 20, .inl (fun _ => 0))), (q_37, .inl (k_38, 20, .inl (fun _ => 0))), (q_39, .inl (k_40, 20, .inl (fun _ => 0))), (q_41, .inl (k_42, 20, .inl (fun _ => 0))), (q_43, .inl (k_44, 20, .inl (fun _ => 0))), (q_45, .inl (k_46, 400, .inl (fun _ => 0))), (q_47, .inl (k_48, 20, .inl (fun _ => 0))), (q_49, .inl (k_50, 20, .inl (fun _ => 0))), (q_51, .inl (k_52, 20, .inl (fun _ => 0))), (q_53, .inl (k_54, 240, .inl (fun _ => 0)))] := ⟨_, rfl⟩
  have eR : R_26 ++ [(q_53, .inl (k_54, 240, .inl (fun _ => 0)))] = R_27 := by rw [hR_26, hR_27]; rfl
  have hP : va_P (dC, dI) vwCl ((h_0, .inr (7, F_27)) :: R_27) H := by rw [← eR]; exact hP
  have hD : va_D A ((h_0, .inr (7, F_27)) :: R_27) := by rw [← eR]; exact hD
  obtain ⟨T_27, hT_27⟩ : ∃ T : List (ClassId × FieldType), T = [(k_2, .int), (k_4, .int), (k_6, .boolean), (k_8, .int), (k_10, .boolean), (k_12, .int), (k_14, .int), (k_16, .int), (k_18, .int), (k_20, .int), (k_22, .int), (k_24, .int), (k_26, .int), (k_28, .int), (k_30, .boolean), (k_32, .int), (k_34, .int), (k_36, .int), (k_38, .int), (k_40, .int), (k_42, .int), (k_44, .boolean), (k_46, .byte), (k_48, .int), (k_50, .int), (k_52, .int), (k_54, .int)] := ⟨_, rfl⟩
  have hK : va_K (dC, dI) vwCl T_27 s := by rw [show T_27 = T_26 ++ [(k_54, .int)] from by rw [hT_26, hT_27]; rfl]; exact hK
  clear eR hR_26 hT_26
  refine va_putF (D := (dC, dI)) (ci := 7) (v := .ref q_53) (ty := .array (.int)) (C := R_Md) (T := F_Md) (N := 64) (fs := F_27) hx hb htb i_Md t_Md t_Md_ok n_Md hown hK hP hD hS 0 rfl rfl 33 (by decide) (htb (.fieldLink R_Md 122 "WaterMenModel" "fareLow" "[I") tw_33) (fun _ h9 => h9) rfl hin rfl (by decide +kernel) rfl rfl (by omega) d_Md_init_230 (fun H locs hP hD hS => ?_)
  obtain ⟨F_28, hF_28⟩ : ∃ F : List Value, F = [.int 0, .int 0, .int 0, .ref q_1, .int (-1), .ref q_3, .ref q_5, .ref q_7, .ref q_9, .ref q_11, .ref q_13, .ref q_15, .ref q_17, .ref q_19, .ref q_21, .ref q_23, .ref q_25, .ref q_27, .ref q_29, .ref q_31, .ref q_33, .int 0, .ref q_35, .ref q_37, .ref q_39, .ref q_41, .ref q_43, .ref q_45, .int 0, .int 0, .ref q_47, .ref q_49, .ref q_51, .ref q_53, .null, .null, .null, .null, .null, .null, .null, .null, .int 0, .int 0, .int 0, .int 0, .int 0, .int 0, .null, .null, .null, .null, .null, .null, .null, .null, .long 0, .long 0, .long 0, .null, .int 0, .null, .null, .null] := ⟨_, rfl⟩
  have eF : F_27.set 33 (.ref q_53) = F_28 := by rw [hF_27, hF_28]; rfl
  have hP : va_P (dC, dI) vwCl ((h_0, .inr (7, F_28)) :: R_27) H := by rw [← eF]; exact hP
  have hD : va_D A ((h_0, .inr (7, F_28)) :: R_27) := by rw [← eF]; exact hD
  have hl_28 : F_28.length = 64 := by rw [hF_28]; rfl
  clear eF hF_27 hl_27
  refine lv_aload_n hx hb d_Md_init_233 rfl (lv_at hl 0 rfl) ?_
  refine lv_sipush (v := 240) hx hb d_Md_init_234 (by decide +kernel) ?_
  refine va_newa (atype := .int) (ty := .int) (N' := 240) (a0 := (240, .inl (fun _ => 0))) hx hb (htb (.arrayClass .int) tw_3) rfl hK hP hD hS hA (fun _ => rfl) (by decide +kernel) (by decide +kernel) (by decide +kernel) (by decide +kernel) (by decide +kernel) d_Md_init_237 (fun q_55 k_56 H hK hP hD hS => ?_)
  refine W.widen (k := 28) (n := 9356) (by decide +kernel) (by decide +kernel) ?_
  obtain ⟨R_28, hR_28⟩ : ∃ R : va_W, R = [(q_1, .inl (k_2, 12, .inl (fun _ => 0))), (q_3, .inl (k_4, 12, .inl (fun _ => 0))), (q_5, .inl (k_6, 500, .inl (fun _ => 0))), (q_7, .inl (k_8, 6000, .inl (fun _ => 0))), (q_9, .inl (k_10, 500, .inl (fun _ => 0))), (q_11, .inl (k_12, 40, .inl (fun _ => 0))), (q_13, .inl (k_14, 40, .inl (fun _ => 0))), (q_15, .inl (k_16, 40, .inl (fun _ => 0))), (q_17, .inl (k_18, 40, .inl (fun _ => 0))), (q_19, .inl (k_20, 240, .inl (fun _ => 0))), (q_21, .inl (k_22, 240, .inl (fun _ => 0))), (q_23, .inl (k_24, 40, .inl (fun _ => 0))), (q_25, .inl (k_26, 40, .inl (fun _ => 0))), (q_27, .inl (k_28, 40, .inl (fun _ => 0))), (q_29, .inl (k_30, 40, .inl (fun _ => 0))), (q_31, .inl (k_32, 12, .inl (fun _ => 0))), (q_33, .inl (k_34, 480, .inl (fun _ => 0))), (q_35, .inl (k_36, 20, .inl (fun _ => 0))), (q_37, .inl (k_38, 20, .inl (fun _ => 0))), (q_39, .inl (k_40, 20, .inl (fun _ => 0))), (q_41, .inl (k_42, 20, .inl (fun _ => 0))), (q_43, .inl (k_44, 20, .inl (fun _ => 0))), (q_45, .inl (k_46, 400, .inl (fun _ => 0))), (q_47, .inl (k_48, 20, .inl (fun _ => 0))), (q_49, .inl (k_50, 20, .inl (fun _ => 0))), (q_51, .inl (k_52, 20, .inl (fun _ => 0))), (q_53, .inl (k_54, 240, .inl (fun _ => 0))), (q_55, .inl (k_56, 240, .inl (fun _ => 0)))] := ⟨_, rfl⟩
  have eR : R_27 ++ [(q_55, .inl (k_56, 240, .inl (fun _ => 0)))] = R_28 := by rw [hR_27, hR_28]; rfl
  have hP : va_P (dC, dI) vwCl ((h_0, .inr (7, F_28)) :: R_28) H := by rw [← eR]; exact hP
  have hD : va_D A ((h_0, .inr (7, F_28)) :: R_28) := by rw [← eR]; exact hD
  obtain ⟨T_28, hT_28⟩ : ∃ T : List (ClassId × FieldType), T = [(k_2, .int), (k_4, .int), (k_6, .boolean), (k_8, .int), (k_10, .boolean), (k_12, .int), (k_14, .int), (k_16, .int), (k_18, .int), (k_20, .int), (k_22, .int), (k_24, .int), (k_26, .int), (k_28, .int), (k_30, .boolean), (k_32, .int), (k_34, .int), (k_36, .int), (k_38, .int), (k_40, .int), (k_42, .int), (k_44, .boolean), (k_46, .byte), (k_48, .int), (k_50, .int), (k_52, .int), (k_54, .int), (k_56, .int)] := ⟨_, rfl⟩
  have hK : va_K (dC, dI) vwCl T_28 s := by rw [show T_28 = T_27 ++ [(k_56, .int)] from by rw [hT_27, hT_28]; rfl]; exact hK
  clear eR hR_27 hT_27
  refine va_putF (D := (dC, dI)) (ci := 7) (v := .ref q_55) (ty := .array (.int)) (C := R_Md) (T := F_Md) (N := 64) (fs := F_28) hx hb htb i_Md t_Md t_Md_ok n_Md hown hK hP hD hS 0 rfl rfl 34 (by decide) (htb (.fieldLink R_Md 125 "WaterMenModel" "fareHigh" "[I") tw_34) (fun _ h9 => h9) rfl hin rfl (by decide +kernel) rfl rfl (by omega) d_Md_init_239 (fun H locs hP hD hS => ?_)
  obtain ⟨F_29, hF_29⟩ : ∃ F : List Value, F = [.int 0, .int 0, .int 0, .ref q_1, .int (-1), .ref q_3, .ref q_5, .ref q_7, .ref q_9, .ref q_11, .ref q_13, .ref q_15, .ref q_17, .ref q_19, .ref q_21, .ref q_23, .ref q_25, .ref q_27, .ref q_29, .ref q_31, .ref q_33, .int 0, .ref q_35, .ref q_37, .ref q_39, .ref q_41, .ref q_43, .ref q_45, .int 0, .int 0, .ref q_47, .ref q_49, .ref q_51, .ref q_53, .ref q_55, .null, .null, .null, .null, .null, .null, .null, .int 0, .int 0, .int 0, .int 0, .int 0, .int 0, .null, .null, .null, .null, .null, .null, .null, .null, .long 0, .long 0, .long 0, .null, .int 0, .null, .null, .null] := ⟨_, rfl⟩
  have eF : F_28.set 34 (.ref q_55) = F_29 := by rw [hF_28, hF_29]; rfl
  have hP : va_P (dC, dI) vwCl ((h_0, .inr (7, F_29)) :: R_28) H := by rw [← eF]; exact hP
  have hD : va_D A ((h_0, .inr (7, F_29)) :: R_28) := by rw [← eF]; exact hD
  have hl_29 : F_29.length = 64 := by rw [hF_29]; rfl
  clear eF hF_28 hl_28
  refine lv_aload_n hx hb d_Md_init_242 rfl (lv_at hl 0 rfl) ?_
  refine lv_sipush (v := 240) hx hb d_Md_init_243 (by decide +kernel) ?_
  refine va_newa (atype := .int) (ty := .int) (N' := 240) (a0 := (240, .inl (fun _ => 0))) hx hb (htb (.arrayClass .int) tw_3) rfl hK hP hD hS hA (fun _ => rfl) (by decide +kernel) (by decide +kernel) (by decide +kernel) (by decide +kernel) (by decide +kernel) d_Md_init_246 (fun q_57 k_58 H hK hP hD hS => ?_)
  refine W.widen (k := 29) (n := 9596) (by decide +kernel) (by decide +kernel) ?_
  obtain ⟨R_29, hR_29⟩ : ∃ R : va_W, R = [(q_1, .inl (k_2, 12, .inl (fun _ => 0))), (q_3, .inl (k_4, 12, .inl (fun _ => 0))), (q_5, .inl (k_6, 500, .inl (fun _ => 0))), (q_7, .inl (k_8, 6000, .inl (fun _ => 0))), (q_9, .inl (k_10, 500, .inl (fun _ => 0))), (q_11, .inl (k_12, 40, .inl (fun _ => 0))), (q_13, .inl (k_14, 40, .inl (fun _ => 0))), (q_15, .inl (k_16, 40, .inl (fun _ => 0))), (q_17, .inl (k_18, 40, .inl (fun _ => 0))), (q_19, .inl (k_20, 240, .inl (fun _ => 0))), (q_21, .inl (k_22, 240, .inl (fun _ => 0))), (q_23, .inl (k_24, 40, .inl (fun _ => 0))), (q_25, .inl (k_26, 40, .inl (fun _ => 0))), (q_27, .inl (k_28, 40, .inl (fun _ => 0))), (q_29, .inl (k_30, 40, .inl (fun _ => 0))), (q_31, .inl (k_32, 12, .inl (fun _ => 0))), (q_33, .inl (k_34, 480, .inl (fun _ => 0))), (q_35, .inl (k_36, 20, .inl (fun _ => 0))), (q_37, .inl (k_38, 20, .inl (fun _ => 0))), (q_39, .inl (k_40, 20, .inl (fun _ => 0))), (q_41, .inl (k_42, 20, .inl (fun _ => 0))), (q_43, .inl (k_44, 20, .inl (fun _ => 0))), (q_45, .inl (k_46, 400, .inl (fun _ => 0))), (q_47, .inl (k_48, 20, .inl (fun _ => 0))), (q_49, .inl (k_50, 20, .inl (fun _ => 0))), (q_51, .inl (k_52, 20, .inl (fun _ => 0))), (q_53, .inl (k_54, 240, .inl (fun _ => 0))), (q_55, .inl (k_56, 240, .inl (fun _ => 0))), (q_57, .inl (k_58, 240, .inl (fun _ => 0)))] := ⟨_, rfl⟩
  have eR : R_28 ++ [(q_57, .inl (k_58, 240, .inl (fun _ => 0)))] = R_29 := by rw [hR_28, hR_29]; rfl
  have hP : va_P (dC, dI) vwCl ((h_0, .inr (7, F_29)) :: R_29) H := by rw [← eR]; exact hP
  have hD : va_D A ((h_0, .inr (7, F_29)) :: R_29) := by rw [← eR]; exact hD
  obtain ⟨T_29, hT_29⟩ : ∃ T : List (ClassId × FieldType), T = [(k_2, .int), (k_4, .int), (k_6, .boolean), (k_8, .int), (k_10, .boolean), (k_12, .int), (k_14, .int), (k_16, .int), (k_18, .int), (k_20, .int), (k_22, .int), (k_24, .int), (k_26, .int), (k_28, .int), (k_30, .boolean), (k_32, .int), (k_34, .int), (k_36, .int), (k_38, .int), (k_40, .int), (k_42, .int), (k_44, .boolean), (k_46, .byte), (k_48, .int), (k_50, .int), (k_52, .int), (k_54, .int), (k_56, .int), (k_58, .int)] := ⟨_, rfl⟩
  have hK : va_K (dC, dI) vwCl T_29 s := by rw [show T_29 = T_28 ++ [(k_58, .int)] from by rw [hT_28, hT_29]; rfl]; exact hK
  clear eR hR_28 hT_28
  refine va_putF (D := (dC, dI)) (ci := 7) (v := .ref q_57) (ty := .array (.int)) (C := R_Md) (T := F_Md) (N := 64) (fs := F_29) hx hb htb i_Md t_Md t_Md_ok n_Md hown hK hP hD hS 0 rfl rfl 35 (by decide) (htb (.fieldLink R_Md 128 "WaterMenModel" "fareIs" "[I") tw_35) (fun _ h9 => h9) rfl hin rfl (by decide +kernel) rfl rfl (by omega) d_Md_init_248 (fun H locs hP hD hS => ?_)
  obtain ⟨F_30, hF_30⟩ : ∃ F : List Value, F = [.int 0, .int 0, .int 0, .ref q_1, .int (-1), .ref q_3, .ref q_5, .ref q_7, .ref q_9, .ref q_11, .ref q_13, .ref q_15, .ref q_17, .ref q_19, .ref q_21, .ref q_23, .ref q_25, .ref q_27, .ref q_29, .ref q_31, .ref q_33, .int 0, .ref q_35, .ref q_37, .ref q_39, .ref q_41, .ref q_43, .ref q_45, .int 0, .int 0, .ref q_47, .ref q_49, .ref q_51, .ref q_53, .ref q_55, .ref q_57, .null, .null, .null, .null, .null, .null, .int 0, .int 0, .int 0, .int 0, .int 0, .int 0, .null, .null, .null, .null, .null, .null, .null, .null, .long 0, .long 0, .long 0, .null, .int 0, .null, .null, .null] := ⟨_, rfl⟩
  have eF : F_29.set 35 (.ref q_57) = F_30 := by rw [hF_29, hF_30]; rfl
  have hP : va_P (dC, dI) vwCl ((h_0, .inr (7, F_30)) :: R_29) H := by rw [← eF]; exact hP
  have hD : va_D A ((h_0, .inr (7, F_30)) :: R_29) := by rw [← eF]; exact hD
  have hl_30 : F_30.length = 64 := by rw [hF_30]; rfl
  clear eF hF_29 hl_29
  refine lv_aload_n hx hb d_Md_init_251 rfl (lv_at hl 0 rfl) ?_
  refine lv_bipush (v := 20) hx hb d_Md_init_252 (by decide +kernel) ?_
  refine va_newa (atype := .int) (ty := .int) (N' := 20) (a0 := (20, .inl (fun _ => 0))) hx hb (htb (.arrayClass .int) tw_3) rfl hK hP hD hS hA (fun _ => rfl) (by decide +kernel) (by decide +kernel) (by decide +kernel) (by decide +kernel) (by decide +kernel) d_Md_init_254 (fun q_59 k_60 H hK hP hD hS => ?_)
  refine W.widen (k := 30) (n := 9616) (by decide +kernel) (by decide +kernel) ?_
  obtain ⟨R_30, hR_30⟩ : ∃ R : va_W, R = [(q_1, .inl (k_2, 12, .inl (fun _ => 0))), (q_3, .inl (k_4, 12, .inl (fun _ => 0))), (q_5, .inl (k_6, 500, .inl (fun _ => 0))), (q_7, .inl (k_8, 6000, .inl (fun _ => 0))), (q_9, .inl (k_10, 500, .inl (fun _ => 0))), (q_11, .inl (k_12, 40, .inl (fun _ => 0))), (q_13, .inl (k_14, 40, .inl (fun _ => 0))), (q_15, .inl (k_16, 40, .inl (fun _ => 0))), (q_17, .inl (k_18, 40, .inl (fun _ => 0))), (q_19, .inl (k_20, 240, .inl (fun _ => 0))), (q_21, .inl (k_22, 240, .inl (fun _ => 0))), (q_23, .inl (k_24, 40, .inl (fun _ => 0))), (q_25, .inl (k_26, 40, .inl (fun _ => 0))), (q_27, .inl (k_28, 40, .inl (fun _ => 0))), (q_29, .inl (k_30, 40, .inl (fun _ => 0))), (q_31, .inl (k_32, 12, .inl (fun _ => 0))), (q_33, .inl (k_34, 480, .inl (fun _ => 0))), (q_35, .inl (k_36, 20, .inl (fun _ => 0))), (q_37, .inl (k_38, 20, .inl (fun _ => 0))), (q_39, .inl (k_40, 20, .inl (fun _ => 0))), (q_41, .inl (k_42, 20, .inl (fun _ => 0))), (q_43, .inl (k_44, 20, .inl (fun _ => 0))), (q_45, .inl (k_46, 400, .inl (fun _ => 0))), (q_47, .inl (k_48, 20, .inl (fun _ => 0))), (q_49, .inl (k_50, 20, .inl (fun _ => 0))), (q_51, .inl (k_52, 20, .inl (fun _ => 0))), (q_53, .inl (k_54, 240, .inl (fun _ => 0))), (q_55, .inl (k_56, 240, .inl (fun _ => 0))), (q_57, .inl (k_58, 240, .inl (fun _ => 0))), (q_59, .inl (k_60, 20, .inl (fun _ => 0)))] := ⟨_, rfl⟩
  have eR : R_29 ++ [(q_59, .inl (k_60, 20, .inl (fun _ => 0)))] = R_30 := by rw [hR_29, hR_30]; rfl
  have hP : va_P (dC, dI) vwCl ((h_0, .inr (7, F_30)) :: R_30) H := by rw [← eR]; exact hP
  have hD : va_D A ((h_0, .inr (7, F_30)) :: R_30) := by rw [← eR]; exact hD
  obtain ⟨T_30, hT_30⟩ : ∃ T : List (ClassId × FieldType), T = [(k_2, .int), (k_4, .int), (k_6, .boolean), (k_8, .int), (k_10, .boolean), (k_12, .int), (k_14, .int), (k_16, .int), (k_18, .int), (k_20, .int), (k_22, .int), (k_24, .int), (k_26, .int), (k_28, .int), (k_30, .boolean), (k_32, .int), (k_34, .int), (k_36, .int), (k_38, .int), (k_40, .int), (k_42, .int), (k_44, .boolean), (k_46, .byte), (k_48, .int), (k_50, .int), (k_52, .int), (k_54, .int), (k_56, .int), (k_58, .int), (k_60, .int)] := ⟨_, rfl⟩
  have hK : va_K (dC, dI) vwCl T_30 s := by rw [show T_30 = T_29 ++ [(k_60, .int)] from by rw [hT_29, hT_30]; rfl]; exact hK
  clear eR hR_29 hT_29
  refine va_putF (D := (dC, dI)) (ci := 7) (v := .ref q_59) (ty := .array (.int)) (C := R_Md) (T := F_Md) (N := 64) (fs := F_30) hx hb htb i_Md t_Md t_Md_ok n_Md hown hK hP hD hS 0 rfl rfl 36 (by decide) (htb (.fieldLink R_Md 131 "WaterMenModel" "hours" "[I") tw_36) (fun _ h9 => h9) rfl hin rfl (by decide +kernel) rfl rfl (by omega) d_Md_init_256 (fun H locs hP hD hS => ?_)
  obtain ⟨F_31, hF_31⟩ : ∃ F : List Value, F = [.int 0, .int 0, .int 0, .ref q_1, .int (-1), .ref q_3, .ref q_5, .ref q_7, .ref q_9, .ref q_11, .ref q_13, .ref q_15, .ref q_17, .ref q_19, .ref q_21, .ref q_23, .ref q_25, .ref q_27, .ref q_29, .ref q_31, .ref q_33, .int 0, .ref q_35, .ref q_37, .ref q_39, .ref q_41, .ref q_43, .ref q_45, .int 0, .int 0, .ref q_47, .ref q_49, .ref q_51, .ref q_53, .ref q_55, .ref q_57, .ref q_59, .null, .null, .null, .null, .null, .int 0, .int 0, .int 0, .int 0, .int 0, .int 0, .null, .null, .null, .null, .null, .null, .null, .null, .long 0, .long 0, .long 0, .null, .int 0, .null, .null, .null] := ⟨_, rfl⟩
  have eF : F_30.set 36 (.ref q_59) = F_31 := by rw [hF_30, hF_31]; rfl
  have hP : va_P (dC, dI) vwCl ((h_0, .inr (7, F_31)) :: R_30) H := by rw [← eF]; exact hP
  have hD : va_D A ((h_0, .inr (7, F_31)) :: R_30) := by rw [← eF]; exact hD
  have hl_31 : F_31.length = 64 := by rw [hF_31]; rfl
  clear eF hF_30 hl_30
  refine lv_aload_n hx hb d_Md_init_259 rfl (lv_at hl 0 rfl) ?_
  refine lv_sipush (v := 240) hx hb d_Md_init_260 (by decide +kernel) ?_
  refine va_newa (atype := .int) (ty := .int) (N' := 240) (a0 := (240, .inl (fun _ => 0))) hx hb (htb (.arrayClass .int) tw_3) rfl hK hP hD hS hA (fun _ => rfl) (by decide +kernel) (by decide +kernel) (by decide +kernel) (by decide +kernel) (by decide +kernel) d_Md_init_263 (fun q_61 k_62 H hK hP hD hS => ?_)
  refine W.widen (k := 31) (n := 9856) (by decide +kernel) (by decide +kernel) ?_
  obtain ⟨R_31, hR_31⟩ : ∃ R : va_W, R = [(q_1, .inl (k_2, 12, .inl (fun _ => 0))), (q_3, .inl (k_4, 12, .inl (fun _ => 0))), (q_5, .inl (k_6, 500, .inl (fun _ => 0))), (q_7, .inl (k_8, 6000, .inl (fun _ => 0))), (q_9, .inl (k_10, 500, .inl (fun _ => 0))), (q_11, .inl (k_12, 40, .inl (fun _ => 0))), (q_13, .inl (k_14, 40, .inl (fun _ => 0))), (q_15, .inl (k_16, 40, .inl (fun _ => 0))), (q_17, .inl (k_18, 40, .inl (fun _ => 0))), (q_19, .inl (k_20, 240, .inl (fun _ => 0))), (q_21, .inl (k_22, 240, .inl (fun _ => 0))), (q_23, .inl (k_24, 40, .inl (fun _ => 0))), (q_25, .inl (k_26, 40, .inl (fun _ => 0))), (q_27, .inl (k_28, 40, .inl (fun _ => 0))), (q_29, .inl (k_30, 40, .inl (fun _ => 0))), (q_31, .inl (k_32, 12, .inl (fun _ => 0))), (q_33, .inl (k_34, 480, .inl (fun _ => 0))), (q_35, .inl (k_36, 20, .inl (fun _ => 0))), (q_37, .inl (k_38, 20, .inl (fun _ => 0))), (q_39, .inl (k_40, 20, .inl (fun _ => 0))), (q_41, .inl (k_42, 20, .inl (fun _ => 0))), (q_43, .inl (k_44, 20, .inl (fun _ => 0))), (q_45, .inl (k_46, 400, .inl (fun _ => 0))), (q_47, .inl (k_48, 20, .inl (fun _ => 0))), (q_49, .inl (k_50, 20, .inl (fun _ => 0))), (q_51, .inl (k_52, 20, .inl (fun _ => 0))), (q_53, .inl (k_54, 240, .inl (fun _ => 0))), (q_55, .inl (k_56, 240, .inl (fun _ => 0))), (q_57, .inl (k_58, 240, .inl (fun _ => 0))), (q_59, .inl (k_60, 20, .inl (fun _ => 0))), (q_61, .inl (k_62, 240, .inl (fun _ => 0)))] := ⟨_, rfl⟩
  have eR : R_30 ++ [(q_61, .inl (k_62, 240, .inl (fun _ => 0)))] = R_31 := by rw [hR_30, hR_31]; rfl
  have hP : va_P (dC, dI) vwCl ((h_0, .inr (7, F_31)) :: R_31) H := by rw [← eR]; exact hP
  have hD : va_D A ((h_0, .inr (7, F_31)) :: R_31) := by rw [← eR]; exact hD
  obtain ⟨T_31, hT_31⟩ : ∃ T : List (ClassId × FieldType), T = [(k_2, .int), (k_4, .int), (k_6, .boolean), (k_8, .int), (k_10, .boolean), (k_12, .int), (k_14, .int), (k_16, .int), (k_18, .int), (k_20, .int), (k_22, .int), (k_24, .int), (k_26, .int), (k_28, .int), (k_30, .boolean), (k_32, .int), (k_34, .int), (k_36, .int), (k_38, .int), (k_40, .int), (k_42, .int), (k_44, .boolean), (k_46, .byte), (k_48, .int), (k_50, .int), (k_52, .int), (k_54, .int), (k_56, .int), (k_58, .int), (k_60, .int), (k_62, .int)] := ⟨_, rfl⟩
  have hK : va_K (dC, dI) vwCl T_31 s := by rw [show T_31 = T_30 ++ [(k_62, .int)] from by rw [hT_30, hT_31]; rfl]; exact hK
  clear eR hR_30 hT_30
  refine va_putF (D := (dC, dI)) (ci := 7) (v := .ref q_61) (ty := .array (.int)) (C := R_Md) (T := F_Md) (N := 64) (fs := F_31) hx hb htb i_Md t_Md t_Md_ok n_Md hown hK hP hD hS 0 rfl rfl 37 (by decide) (htb (.fieldLink R_Md 134 "WaterMenModel" "hourLow" "[I") tw_37) (fun _ h9 => h9) rfl hin rfl (by decide +kernel) rfl rfl (by omega) d_Md_init_265 (fun H locs hP hD hS => ?_)
  obtain ⟨F_32, hF_32⟩ : ∃ F : List Value, F = [.int 0, .int 0, .int 0, .ref q_1, .int (-1), .ref q_3, .ref q_5, .ref q_7, .ref q_9, .ref q_11, .ref q_13, .ref q_15, .ref q_17, .ref q_19, .ref q_21, .ref q_23, .ref q_25, .ref q_27, .ref q_29, .ref q_31, .ref q_33, .int 0, .ref q_35, .ref q_37, .ref q_39, .ref q_41, .ref q_43, .ref q_45, .int 0, .int 0, .ref q_47, .ref q_49, .ref q_51, .ref q_53, .ref q_55, .ref q_57, .ref q_59, .ref q_61, .null, .null, .null, .null, .int 0, .int 0, .int 0, .int 0, .int 0, .int 0, .null, .null, .null, .null, .null, .null, .null, .null, .long 0, .long 0, .long 0, .null, .int 0, .null, .null, .null] := ⟨_, rfl⟩
  have eF : F_31.set 37 (.ref q_61) = F_32 := by rw [hF_31, hF_32]; rfl
  have hP : va_P (dC, dI) vwCl ((h_0, .inr (7, F_32)) :: R_31) H := by rw [← eF]; exact hP
  have hD : va_D A ((h_0, .inr (7, F_32)) :: R_31) := by rw [← eF]; exact hD
  have hl_32 : F_32.length = 64 := by rw [hF_32]; rfl
  clear eF hF_31 hl_31
  refine lv_aload_n hx hb d_Md_init_268 rfl (lv_at hl 0 rfl) ?_
  refine lv_sipush (v := 240) hx hb d_Md_init_269 (by decide +kernel) ?_
  refine va_newa (atype := .int) (ty := .int) (N' := 240) (a0 := (240, .inl (fun _ => 0))) hx hb (htb (.arrayClass .int) tw_3) rfl hK hP hD hS hA (fun _ => rfl) (by decide +kernel) (by decide +kernel) (by decide +kernel) (by decide +kernel) (by decide +kernel) d_Md_init_272 (fun q_63 k_64 H hK hP hD hS => ?_)
  refine W.widen (k := 32) (n := 10096) (by decide +kernel) (by decide +kernel) ?_
  obtain ⟨R_32, hR_32⟩ : ∃ R : va_W, R = [(q_1, .inl (k_2, 12, .inl (fun _ => 0))), (q_3, .inl (k_4, 12, .inl (fun _ => 0))), (q_5, .inl (k_6, 500, .inl (fun _ => 0))), (q_7, .inl (k_8, 6000, .inl (fun _ => 0))), (q_9, .inl (k_10, 500, .inl (fun _ => 0))), (q_11, .inl (k_12, 40, .inl (fun _ => 0))), (q_13, .inl (k_14, 40, .inl (fun _ => 0))), (q_15, .inl (k_16, 40, .inl (fun _ => 0))), (q_17, .inl (k_18, 40, .inl (fun _ => 0))), (q_19, .inl (k_20, 240, .inl (fun _ => 0))), (q_21, .inl (k_22, 240, .inl (fun _ => 0))), (q_23, .inl (k_24, 40, .inl (fun _ => 0))), (q_25, .inl (k_26, 40, .inl (fun _ => 0))), (q_27, .inl (k_28, 40, .inl (fun _ => 0))), (q_29, .inl (k_30, 40, .inl (fun _ => 0))), (q_31, .inl (k_32, 12, .inl (fun _ => 0))), (q_33, .inl (k_34, 480, .inl (fun _ => 0))), (q_35, .inl (k_36, 20, .inl (fun _ => 0))), (q_37, .inl (k_38, 20, .inl (fun _ => 0))), (q_39, .inl (k_40, 20, .inl (fun _ => 0))), (q_41, .inl (k_42, 20, .inl (fun _ => 0))), (q_43, .inl (k_44, 20, .inl (fun _ => 0))), (q_45, .inl (k_46, 400, .inl (fun _ => 0))), (q_47, .inl (k_48, 20, .inl (fun _ => 0))), (q_49, .inl (k_50, 20, .inl (fun _ => 0))), (q_51, .inl (k_52, 20, .inl (fun _ => 0))), (q_53, .inl (k_54, 240, .inl (fun _ => 0))), (q_55, .inl (k_56, 240, .inl (fun _ => 0))), (q_57, .inl (k_58, 240, .inl (fun _ => 0))), (q_59, .inl (k_60, 20, .inl (fun _ => 0))), (q_61, .inl (k_62, 240, .inl (fun _ => 0))), (q_63, .inl (k_64, 240, .inl (fun _ => 0)))] := ⟨_, rfl⟩
  have eR : R_31 ++ [(q_63, .inl (k_64, 240, .inl (fun _ => 0)))] = R_32 := by rw [hR_31, hR_32]; rfl
  have hP : va_P (dC, dI) vwCl ((h_0, .inr (7, F_32)) :: R_32) H := by rw [← eR]; exact hP
  have hD : va_D A ((h_0, .inr (7, F_32)) :: R_32) := by rw [← eR]; exact hD
  obtain ⟨T_32, hT_32⟩ : ∃ T : List (ClassId × FieldType), T = [(k_2, .int), (k_4, .int), (k_6, .boolean), (k_8, .int), (k_10, .boolean), (k_12, .int), (k_14, .int), (k_16, .int), (k_18, .int), (k_20, .int), (k_22, .int), (k_24, .int), (k_26, .int), (k_28, .int), (k_30, .boolean), (k_32, .int), (k_34, .int), (k_36, .int), (k_38, .int), (k_40, .int), (k_42, .int), (k_44, .boolean), (k_46, .byte), (k_48, .int), (k_50, .int), (k_52, .int), (k_54, .int), (k_56, .int), (k_58, .int), (k_60, .int), (k_62, .int), (k_64, .int)] := ⟨_, rfl⟩
  have hK : va_K (dC, dI) vwCl T_32 s := by rw [show T_32 = T_31 ++ [(k_64, .int)] from by rw [hT_31, hT_32]; rfl]; exact hK
  clear eR hR_31 hT_31
  refine va_putF (D := (dC, dI)) (ci := 7) (v := .ref q_63) (ty := .array (.int)) (C := R_Md) (T := F_Md) (N := 64) (fs := F_32) hx hb htb i_Md t_Md t_Md_ok n_Md hown hK hP hD hS 0 rfl rfl 38 (by decide) (htb (.fieldLink R_Md 137 "WaterMenModel" "hourHigh" "[I") tw_38) (fun _ h9 => h9) rfl hin rfl (by decide +kernel) rfl rfl (by omega) d_Md_init_274 (fun H locs hP hD hS => ?_)
  obtain ⟨F_33, hF_33⟩ : ∃ F : List Value, F = [.int 0, .int 0, .int 0, .ref q_1, .int (-1), .ref q_3, .ref q_5, .ref q_7, .ref q_9, .ref q_11, .ref q_13, .ref q_15, .ref q_17, .ref q_19, .ref q_21, .ref q_23, .ref q_25, .ref q_27, .ref q_29, .ref q_31, .ref q_33, .int 0, .ref q_35, .ref q_37, .ref q_39, .ref q_41, .ref q_43, .ref q_45, .int 0, .int 0, .ref q_47, .ref q_49, .ref q_51, .ref q_53, .ref q_55, .ref q_57, .ref q_59, .ref q_61, .ref q_63, .null, .null, .null, .int 0, .int 0, .int 0, .int 0, .int 0, .int 0, .null, .null, .null, .null, .null, .null, .null, .null, .long 0, .long 0, .long 0, .null, .int 0, .null, .null, .null] := ⟨_, rfl⟩
  have eF : F_32.set 38 (.ref q_63) = F_33 := by rw [hF_32, hF_33]; rfl
  have hP : va_P (dC, dI) vwCl ((h_0, .inr (7, F_33)) :: R_32) H := by rw [← eF]; exact hP
  have hD : va_D A ((h_0, .inr (7, F_33)) :: R_32) := by rw [← eF]; exact hD
  have hl_33 : F_33.length = 64 := by rw [hF_33]; rfl
  clear eF hF_32 hl_32
  refine lv_aload_n hx hb d_Md_init_277 rfl (lv_at hl 0 rfl) ?_
  refine lv_sipush (v := 240) hx hb d_Md_init_278 (by decide +kernel) ?_
  refine va_newa (atype := .int) (ty := .int) (N' := 240) (a0 := (240, .inl (fun _ => 0))) hx hb (htb (.arrayClass .int) tw_3) rfl hK hP hD hS hA (fun _ => rfl) (by decide +kernel) (by decide +kernel) (by decide +kernel) (by decide +kernel) (by decide +kernel) d_Md_init_281 (fun q_65 k_66 H hK hP hD hS => ?_)
  refine W.widen (k := 33) (n := 10336) (by decide +kernel) (by decide +kernel) ?_
  obtain ⟨R_33, hR_33⟩ : ∃ R : va_W, R = [(q_1, .inl (k_2, 12, .inl (fun _ => 0))), (q_3, .inl (k_4, 12, .inl (fun _ => 0))), (q_5, .inl (k_6, 500, .inl (fun _ => 0))), (q_7, .inl (k_8, 6000, .inl (fun _ => 0))), (q_9, .inl (k_10, 500, .inl (fun _ => 0))), (q_11, .inl (k_12, 40, .inl (fun _ => 0))), (q_13, .inl (k_14, 40, .inl (fun _ => 0))), (q_15, .inl (k_16, 40, .inl (fun _ => 0))), (q_17, .inl (k_18, 40, .inl (fun _ => 0))), (q_19, .inl (k_20, 240, .inl (fun _ => 0))), (q_21, .inl (k_22, 240, .inl (fun _ => 0))), (q_23, .inl (k_24, 40, .inl (fun _ => 0))), (q_25, .inl (k_26, 40, .inl (fun _ => 0))), (q_27, .inl (k_28, 40, .inl (fun _ => 0))), (q_29, .inl (k_30, 40, .inl (fun _ => 0))), (q_31, .inl (k_32, 12, .inl (fun _ => 0))), (q_33, .inl (k_34, 480, .inl (fun _ => 0))), (q_35, .inl (k_36, 20, .inl (fun _ => 0))), (q_37, .inl (k_38, 20, .inl (fun _ => 0))), (q_39, .inl (k_40, 20, .inl (fun _ => 0))), (q_41, .inl (k_42, 20, .inl (fun _ => 0))), (q_43, .inl (k_44, 20, .inl (fun _ => 0))), (q_45, .inl (k_46, 400, .inl (fun _ => 0))), (q_47, .inl (k_48, 20, .inl (fun _ => 0))), (q_49, .inl (k_50, 20, .inl (fun _ => 0))), (q_51, .inl (k_52, 20, .inl (fun _ => 0))), (q_53, .inl (k_54, 240, .inl (fun _ => 0))), (q_55, .inl (k_56, 240, .inl (fun _ => 0))), (q_57, .inl (k_58, 240, .inl (fun _ => 0))), (q_59, .inl (k_60, 20, .inl (fun _ => 0))), (q_61, .inl (k_62, 240, .inl (fun _ => 0))), (q_63, .inl (k_64, 240, .inl (fun _ => 0))), (q_65, .inl (k_66, 240, .inl (fun _ => 0)))] := ⟨_, rfl⟩
  have eR : R_32 ++ [(q_65, .inl (k_66, 240, .inl (fun _ => 0)))] = R_33 := by rw [hR_32, hR_33]; rfl
  have hP : va_P (dC, dI) vwCl ((h_0, .inr (7, F_33)) :: R_33) H := by rw [← eR]; exact hP
  have hD : va_D A ((h_0, .inr (7, F_33)) :: R_33) := by rw [← eR]; exact hD
  obtain ⟨T_33, hT_33⟩ : ∃ T : List (ClassId × FieldType), T = [(k_2, .int), (k_4, .int), (k_6, .boolean), (k_8, .int), (k_10, .boolean), (k_12, .int), (k_14, .int), (k_16, .int), (k_18, .int), (k_20, .int), (k_22, .int), (k_24, .int), (k_26, .int), (k_28, .int), (k_30, .boolean), (k_32, .int), (k_34, .int), (k_36, .int), (k_38, .int), (k_40, .int), (k_42, .int), (k_44, .boolean), (k_46, .byte), (k_48, .int), (k_50, .int), (k_52, .int), (k_54, .int), (k_56, .int), (k_58, .int), (k_60, .int), (k_62, .int), (k_64, .int), (k_66, .int)] := ⟨_, rfl⟩
  have hK : va_K (dC, dI) vwCl T_33 s := by rw [show T_33 = T_32 ++ [(k_66, .int)] from by rw [hT_32, hT_33]; rfl]; exact hK
  clear eR hR_32 hT_32
  refine va_putF (D := (dC, dI)) (ci := 7) (v := .ref q_65) (ty := .array (.int)) (C := R_Md) (T := F_Md) (N := 64) (fs := F_33) hx hb htb i_Md t_Md t_Md_ok n_Md hown hK hP hD hS 0 rfl rfl 39 (by decide) (htb (.fieldLink R_Md 140 "WaterMenModel" "hourIs" "[I") tw_39) (fun _ h9 => h9) rfl hin rfl (by decide +kernel) rfl rfl (by omega) d_Md_init_283 (fun H locs hP hD hS => ?_)
  obtain ⟨F_34, hF_34⟩ : ∃ F : List Value, F = [.int 0, .int 0, .int 0, .ref q_1, .int (-1), .ref q_3, .ref q_5, .ref q_7, .ref q_9, .ref q_11, .ref q_13, .ref q_15, .ref q_17, .ref q_19, .ref q_21, .ref q_23, .ref q_25, .ref q_27, .ref q_29, .ref q_31, .ref q_33, .int 0, .ref q_35, .ref q_37, .ref q_39, .ref q_41, .ref q_43, .ref q_45, .int 0, .int 0, .ref q_47, .ref q_49, .ref q_51, .ref q_53, .ref q_55, .ref q_57, .ref q_59, .ref q_61, .ref q_63, .ref q_65, .null, .null, .int 0, .int 0, .int 0, .int 0, .int 0, .int 0, .null, .null, .null, .null, .null, .null, .null, .null, .long 0, .long 0, .long 0, .null, .int 0, .null, .null, .null] := ⟨_, rfl⟩
  have eF : F_33.set 39 (.ref q_65) = F_34 := by rw [hF_33, hF_34]; rfl
  have hP : va_P (dC, dI) vwCl ((h_0, .inr (7, F_34)) :: R_33) H := by rw [← eF]; exact hP
  have hD : va_D A ((h_0, .inr (7, F_34)) :: R_33) := by rw [← eF]; exact hD
  have hl_34 : F_34.length = 64 := by rw [hF_34]; rfl
  clear eF hF_33 hl_33
  refine lv_aload_n hx hb d_Md_init_286 rfl (lv_at hl 0 rfl) ?_
  refine lv_sipush (v := 180) hx hb d_Md_init_287 (by decide +kernel) ?_
  refine va_newa (atype := .int) (ty := .int) (N' := 180) (a0 := (180, .inl (fun _ => 0))) hx hb (htb (.arrayClass .int) tw_3) rfl hK hP hD hS hA (fun _ => rfl) (by decide +kernel) (by decide +kernel) (by decide +kernel) (by decide +kernel) (by decide +kernel) d_Md_init_290 (fun q_67 k_68 H hK hP hD hS => ?_)
  refine W.widen (k := 34) (n := 10516) (by decide +kernel) (by decide +kernel) ?_
  obtain ⟨R_34, hR_34⟩ : ∃ R : va_W, R = [(q_1, .inl (k_2, 12, .inl (fun _ => 0))), (q_3, .inl (k_4, 12, .inl (fun _ => 0))), (q_5, .inl (k_6, 500, .inl (fun _ => 0))), (q_7, .inl (k_8, 6000, .inl (fun _ => 0))), (q_9, .inl (k_10, 500, .inl (fun _ => 0))), (q_11, .inl (k_12, 40, .inl (fun _ => 0))), (q_13, .inl (k_14, 40, .inl (fun _ => 0))), (q_15, .inl (k_16, 40, .inl (fun _ => 0))), (q_17, .inl (k_18, 40, .inl (fun _ => 0))), (q_19, .inl (k_20, 240, .inl (fun _ => 0))), (q_21, .inl (k_22, 240, .inl (fun _ => 0))), (q_23, .inl (k_24, 40, .inl (fun _ => 0))), (q_25, .inl (k_26, 40, .inl (fun _ => 0))), (q_27, .inl (k_28, 40, .inl (fun _ => 0))), (q_29, .inl (k_30, 40, .inl (fun _ => 0))), (q_31, .inl (k_32, 12, .inl (fun _ => 0))), (q_33, .inl (k_34, 480, .inl (fun _ => 0))), (q_35, .inl (k_36, 20, .inl (fun _ => 0))), (q_37, .inl (k_38, 20, .inl (fun _ => 0))), (q_39, .inl (k_40, 20, .inl (fun _ => 0))), (q_41, .inl (k_42, 20, .inl (fun _ => 0))), (q_43, .inl (k_44, 20, .inl (fun _ => 0))), (q_45, .inl (k_46, 400, .inl (fun _ => 0))), (q_47, .inl (k_48, 20, .inl (fun _ => 0))), (q_49, .inl (k_50, 20, .inl (fun _ => 0))), (q_51, .inl (k_52, 20, .inl (fun _ => 0))), (q_53, .inl (k_54, 240, .inl (fun _ => 0))), (q_55, .inl (k_56, 240, .inl (fun _ => 0))), (q_57, .inl (k_58, 240, .inl (fun _ => 0))), (q_59, .inl (k_60, 20, .inl (fun _ => 0))), (q_61, .inl (k_62, 240, .inl (fun _ => 0))), (q_63, .inl (k_64, 240, .inl (fun _ => 0))), (q_65, .inl (k_66, 240, .inl (fun _ => 0))), (q_67, .inl (k_68, 180, .inl (fun _ => 0)))] := ⟨_, rfl⟩
  have eR : R_33 ++ [(q_67, .inl (k_68, 180, .inl (fun _ => 0)))] = R_34 := by rw [hR_33, hR_34]; rfl
  have hP : va_P (dC, dI) vwCl ((h_0, .inr (7, F_34)) :: R_34) H := by rw [← eR]; exact hP
  have hD : va_D A ((h_0, .inr (7, F_34)) :: R_34) := by rw [← eR]; exact hD
  obtain ⟨T_34, hT_34⟩ : ∃ T : List (ClassId × FieldType), T = [(k_2, .int), (k_4, .int), (k_6, .boolean), (k_8, .int), (k_10, .boolean), (k_12, .int), (k_14, .int), (k_16, .int), (k_18, .int), (k_20, .int), (k_22, .int), (k_24, .int), (k_26, .int), (k_28, .int), (k_30, .boolean), (k_32, .int), (k_34, .int), (k_36, .int), (k_38, .int), (k_40, .int), (k_42, .int), (k_44, .boolean), (k_46, .byte), (k_48, .int), (k_50, .int), (k_52, .int), (k_54, .int), (k_56, .int), (k_58, .int), (k_60, .int), (k_62, .int), (k_64, .int), (k_66, .int), (k_68, .int)] := ⟨_, rfl⟩
  have hK : va_K (dC, dI) vwCl T_34 s := by rw [show T_34 = T_33 ++ [(k_68, .int)] from by rw [hT_33, hT_34]; rfl]; exact hK
  clear eR hR_33 hT_33
  refine va_putF (D := (dC, dI)) (ci := 7) (v := .ref q_67) (ty := .array (.int)) (C := R_Md) (T := F_Md) (N := 64) (fs := F_34) hx hb htb i_Md t_Md t_Md_ok n_Md hown hK hP hD hS 0 rfl rfl 40 (by decide) (htb (.fieldLink R_Md 143 "WaterMenModel" "single" "[I") tw_40) (fun _ h9 => h9) rfl hin rfl (by decide +kernel) rfl rfl (by omega) d_Md_init_292 (fun H locs hP hD hS => ?_)
  obtain ⟨F_35, hF_35⟩ : ∃ F : List Value, F = [.int 0, .int 0, .int 0, .ref q_1, .int (-1), .ref q_3, .ref q_5, .ref q_7, .ref q_9, .ref q_11, .ref q_13, .ref q_15, .ref q_17, .ref q_19, .ref q_21, .ref q_23, .ref q_25, .ref q_27, .ref q_29, .ref q_31, .ref q_33, .int 0, .ref q_35, .ref q_37, .ref q_39, .ref q_41, .ref q_43, .ref q_45, .int 0, .int 0, .ref q_47, .ref q_49, .ref q_51, .ref q_53, .ref q_55, .ref q_57, .ref q_59, .ref q_61, .ref q_63, .ref q_65, .ref q_67, .null, .int 0, .int 0, .int 0, .int 0, .int 0, .int 0, .null, .null, .null, .null, .null, .null, .null, .null, .long 0, .long 0, .long 0, .null, .int 0, .null, .null, .null] := ⟨_, rfl⟩
  have eF : F_34.set 40 (.ref q_67) = F_35 := by rw [hF_34, hF_35]; rfl
  have hP : va_P (dC, dI) vwCl ((h_0, .inr (7, F_35)) :: R_34) H := by rw [← eF]; exact hP
  have hD : va_D A ((h_0, .inr (7, F_35)) :: R_34) := by rw [← eF]; exact hD
  have hl_35 : F_35.length = 64 := by rw [hF_35]; rfl
  clear eF hF_34 hl_34
  refine lv_aload_n hx hb d_Md_init_295 rfl (lv_at hl 0 rfl) ?_
  refine lv_bipush (v := 20) hx hb d_Md_init_296 (by decide +kernel) ?_
  refine va_newa (atype := .int) (ty := .int) (N' := 20) (a0 := (20, .inl (fun _ => 0))) hx hb (htb (.arrayClass .int) tw_3) rfl hK hP hD hS hA (fun _ => rfl) (by decide +kernel) (by decide +kernel) (by decide +kernel) (by decide +kernel) (by decide +kernel) d_Md_init_298 (fun q_69 k_70 H hK hP hD hS => ?_)
  refine W.widen (k := 35) (n := 10536) (by decide +kernel) (by decide +kernel) ?_
  obtain ⟨R_35, hR_35⟩ : ∃ R : va_W, R = [(q_1, .inl (k_2, 12, .inl (fun _ => 0))), (q_3, .inl (k_4, 12, .inl (fun _ => 0))), (q_5, .inl (k_6, 500, .inl (fun _ => 0))), (q_7, .inl (k_8, 6000, .inl (fun _ => 0))), (q_9, .inl (k_10, 500, .inl (fun _ => 0))), (q_11, .inl (k_12, 40, .inl (fun _ => 0))), (q_13, .inl (k_14, 40, .inl (fun _ => 0))), (q_15, .inl (k_16, 40, .inl (fun _ => 0))), (q_17, .inl (k_18, 40, .inl (fun _ => 0))), (q_19, .inl (k_20, 240, .inl (fun _ => 0))), (q_21, .inl (k_22, 240, .inl (fun _ => 0))), (q_23, .inl (k_24, 40, .inl (fun _ => 0))), (q_25, .inl (k_26, 40, .inl (fun _ => 0))), (q_27, .inl (k_28, 40, .inl (fun _ => 0))), (q_29, .inl (k_30, 40, .inl (fun _ => 0))), (q_31, .inl (k_32, 12, .inl (fun _ => 0))), (q_33, .inl (k_34, 480, .inl (fun _ => 0))), (q_35, .inl (k_36, 20, .inl (fun _ => 0))), (q_37, .inl (k_38, 20, .inl (fun _ => 0))), (q_39, .inl (k_40, 20, .inl (fun _ => 0))), (q_41, .inl (k_42, 20, .inl (fun _ => 0))), (q_43, .inl (k_44, 20, .inl (fun _ => 0))), (q_45, .inl (k_46, 400, .inl (fun _ => 0))), (q_47, .inl (k_48, 20, .inl (fun _ => 0))), (q_49, .inl (k_50, 20, .inl (fun _ => 0))), (q_51, .inl (k_52, 20, .inl (fun _ => 0))), (q_53, .inl (k_54, 240, .inl (fun _ => 0))), (q_55, .inl (k_56, 240, .inl (fun _ => 0))), (q_57, .inl (k_58, 240, .inl (fun _ => 0))), (q_59, .inl (k_60, 20, .inl (fun _ => 0))), (q_61, .inl (k_62, 240, .inl (fun _ => 0))), (q_63, .inl (k_64, 240, .inl (fun _ => 0))), (q_65, .inl (k_66, 240, .inl (fun _ => 0))), (q_67, .inl (k_68, 180, .inl (fun _ => 0))), (q_69, .inl (k_70, 20, .inl (fun _ => 0)))] := ⟨_, rfl⟩
  have eR : R_34 ++ [(q_69, .inl (k_70, 20, .inl (fun _ => 0)))] = R_35 := by rw [hR_34, hR_35]; rfl
  have hP : va_P (dC, dI) vwCl ((h_0, .inr (7, F_35)) :: R_35) H := by rw [← eR]; exact hP
  have hD : va_D A ((h_0, .inr (7, F_35)) :: R_35) := by rw [← eR]; exact hD
  obtain ⟨T_35, hT_35⟩ : ∃ T : List (ClassId × FieldType), T = [(k_2, .int), (k_4, .int), (k_6, .boolean), (k_8, .int), (k_10, .boolean), (k_12, .int), (k_14, .int), (k_16, .int), (k_18, .int), (k_20, .int), (k_22, .int), (k_24, .int), (k_26, .int), (k_28, .int), (k_30, .boolean), (k_32, .int), (k_34, .int), (k_36, .int), (k_38, .int), (k_40, .int), (k_42, .int), (k_44, .boolean), (k_46, .byte), (k_48, .int), (k_50, .int), (k_52, .int), (k_54, .int), (k_56, .int), (k_58, .int), (k_60, .int), (k_62, .int), (k_64, .int), (k_66, .int), (k_68, .int), (k_70, .int)] := ⟨_, rfl⟩
  have hK : va_K (dC, dI) vwCl T_35 s := by rw [show T_35 = T_34 ++ [(k_70, .int)] from by rw [hT_34, hT_35]; rfl]; exact hK
  clear eR hR_34 hT_34
  refine va_putF (D := (dC, dI)) (ci := 7) (v := .ref q_69) (ty := .array (.int)) (C := R_Md) (T := F_Md) (N := 64) (fs := F_35) hx hb htb i_Md t_Md t_Md_ok n_Md hown hK hP hD hS 0 rfl rfl 41 (by decide) (htb (.fieldLink R_Md 146 "WaterMenModel" "singleTo" "[I") tw_41) (fun _ h9 => h9) rfl hin rfl (by decide +kernel) rfl rfl (by omega) d_Md_init_300 (fun H locs hP hD hS => ?_)
  obtain ⟨F_36, hF_36⟩ : ∃ F : List Value, F = [.int 0, .int 0, .int 0, .ref q_1, .int (-1), .ref q_3, .ref q_5, .ref q_7, .ref q_9, .ref q_11, .ref q_13, .ref q_15, .ref q_17, .ref q_19, .ref q_21, .ref q_23, .ref q_25, .ref q_27, .ref q_29, .ref q_31, .ref q_33, .int 0, .ref q_35, .ref q_37, .ref q_39, .ref q_41, .ref q_43, .ref q_45, .int 0, .int 0, .ref q_47, .ref q_49, .ref q_51, .ref q_53, .ref q_55, .ref q_57, .ref q_59, .ref q_61, .ref q_63, .ref q_65, .ref q_67, .ref q_69, .int 0, .int 0, .int 0, .int 0, .int 0, .int 0, .null, .null, .null, .null, .null, .null, .null, .null, .long 0, .long 0, .long 0, .null, .int 0, .null, .null, .null] := ⟨_, rfl⟩
  have eF : F_35.set 41 (.ref q_69) = F_36 := by rw [hF_35, hF_36]; rfl
  have hP : va_P (dC, dI) vwCl ((h_0, .inr (7, F_36)) :: R_35) H := by rw [← eF]; exact hP
  have hD : va_D A ((h_0, .inr (7, F_36)) :: R_35) := by rw [← eF]; exact hD
  have hl_36 : F_36.length = 64 := by rw [hF_36]; rfl
  clear eF hF_35 hl_35
  refine lv_aload_n hx hb d_Md_init_303 rfl (lv_at hl 0 rfl) ?_
  refine lv_sipush (v := 600) hx hb d_Md_init_304 (by decide +kernel) ?_
  refine va_newa (atype := .int) (ty := .int) (N' := 600) (a0 := (600, .inl (fun _ => 0))) hx hb (htb (.arrayClass .int) tw_3) rfl hK hP hD hS hA (fun _ => rfl) (by decide +kernel) (by decide +kernel) (by decide +kernel) (by decide +kernel) (by decide +kernel) d_Md_init_307 (fun q_71 k_72 H hK hP hD hS => ?_)
  refine W.widen (k := 36) (n := 11136) (by decide +kernel) (by decide +kernel) ?_
  obtain ⟨R_36, hR_36⟩ : ∃ R : va_W, R = [(q_1, .inl (k_2, 12, .inl (fun _ => 0))), (q_3, .inl (k_4, 12, .inl (fun _ => 0))), (q_5, .inl (k_6, 500, .inl (fun _ => 0))), (q_7, .inl (k_8, 6000, .inl (fun _ => 0))), (q_9, .inl (k_10, 500, .inl (fun _ => 0))), (q_11, .inl (k_12, 40, .inl (fun _ => 0))), (q_13, .inl (k_14, 40, .inl (fun _ => 0))), (q_15, .inl (k_16, 40, .inl (fun _ => 0))), (q_17, .inl (k_18, 40, .inl (fun _ => 0))), (q_19, .inl (k_20, 240, .inl (fun _ => 0))), (q_21, .inl (k_22, 240, .inl (fun _ => 0))), (q_23, .inl (k_24, 40, .inl (fun _ => 0))), (q_25, .inl (k_26, 40, .inl (fun _ => 0))), (q_27, .inl (k_28, 40, .inl (fun _ => 0))), (q_29, .inl (k_30, 40, .inl (fun _ => 0))), (q_31, .inl (k_32, 12, .inl (fun _ => 0))), (q_33, .inl (k_34, 480, .inl (fun _ => 0))), (q_35, .inl (k_36, 20, .inl (fun _ => 0))), (q_37, .inl (k_38, 20, .inl (fun _ => 0))), (q_39, .inl (k_40, 20, .inl (fun _ => 0))), (q_41, .inl (k_42, 20, .inl (fun _ => 0))), (q_43, .inl (k_44, 20, .inl (fun _ => 0))), (q_45, .inl (k_46, 400, .inl (fun _ => 0))), (q_47, .inl (k_48, 20, .inl (fun _ => 0))), (q_49, .inl (k_50, 20, .inl (fun _ => 0))), (q_51, .inl (k_52, 20, .inl (fun _ => 0))), (q_53, .inl (k_54, 240, .inl (fun _ => 0))), (q_55, .inl (k_56, 240, .inl (fun _ => 0))), (q_57, .inl (k_58, 240, .inl (fun _ => 0))), (q_59, .inl (k_60, 20, .inl (fun _ => 0))), (q_61, .inl (k_62, 240, .inl (fun _ => 0))), (q_63, .inl (k_64, 240, .inl (fun _ => 0))), (q_65, .inl (k_66, 240, .inl (fun _ => 0))), (q_67, .inl (k_68, 180, .inl (fun _ => 0))), (q_69, .inl (k_70, 20, .inl (fun _ => 0))), (q_71, .inl (k_72, 600, .inl (fun _ => 0)))] := ⟨_, rfl⟩
  have eR : R_35 ++ [(q_71, .inl (k_72, 600, .inl (fun _ => 0)))] = R_36 := by rw [hR_35, hR_36]; rfl
  have hP : va_P (dC, dI) vwCl ((h_0, .inr (7, F_36)) :: R_36) H := by rw [← eR]; exact hP
  have hD : va_D A ((h_0, .inr (7, F_36)) :: R_36) := by rw [← eR]; exact hD
  obtain ⟨T_36, hT_36⟩ : ∃ T : List (ClassId × FieldType), T = [(k_2, .int), (k_4, .int), (k_6, .boolean), (k_8, .int), (k_10, .boolean), (k_12, .int), (k_14, .int), (k_16, .int), (k_18, .int), (k_20, .int), (k_22, .int), (k_24, .int), (k_26, .int), (k_28, .int), (k_30, .boolean), (k_32, .int), (k_34, .int), (k_36, .int), (k_38, .int), (k_40, .int), (k_42, .int), (k_44, .boolean), (k_46, .byte), (k_48, .int), (k_50, .int), (k_52, .int), (k_54, .int), (k_56, .int), (k_58, .int), (k_60, .int), (k_62, .int), (k_64, .int), (k_66, .int), (k_68, .int), (k_70, .int), (k_72, .int)] := ⟨_, rfl⟩
  have hK : va_K (dC, dI) vwCl T_36 s := by rw [show T_36 = T_35 ++ [(k_72, .int)] from by rw [hT_35, hT_36]; rfl]; exact hK
  clear eR hR_35 hT_35
  refine va_putF (D := (dC, dI)) (ci := 7) (v := .ref q_71) (ty := .array (.int)) (C := R_Md) (T := F_Md) (N := 64) (fs := F_36) hx hb htb i_Md t_Md t_Md_ok n_Md hown hK hP hD hS 0 rfl rfl 48 (by decide) (htb (.fieldLink R_Md 149 "WaterMenModel" "tripBoat" "[I") tw_42) (fun _ h9 => h9) rfl hin rfl (by decide +kernel) rfl rfl (by omega) d_Md_init_309 (fun H locs hP hD hS => ?_)
  obtain ⟨F_37, hF_37⟩ : ∃ F : List Value, F = [.int 0, .int 0, .int 0, .ref q_1, .int (-1), .ref q_3, .ref q_5, .ref q_7, .ref q_9, .ref q_11, .ref q_13, .ref q_15, .ref q_17, .ref q_19, .ref q_21, .ref q_23, .ref q_25, .ref q_27, .ref q_29, .ref q_31, .ref q_33, .int 0, .ref q_35, .ref q_37, .ref q_39, .ref q_41, .ref q_43, .ref q_45, .int 0, .int 0, .ref q_47, .ref q_49, .ref q_51, .ref q_53, .ref q_55, .ref q_57, .ref q_59, .ref q_61, .ref q_63, .ref q_65, .ref q_67, .ref q_69, .int 0, .int 0, .int 0, .int 0, .int 0, .int 0, .ref q_71, .null, .null, .null, .null, .null, .null, .null, .long 0, .long 0, .long 0, .null, .int 0, .null, .null, .null] := ⟨_, rfl⟩
  have eF : F_36.set 48 (.ref q_71) = F_37 := by rw [hF_36, hF_37]; rfl
  have hP : va_P (dC, dI) vwCl ((h_0, .inr (7, F_37)) :: R_36) H := by rw [← eF]; exact hP
  have hD : va_D A ((h_0, .inr (7, F_37)) :: R_36) := by rw [← eF]; exact hD
  have hl_37 : F_37.length = 64 := by rw [hF_37]; rfl
  clear eF hF_36 hl_36
  refine lv_aload_n hx hb d_Md_init_312 rfl (lv_at hl 0 rfl) ?_
  refine lv_sipush (v := 600) hx hb d_Md_init_313 (by decide +kernel) ?_
  refine va_newa (atype := .int) (ty := .int) (N' := 600) (a0 := (600, .inl (fun _ => 0))) hx hb (htb (.arrayClass .int) tw_3) rfl hK hP hD hS hA (fun _ => rfl) (by decide +kernel) (by decide +kernel) (by decide +kernel) (by decide +kernel) (by decide +kernel) d_Md_init_316 (fun q_73 k_74 H hK hP hD hS => ?_)
  refine W.widen (k := 37) (n := 11736) (by decide +kernel) (by decide +kernel) ?_
  obtain ⟨R_37, hR_37⟩ : ∃ R : va_W, R = [(q_1, .inl (k_2, 12, .inl (fun _ => 0))), (q_3, .inl (k_4, 12, .inl (fun _ => 0))), (q_5, .inl (k_6, 500, .inl (fun _ => 0))), (q_7, .inl (k_8, 6000, .inl (fun _ => 0))), (q_9, .inl (k_10, 500, .inl (fun _ => 0))), (q_11, .inl (k_12, 40, .inl (fun _ => 0))), (q_13, .inl (k_14, 40, .inl (fun _ => 0))), (q_15, .inl (k_16, 40, .inl (fun _ => 0))), (q_17, .inl (k_18, 40, .inl (fun _ => 0))), (q_19, .inl (k_20, 240, .inl (fun _ => 0))), (q_21, .inl (k_22, 240, .inl (fun _ => 0))), (q_23, .inl (k_24, 40, .inl (fun _ => 0))), (q_25, .inl (k_26, 40, .inl (fun _ => 0))), (q_27, .inl (k_28, 40, .inl (fun _ => 0))), (q_29, .inl (k_30, 40, .inl (fun _ => 0))), (q_31, .inl (k_32, 12, .inl (fun _ => 0))), (q_33, .inl (k_34, 480, .inl (fun _ => 0))), (q_35, .inl (k_36, 20, .inl (fun _ => 0))), (q_37, .inl (k_38, 20, .inl (fun _ => 0))), (q_39, .inl (k_40, 20, .inl (fun _ => 0))), (q_41, .inl (k_42, 20, .inl (fun _ => 0))), (q_43, .inl (k_44, 20, .inl (fun _ => 0))), (q_45, .inl (k_46, 400, .inl (fun _ => 0))), (q_47, .inl (k_48, 20, .inl (fun _ => 0))), (q_49, .inl (k_50, 20, .inl (fun _ => 0))), (q_51, .inl (k_52, 20, .inl (fun _ => 0))), (q_53, .inl (k_54, 240, .inl (fun _ => 0))), (q_55, .inl (k_56, 240, .inl (fun _ => 0))), (q_57, .inl (k_58, 240, .inl (fun _ => 0))), (q_59, .inl (k_60, 20, .inl (fun _ => 0))), (q_61, .inl (k_62, 240, .inl (fun _ => 0))), (q_63, .inl (k_64, 240, .inl (fun _ => 0))), (q_65, .inl (k_66, 240, .inl (fun _ => 0))), (q_67, .inl (k_68, 180, .inl (fun _ => 0))), (q_69, .inl (k_70, 20, .inl (fun _ => 0))), (q_71, .inl (k_72, 600, .inl (fun _ => 0))), (q_73, .inl (k_74, 600, .inl (fun _ => 0)))] := ⟨_, rfl⟩
  have eR : R_36 ++ [(q_73, .inl (k_74, 600, .inl (fun _ => 0)))] = R_37 := by rw [hR_36, hR_37]; rfl
  have hP : va_P (dC, dI) vwCl ((h_0, .inr (7, F_37)) :: R_37) H := by rw [← eR]; exact hP
  have hD : va_D A ((h_0, .inr (7, F_37)) :: R_37) := by rw [← eR]; exact hD
  obtain ⟨T_37, hT_37⟩ : ∃ T : List (ClassId × FieldType), T = [(k_2, .int), (k_4, .int), (k_6, .boolean), (k_8, .int), (k_10, .boolean), (k_12, .int), (k_14, .int), (k_16, .int), (k_18, .int), (k_20, .int), (k_22, .int), (k_24, .int), (k_26, .int), (k_28, .int), (k_30, .boolean), (k_32, .int), (k_34, .int), (k_36, .int), (k_38, .int), (k_40, .int), (k_42, .int), (k_44, .boolean), (k_46, .byte), (k_48, .int), (k_50, .int), (k_52, .int), (k_54, .int), (k_56, .int), (k_58, .int), (k_60, .int), (k_62, .int), (k_64, .int), (k_66, .int), (k_68, .int), (k_70, .int), (k_72, .int), (k_74, .int)] := ⟨_, rfl⟩
  have hK : va_K (dC, dI) vwCl T_37 s := by rw [show T_37 = T_36 ++ [(k_74, .int)] from by rw [hT_36, hT_37]; rfl]; exact hK
  clear eR hR_36 hT_36
  refine va_putF (D := (dC, dI)) (ci := 7) (v := .ref q_73) (ty := .array (.int)) (C := R_Md) (T := F_Md) (N := 64) (fs := F_37) hx hb htb i_Md t_Md t_Md_ok n_Md hown hK hP hD hS 0 rfl rfl 49 (by decide) (htb (.fieldLink R_Md 152 "WaterMenModel" "tripMan" "[I") tw_43) (fun _ h9 => h9) rfl hin rfl (by decide +kernel) rfl rfl (by omega) d_Md_init_318 (fun H locs hP hD hS => ?_)
  obtain ⟨F_38, hF_38⟩ : ∃ F : List Value, F = [.int 0, .int 0, .int 0, .ref q_1, .int (-1), .ref q_3, .ref q_5, .ref q_7, .ref q_9, .ref q_11, .ref q_13, .ref q_15, .ref q_17, .ref q_19, .ref q_21, .ref q_23, .ref q_25, .ref q_27, .ref q_29, .ref q_31, .ref q_33, .int 0, .ref q_35, .ref q_37, .ref q_39, .ref q_41, .ref q_43, .ref q_45, .int 0, .int 0, .ref q_47, .ref q_49, .ref q_51, .ref q_53, .ref q_55, .ref q_57, .ref q_59, .ref q_61, .ref q_63, .ref q_65, .ref q_67, .ref q_69, .int 0, .int 0, .int 0, .int 0, .int 0, .int 0, .ref q_71, .ref q_73, .null, .null, .null, .null, .null, .null, .long 0, .long 0, .long 0, .null, .int 0, .null, .null, .null] := ⟨_, rfl⟩
  have eF : F_37.set 49 (.ref q_73) = F_38 := by rw [hF_37, hF_38]; rfl
  have hP : va_P (dC, dI) vwCl ((h_0, .inr (7, F_38)) :: R_37) H := by rw [← eF]; exact hP
  have hD : va_D A ((h_0, .inr (7, F_38)) :: R_37) := by rw [← eF]; exact hD
  have hl_38 : F_38.length = 64 := by rw [hF_38]; rfl
  clear eF hF_37 hl_37
  refine lv_aload_n hx hb d_Md_init_321 rfl (lv_at hl 0 rfl) ?_
  refine lv_sipush (v := 600) hx hb d_Md_init_322 (by decide +kernel) ?_
  refine va_newa (atype := .int) (ty := .int) (N' := 600) (a0 := (600, .inl (fun _ => 0))) hx hb (htb (.arrayClass .int) tw_3) rfl hK hP hD hS hA (fun _ => rfl) (by decide +kernel) (by decide +kernel) (by decide +kernel) (by decide +kernel) (by decide +kernel) d_Md_init_325 (fun q_75 k_76 H hK hP hD hS => ?_)
  refine W.widen (k := 38) (n := 12336) (by decide +kernel) (by decide +kernel) ?_
  obtain ⟨R_38, hR_38⟩ : ∃ R : va_W, R = [(q_1, .inl (k_2, 12, .inl (fun _ => 0))), (q_3, .inl (k_4, 12, .inl (fun _ => 0))), (q_5, .inl (k_6, 500, .inl (fun _ => 0))), (q_7, .inl (k_8, 6000, .inl (fun _ => 0))), (q_9, .inl (k_10, 500, .inl (fun _ => 0))), (q_11, .inl (k_12, 40, .inl (fun _ => 0))), (q_13, .inl (k_14, 40, .inl (fun _ => 0))), (q_15, .inl (k_16, 40, .inl (fun _ => 0))), (q_17, .inl (k_18, 40, .inl (fun _ => 0))), (q_19, .inl (k_20, 240, .inl (fun _ => 0))), (q_21, .inl (k_22, 240, .inl (fun _ => 0))), (q_23, .inl (k_24, 40, .inl (fun _ => 0))), (q_25, .inl (k_26, 40, .inl (fun _ => 0))), (q_27, .inl (k_28, 40, .inl (fun _ => 0))), (q_29, .inl (k_30, 40, .inl (fun _ => 0))), (q_31, .inl (k_32, 12, .inl (fun _ => 0))), (q_33, .inl (k_34, 480, .inl (fun _ => 0))), (q_35, .inl (k_36, 20, .inl (fun _ => 0))), (q_37, .inl (k_38, 20, .inl (fun _ => 0))), (q_39, .inl (k_40, 20, .inl (fun _ => 0))), (q_41, .inl (k_42, 20, .inl (fun _ => 0))), (q_43, .inl (k_44, 20, .inl (fun _ => 0))), (q_45, .inl (k_46, 400, .inl (fun _ => 0))), (q_47, .inl (k_48, 20, .inl (fun _ => 0))), (q_49, .inl (k_50, 20, .inl (fun _ => 0))), (q_51, .inl (k_52, 20, .inl (fun _ => 0))), (q_53, .inl (k_54, 240, .inl (fun _ => 0))), (q_55, .inl (k_56, 240, .inl (fun _ => 0))), (q_57, .inl (k_58, 240, .inl (fun _ => 0))), (q_59, .inl (k_60, 20, .inl (fun _ => 0))), (q_61, .inl (k_62, 240, .inl (fun _ => 0))), (q_63, .inl (k_64, 240, .inl (fun _ => 0))), (q_65, .inl (k_66, 240, .inl (fun _ => 0))), (q_67, .inl (k_68, 180, .inl (fun _ => 0))), (q_69, .inl (k_70, 20, .inl (fun _ => 0))), (q_71, .inl (k_72, 600, .inl (fun _ => 0))), (q_73, .inl (k_74, 600, .inl (fun _ => 0))), (q_75, .inl (k_76, 600, .inl (fun _ => 0)))] := ⟨_, rfl⟩
  have eR : R_37 ++ [(q_75, .inl (k_76, 600, .inl (fun _ => 0)))] = R_38 := by rw [hR_37, hR_38]; rfl
  have hP : va_P (dC, dI) vwCl ((h_0, .inr (7, F_38)) :: R_38) H := by rw [← eR]; exact hP
  have hD : va_D A ((h_0, .inr (7, F_38)) :: R_38) := by rw [← eR]; exact hD
  obtain ⟨T_38, hT_38⟩ : ∃ T : List (ClassId × FieldType), T = [(k_2, .int), (k_4, .int), (k_6, .boolean), (k_8, .int), (k_10, .boolean), (k_12, .int), (k_14, .int), (k_16, .int), (k_18, .int), (k_20, .int), (k_22, .int), (k_24, .int), (k_26, .int), (k_28, .int), (k_30, .boolean), (k_32, .int), (k_34, .int), (k_36, .int), (k_38, .int), (k_40, .int), (k_42, .int), (k_44, .boolean), (k_46, .byte), (k_48, .int), (k_50, .int), (k_52, .int), (k_54, .int), (k_56, .int), (k_58, .int), (k_60, .int), (k_62, .int), (k_64, .int), (k_66, .int), (k_68, .int), (k_70, .int), (k_72, .int), (k_74, .int), (k_76, .int)] := ⟨_, rfl⟩
  have hK : va_K (dC, dI) vwCl T_38 s := by rw [show T_38 = T_37 ++ [(k_76, .int)] from by rw [hT_37, hT_38]; rfl]; exact hK
  clear eR hR_37 hT_37
  refine va_putF (D := (dC, dI)) (ci := 7) (v := .ref q_75) (ty := .array (.int)) (C := R_Md) (T := F_Md) (N := 64) (fs := F_38) hx hb htb i_Md t_Md t_Md_ok n_Md hown hK hP hD hS 0 rfl rfl 50 (by decide) (htb (.fieldLink R_Md 155 "WaterMenModel" "tripFrom" "[I") tw_44) (fun _ h9 => h9) rfl hin rfl (by decide +kernel) rfl rfl (by omega) d_Md_init_327 (fun H locs hP hD hS => ?_)
  obtain ⟨F_39, hF_39⟩ : ∃ F : List Value, F = [.int 0, .int 0, .int 0, .ref q_1, .int (-1), .ref q_3, .ref q_5, .ref q_7, .ref q_9, .ref q_11, .ref q_13, .ref q_15, .ref q_17, .ref q_19, .ref q_21, .ref q_23, .ref q_25, .ref q_27, .ref q_29, .ref q_31, .ref q_33, .int 0, .ref q_35, .ref q_37, .ref q_39, .ref q_41, .ref q_43, .ref q_45, .int 0, .int 0, .ref q_47, .ref q_49, .ref q_51, .ref q_53, .ref q_55, .ref q_57, .ref q_59, .ref q_61, .ref q_63, .ref q_65, .ref q_67, .ref q_69, .int 0, .int 0, .int 0, .int 0, .int 0, .int 0, .ref q_71, .ref q_73, .ref q_75, .null, .null, .null, .null, .null, .long 0, .long 0, .long 0, .null, .int 0, .null, .null, .null] := ⟨_, rfl⟩
  have eF : F_38.set 50 (.ref q_75) = F_39 := by rw [hF_38, hF_39]; rfl
  have hP : va_P (dC, dI) vwCl ((h_0, .inr (7, F_39)) :: R_38) H := by rw [← eF]; exact hP
  have hD : va_D A ((h_0, .inr (7, F_39)) :: R_38) := by rw [← eF]; exact hD
  have hl_39 : F_39.length = 64 := by rw [hF_39]; rfl
  clear eF hF_38 hl_38
  refine lv_aload_n hx hb d_Md_init_330 rfl (lv_at hl 0 rfl) ?_
  refine lv_sipush (v := 600) hx hb d_Md_init_331 (by decide +kernel) ?_
  refine va_newa (atype := .int) (ty := .int) (N' := 600) (a0 := (600, .inl (fun _ => 0))) hx hb (htb (.arrayClass .int) tw_3) rfl hK hP hD hS hA (fun _ => rfl) (by decide +kernel) (by decide +kernel) (by decide +kernel) (by decide +kernel) (by decide +kernel) d_Md_init_334 (fun q_77 k_78 H hK hP hD hS => ?_)
  refine W.widen (k := 39) (n := 12936) (by decide +kernel) (by decide +kernel) ?_
  obtain ⟨R_39, hR_39⟩ : ∃ R : va_W, R = [(q_1, .inl (k_2, 12, .inl (fun _ => 0))), (q_3, .inl (k_4, 12, .inl (fun _ => 0))), (q_5, .inl (k_6, 500, .inl (fun _ => 0))), (q_7, .inl (k_8, 6000, .inl (fun _ => 0))), (q_9, .inl (k_10, 500, .inl (fun _ => 0))), (q_11, .inl (k_12, 40, .inl (fun _ => 0))), (q_13, .inl (k_14, 40, .inl (fun _ => 0))), (q_15, .inl (k_16, 40, .inl (fun _ => 0))), (q_17, .inl (k_18, 40, .inl (fun _ => 0))), (q_19, .inl (k_20, 240, .inl (fun _ => 0))), (q_21, .inl (k_22, 240, .inl (fun _ => 0))), (q_23, .inl (k_24, 40, .inl (fun _ => 0))), (q_25, .inl (k_26, 40, .inl (fun _ => 0))), (q_27, .inl (k_28, 40, .inl (fun _ => 0))), (q_29, .inl (k_30, 40, .inl (fun _ => 0))), (q_31, .inl (k_32, 12, .inl (fun _ => 0))), (q_33, .inl (k_34, 480, .inl (fun _ => 0))), (q_35, .inl (k_36, 20, .inl (fun _ => 0))), (q_37, .inl (k_38, 20, .inl (fun _ => 0))), (q_39, .inl (k_40, 20, .inl (fun _ => 0))), (q_41, .inl (k_42, 20, .inl (fun _ => 0))), (q_43, .inl (k_44, 20, .inl (fun _ => 0))), (q_45, .inl (k_46, 400, .inl (fun _ => 0))), (q_47, .inl (k_48, 20, .inl (fun _ => 0))), (q_49, .inl (k_50, 20, .inl (fun _ => 0))), (q_51, .inl (k_52, 20, .inl (fun _ => 0))), (q_53, .inl (k_54, 240, .inl (fun _ => 0))), (q_55, .inl (k_56, 240, .inl (fun _ => 0))), (q_57, .inl (k_58, 240, .inl (fun _ => 0))), (q_59, .inl (k_60, 20, .inl (fun _ => 0))), (q_61, .inl (k_62, 240, .inl (fun _ => 0))), (q_63, .inl (k_64, 240, .inl (fun _ => 0))), (q_65, .inl (k_66, 240, .inl (fun _ => 0))), (q_67, .inl (k_68, 180, .inl (fun _ => 0))), (q_69, .inl (k_70, 20, .inl (fun _ => 0))), (q_71, .inl (k_72, 600, .inl (fun _ => 0))), (q_73, .inl (k_74, 600, .inl (fun _ => 0))), (q_75, .inl (k_76, 600, .inl (fun _ => 0))), (q_77, .inl (k_78, 600, .inl (fun _ => 0)))] := ⟨_, rfl⟩
  have eR : R_38 ++ [(q_77, .inl (k_78, 600, .inl (fun _ => 0)))] = R_39 := by rw [hR_38, hR_39]; rfl
  have hP : va_P (dC, dI) vwCl ((h_0, .inr (7, F_39)) :: R_39) H := by rw [← eR]; exact hP
  have hD : va_D A ((h_0, .inr (7, F_39)) :: R_39) := by rw [← eR]; exact hD
  obtain ⟨T_39, hT_39⟩ : ∃ T : List (ClassId × FieldType), T = [(k_2, .int), (k_4, .int), (k_6, .boolean), (k_8, .int), (k_10, .boolean), (k_12, .int), (k_14, .int), (k_16, .int), (k_18, .int), (k_20, .int), (k_22, .int), (k_24, .int), (k_26, .int), (k_28, .int), (k_30, .boolean), (k_32, .int), (k_34, .int), (k_36, .int), (k_38, .int), (k_40, .int), (k_42, .int), (k_44, .boolean), (k_46, .byte), (k_48, .int), (k_50, .int), (k_52, .int), (k_54, .int), (k_56, .int), (k_58, .int), (k_60, .int), (k_62, .int), (k_64, .int), (k_66, .int), (k_68, .int), (k_70, .int), (k_72, .int), (k_74, .int), (k_76, .int), (k_78, .int)] := ⟨_, rfl⟩
  have hK : va_K (dC, dI) vwCl T_39 s := by rw [show T_39 = T_38 ++ [(k_78, .int)] from by rw [hT_38, hT_39]; rfl]; exact hK
  clear eR hR_38 hT_38
  refine va_putF (D := (dC, dI)) (ci := 7) (v := .ref q_77) (ty := .array (.int)) (C := R_Md) (T := F_Md) (N := 64) (fs := F_39) hx hb htb i_Md t_Md t_Md_ok n_Md hown hK hP hD hS 0 rfl rfl 51 (by decide) (htb (.fieldLink R_Md 158 "WaterMenModel" "tripTo" "[I") tw_45) (fun _ h9 => h9) rfl hin rfl (by decide +kernel) rfl rfl (by omega) d_Md_init_336 (fun H locs hP hD hS => ?_)
  obtain ⟨F_40, hF_40⟩ : ∃ F : List Value, F = [.int 0, .int 0, .int 0, .ref q_1, .int (-1), .ref q_3, .ref q_5, .ref q_7, .ref q_9, .ref q_11, .ref q_13, .ref q_15, .ref q_17, .ref q_19, .ref q_21, .ref q_23, .ref q_25, .ref q_27, .ref q_29, .ref q_31, .ref q_33, .int 0, .ref q_35, .ref q_37, .ref q_39, .ref q_41, .ref q_43, .ref q_45, .int 0, .int 0, .ref q_47, .ref q_49, .ref q_51, .ref q_53, .ref q_55, .ref q_57, .ref q_59, .ref q_61, .ref q_63, .ref q_65, .ref q_67, .ref q_69, .int 0, .int 0, .int 0, .int 0, .int 0, .int 0, .ref q_71, .ref q_73, .ref q_75, .ref q_77, .null, .null, .null, .null, .long 0, .long 0, .long 0, .null, .int 0, .null, .null, .null] := ⟨_, rfl⟩
  have eF : F_39.set 51 (.ref q_77) = F_40 := by rw [hF_39, hF_40]; rfl
  have hP : va_P (dC, dI) vwCl ((h_0, .inr (7, F_40)) :: R_39) H := by rw [← eF]; exact hP
  have hD : va_D A ((h_0, .inr (7, F_40)) :: R_39) := by rw [← eF]; exact hD
  have hl_40 : F_40.length = 64 := by rw [hF_40]; rfl
  clear eF hF_39 hl_39
  refine lv_aload_n hx hb d_Md_init_339 rfl (lv_at hl 0 rfl) ?_
  refine lv_sipush (v := 600) hx hb d_Md_init_340 (by decide +kernel) ?_
  refine va_newa (atype := .int) (ty := .int) (N' := 600) (a0 := (600, .inl (fun _ => 0))) hx hb (htb (.arrayClass .int) tw_3) rfl hK hP hD hS hA (fun _ => rfl) (by decide +kernel) (by decide +kernel) (by decide +kernel) (by decide +kernel) (by decide +kernel) d_Md_init_343 (fun q_79 k_80 H hK hP hD hS => ?_)
  refine W.widen (k := 40) (n := 13536) (by decide +kernel) (by decide +kernel) ?_
  obtain ⟨R_40, hR_40⟩ : ∃ R : va_W, R = [(q_1, .inl (k_2, 12, .inl (fun _ => 0))), (q_3, .inl (k_4, 12, .inl (fun _ => 0))), (q_5, .inl (k_6, 500, .inl (fun _ => 0))), (q_7, .inl (k_8, 6000, .inl (fun _ => 0))), (q_9, .inl (k_10, 500, .inl (fun _ => 0))), (q_11, .inl (k_12, 40, .inl (fun _ => 0))), (q_13, .inl (k_14, 40, .inl (fun _ => 0))), (q_15, .inl (k_16, 40, .inl (fun _ => 0))), (q_17, .inl (k_18, 40, .inl (fun _ => 0))), (q_19, .inl (k_20, 240, .inl (fun _ => 0))), (q_21, .inl (k_22, 240, .inl (fun _ => 0))), (q_23, .inl (k_24, 40, .inl (fun _ => 0))), (q_25, .inl (k_26, 40, .inl (fun _ => 0))), (q_27, .inl (k_28, 40, .inl (fun _ => 0))), (q_29, .inl (k_30, 40, .inl (fun _ => 0))), (q_31, .inl (k_32, 12, .inl (fun _ => 0))), (q_33, .inl (k_34, 480, .inl (fun _ => 0))), (q_35, .inl (k_36, 20, .inl (fun _ => 0))), (q_37, .inl (k_38, 20, .inl (fun _ => 0))), (q_39, .inl (k_40, 20, .inl (fun _ => 0))), (q_41, .inl (k_42, 20, .inl (fun _ => 0))), (q_43, .inl (k_44, 20, .inl (fun _ => 0))), (q_45, .inl (k_46, 400, .inl (fun _ => 0))), (q_47, .inl (k_48, 20, .inl (fun _ => 0))), (q_49, .inl (k_50, 20, .inl (fun _ => 0))), (q_51, .inl (k_52, 20, .inl (fun _ => 0))), (q_53, .inl (k_54, 240, .inl (fun _ => 0))), (q_55, .inl (k_56, 240, .inl (fun _ => 0))), (q_57, .inl (k_58, 240, .inl (fun _ => 0))), (q_59, .inl (k_60, 20, .inl (fun _ => 0))), (q_61, .inl (k_62, 240, .inl (fun _ => 0))), (q_63, .inl (k_64, 240, .inl (fun _ => 0))), (q_65, .inl (k_66, 240, .inl (fun _ => 0))), (q_67, .inl (k_68, 180, .inl (fun _ => 0))), (q_69, .inl (k_70, 20, .inl (fun _ => 0))), (q_71, .inl (k_72, 600, .inl (fun _ => 0))), (q_73, .inl (k_74, 600, .inl (fun _ => 0))), (q_75, .inl (k_76, 600, .inl (fun _ => 0))), (q_77, .inl (k_78, 600, .inl (fun _ => 0))), (q_79, .inl (k_80, 600, .inl (fun _ => 0)))] := ⟨_, rfl⟩
  have eR : R_39 ++ [(q_79, .inl (k_80, 600, .inl (fun _ => 0)))] = R_40 := by rw [hR_39, hR_40]; rfl
  have hP : va_P (dC, dI) vwCl ((h_0, .inr (7, F_40)) :: R_40) H := by rw [← eR]; exact hP
  have hD : va_D A ((h_0, .inr (7, F_40)) :: R_40) := by rw [← eR]; exact hD
  obtain ⟨T_40, hT_40⟩ : ∃ T : List (ClassId × FieldType), T = [(k_2, .int), (k_4, .int), (k_6, .boolean), (k_8, .int), (k_10, .boolean), (k_12, .int), (k_14, .int), (k_16, .int), (k_18, .int), (k_20, .int), (k_22, .int), (k_24, .int), (k_26, .int), (k_28, .int), (k_30, .boolean), (k_32, .int), (k_34, .int), (k_36, .int), (k_38, .int), (k_40, .int), (k_42, .int), (k_44, .boolean), (k_46, .byte), (k_48, .int), (k_50, .int), (k_52, .int), (k_54, .int), (k_56, .int), (k_58, .int), (k_60, .int), (k_62, .int), (k_64, .int), (k_66, .int), (k_68, .int), (k_70, .int), (k_72, .int), (k_74, .int), (k_76, .int), (k_78, .int), (k_80, .int)] := ⟨_, rfl⟩
  have hK : va_K (dC, dI) vwCl T_40 s := by rw [show T_40 = T_39 ++ [(k_80, .int)] from by rw [hT_39, hT_40]; rfl]; exact hK
  clear eR hR_39 hT_39
  refine va_putF (D := (dC, dI)) (ci := 7) (v := .ref q_79) (ty := .array (.int)) (C := R_Md) (T := F_Md) (N := 64) (fs := F_40) hx hb htb i_Md t_Md t_Md_ok n_Md hown hK hP hD hS 0 rfl rfl 52 (by decide) (htb (.fieldLink R_Md 161 "WaterMenModel" "tripBegin" "[I") tw_46) (fun _ h9 => h9) rfl hin rfl (by decide +kernel) rfl rfl (by omega) d_Md_init_345 (fun H locs hP hD hS => ?_)
  obtain ⟨F_41, hF_41⟩ : ∃ F : List Value, F = [.int 0, .int 0, .int 0, .ref q_1, .int (-1), .ref q_3, .ref q_5, .ref q_7, .ref q_9, .ref q_11, .ref q_13, .ref q_15, .ref q_17, .ref q_19, .ref q_21, .ref q_23, .ref q_25, .ref q_27, .ref q_29, .ref q_31, .ref q_33, .int 0, .ref q_35, .ref q_37, .ref q_39, .ref q_41, .ref q_43, .ref q_45, .int 0, .int 0, .ref q_47, .ref q_49, .ref q_51, .ref q_53, .ref q_55, .ref q_57, .ref q_59, .ref q_61, .ref q_63, .ref q_65, .ref q_67, .ref q_69, .int 0, .int 0, .int 0, .int 0, .int 0, .int 0, .ref q_71, .ref q_73, .ref q_75, .ref q_77, .ref q_79, .null, .null, .null, .long 0, .long 0, .long 0, .null, .int 0, .null, .null, .null] := ⟨_, rfl⟩
  have eF : F_40.set 52 (.ref q_79) = F_41 := by rw [hF_40, hF_41]; rfl
  have hP : va_P (dC, dI) vwCl ((h_0, .inr (7, F_41)) :: R_40) H := by rw [← eF]; exact hP
  have hD : va_D A ((h_0, .inr (7, F_41)) :: R_40) := by rw [← eF]; exact hD
  have hl_41 : F_41.length = 64 := by rw [hF_41]; rfl
  clear eF hF_40 hl_40
  refine lv_aload_n hx hb d_Md_init_348 rfl (lv_at hl 0 rfl) ?_
  refine lv_sipush (v := 600) hx hb d_Md_init_349 (by decide +kernel) ?_
  refine va_newa (atype := .int) (ty := .int) (N' := 600) (a0 := (600, .inl (fun _ => 0))) hx hb (htb (.arrayClass .int) tw_3) rfl hK hP hD hS hA (fun _ => rfl) (by decide +kernel) (by decide +kernel) (by decide +kernel) (by decide +kernel) (by decide +kernel) d_Md_init_352 (fun q_81 k_82 H hK hP hD hS => ?_)
  refine W.widen (k := 41) (n := 14136) (by decide +kernel) (by decide +kernel) ?_
  obtain ⟨R_41, hR_41⟩ : ∃ R : va_W, R = [(q_1, .inl (k_2, 12, .inl (fun _ => 0))), (q_3, .inl (k_4, 12, .inl (fun _ => 0))), (q_5, .inl (k_6, 500, .inl (fun _ => 0))), (q_7, .inl (k_8, 6000, .inl (fun _ => 0))), (q_9, .inl (k_10, 500, .inl (fun _ => 0))), (q_11, .inl (k_12, 40, .inl (fun _ => 0))), (q_13, .inl (k_14, 40, .inl (fun _ => 0))), (q_15, .inl (k_16, 40, .inl (fun _ => 0))), (q_17, .inl (k_18, 40, .inl (fun _ => 0))), (q_19, .inl (k_20, 240, .inl (fun _ => 0))), (q_21, .inl (k_22, 240, .inl (fun _ => 0))), (q_23, .inl (k_24, 40, .inl (fun _ => 0))), (q_25, .inl (k_26, 40, .inl (fun _ => 0))), (q_27, .inl (k_28, 40, .inl (fun _ => 0))), (q_29, .inl (k_30, 40, .inl (fun _ => 0))), (q_31, .inl (k_32, 12, .inl (fun _ => 0))), (q_33, .inl (k_34, 480, .inl (fun _ => 0))), (q_35, .inl (k_36, 20, .inl (fun _ => 0))), (q_37, .inl (k_38, 20, .inl (fun _ => 0))), (q_39, .inl (k_40, 20, .inl (fun _ => 0))), (q_41, .inl (k_42, 20, .inl (fun _ => 0))), (q_43, .inl (k_44, 20, .inl (fun _ => 0))), (q_45, .inl (k_46, 400, .inl (fun _ => 0))), (q_47, .inl (k_48, 20, .inl (fun _ => 0))), (q_49, .inl (k_50, 20, .inl (fun _ => 0))), (q_51, .inl (k_52, 20, .inl (fun _ => 0))), (q_53, .inl (k_54, 240, .inl (fun _ => 0))), (q_55, .inl (k_56, 240, .inl (fun _ => 0))), (q_57, .inl (k_58, 240, .inl (fun _ => 0))), (q_59, .inl (k_60, 20, .inl (fun _ => 0))), (q_61, .inl (k_62, 240, .inl (fun _ => 0))), (q_63, .inl (k_64, 240, .inl (fun _ => 0))), (q_65, .inl (k_66, 240, .inl (fun _ => 0))), (q_67, .inl (k_68, 180, .inl (fun _ => 0))), (q_69, .inl (k_70, 20, .inl (fun _ => 0))), (q_71, .inl (k_72, 600, .inl (fun _ => 0))), (q_73, .inl (k_74, 600, .inl (fun _ => 0))), (q_75, .inl (k_76, 600, .inl (fun _ => 0))), (q_77, .inl (k_78, 600, .inl (fun _ => 0))), (q_79, .inl (k_80, 600, .inl (fun _ => 0))), (q_81, .inl (k_82, 600, .inl (fun _ => 0)))] := ⟨_, rfl⟩
  have eR : R_40 ++ [(q_81, .inl (k_82, 600, .inl (fun _ => 0)))] = R_41 := by rw [hR_40, hR_41]; rfl
  have hP : va_P (dC, dI) vwCl ((h_0, .inr (7, F_41)) :: R_41) H := by rw [← eR]; exact hP
  have hD : va_D A ((h_0, .inr (7, F_41)) :: R_41) := by rw [← eR]; exact hD
  obtain ⟨T_41, hT_41⟩ : ∃ T : List (ClassId × FieldType), T = [(k_2, .int), (k_4, .int), (k_6, .boolean), (k_8, .int), (k_10, .boolean), (k_12, .int), (k_14, .int), (k_16, .int), (k_18, .int), (k_20, .int), (k_22, .int), (k_24, .int), (k_26, .int), (k_28, .int), (k_30, .boolean), (k_32, .int), (k_34, .int), (k_36, .int), (k_38, .int), (k_40, .int), (k_42, .int), (k_44, .boolean), (k_46, .byte), (k_48, .int), (k_50, .int), (k_52, .int), (k_54, .int), (k_56, .int), (k_58, .int), (k_60, .int), (k_62, .int), (k_64, .int), (k_66, .int), (k_68, .int), (k_70, .int), (k_72, .int), (k_74, .int), (k_76, .int), (k_78, .int), (k_80, .int), (k_82, .int)] := ⟨_, rfl⟩
  have hK : va_K (dC, dI) vwCl T_41 s := by rw [show T_41 = T_40 ++ [(k_82, .int)] from by rw [hT_40, hT_41]; rfl]; exact hK
  clear eR hR_40 hT_40
  refine va_putF (D := (dC, dI)) (ci := 7) (v := .ref q_81) (ty := .array (.int)) (C := R_Md) (T := F_Md) (N := 64) (fs := F_41) hx hb htb i_Md t_Md t_Md_ok n_Md hown hK hP hD hS 0 rfl rfl 53 (by decide) (htb (.fieldLink R_Md 164 "WaterMenModel" "tripThere" "[I") tw_47) (fun _ h9 => h9) rfl hin rfl (by decide +kernel) rfl rfl (by omega) d_Md_init_354 (fun H locs hP hD hS => ?_)
  obtain ⟨F_42, hF_42⟩ : ∃ F : List Value, F = [.int 0, .int 0, .int 0, .ref q_1, .int (-1), .ref q_3, .ref q_5, .ref q_7, .ref q_9, .ref q_11, .ref q_13, .ref q_15, .ref q_17, .ref q_19, .ref q_21, .ref q_23, .ref q_25, .ref q_27, .ref q_29, .ref q_31, .ref q_33, .int 0, .ref q_35, .ref q_37, .ref q_39, .ref q_41, .ref q_43, .ref q_45, .int 0, .int 0, .ref q_47, .ref q_49, .ref q_51, .ref q_53, .ref q_55, .ref q_57, .ref q_59, .ref q_61, .ref q_63, .ref q_65, .ref q_67, .ref q_69, .int 0, .int 0, .int 0, .int 0, .int 0, .int 0, .ref q_71, .ref q_73, .ref q_75, .ref q_77, .ref q_79, .ref q_81, .null, .null, .long 0, .long 0, .long 0, .null, .int 0, .null, .null, .null] := ⟨_, rfl⟩
  have eF : F_41.set 53 (.ref q_81) = F_42 := by rw [hF_41, hF_42]; rfl
  have hP : va_P (dC, dI) vwCl ((h_0, .inr (7, F_42)) :: R_41) H := by rw [← eF]; exact hP
  have hD : va_D A ((h_0, .inr (7, F_42)) :: R_41) := by rw [← eF]; exact hD
  have hl_42 : F_42.length = 64 := by rw [hF_42]; rfl
  clear eF hF_41 hl_41
  refine lv_aload_n hx hb d_Md_init_357 rfl (lv_at hl 0 rfl) ?_
  refine lv_sipush (v := 600) hx hb d_Md_init_358 (by decide +kernel) ?_
  refine va_newa (atype := .int) (ty := .int) (N' := 600) (a0 := (600, .inl (fun _ => 0))) hx hb (htb (.arrayClass .int) tw_3) rfl hK hP hD hS hA (fun _ => rfl) (by decide +kernel) (by decide +kernel) (by decide +kernel) (by decide +kernel) (by decide +kernel) d_Md_init_361 (fun q_83 k_84 H hK hP hD hS => ?_)
  refine W.widen (k := 42) (n := 14736) (by decide +kernel) (by decide +kernel) ?_
  obtain ⟨R_42, hR_42⟩ : ∃ R : va_W, R = [(q_1, .inl (k_2, 12, .inl (fun _ => 0))), (q_3, .inl (k_4, 12, .inl (fun _ => 0))), (q_5, .inl (k_6, 500, .inl (fun _ => 0))), (q_7, .inl (k_8, 6000, .inl (fun _ => 0))), (q_9, .inl (k_10, 500, .inl (fun _ => 0))), (q_11, .inl (k_12, 40, .inl (fun _ => 0))), (q_13, .inl (k_14, 40, .inl (fun _ => 0))), (q_15, .inl (k_16, 40, .inl (fun _ => 0))), (q_17, .inl (k_18, 40, .inl (fun _ => 0))), (q_19, .inl (k_20, 240, .inl (fun _ => 0))), (q_21, .inl (k_22, 240, .inl (fun _ => 0))), (q_23, .inl (k_24, 40, .inl (fun _ => 0))), (q_25, .inl (k_26, 40, .inl (fun _ => 0))), (q_27, .inl (k_28, 40, .inl (fun _ => 0))), (q_29, .inl (k_30, 40, .inl (fun _ => 0))), (q_31, .inl (k_32, 12, .inl (fun _ => 0))), (q_33, .inl (k_34, 480, .inl (fun _ => 0))), (q_35, .inl (k_36, 20, .inl (fun _ => 0))), (q_37, .inl (k_38, 20, .inl (fun _ => 0))), (q_39, .inl (k_40, 20, .inl (fun _ => 0))), (q_41, .inl (k_42, 20, .inl (fun _ => 0))), (q_43, .inl (k_44, 20, .inl (fun _ => 0))), (q_45, .inl (k_46, 400, .inl (fun _ => 0))), (q_47, .inl (k_48, 20, .inl (fun _ => 0))), (q_49, .inl (k_50, 20, .inl (fun _ => 0))), (q_51, .inl (k_52, 20, .inl (fun _ => 0))), (q_53, .inl (k_54, 240, .inl (fun _ => 0))), (q_55, .inl (k_56, 240, .inl (fun _ => 0))), (q_57, .inl (k_58, 240, .inl (fun _ => 0))), (q_59, .inl (k_60, 20, .inl (fun _ => 0))), (q_61, .inl (k_62, 240, .inl (fun _ => 0))), (q_63, .inl (k_64, 240, .inl (fun _ => 0))), (q_65, .inl (k_66, 240, .inl (fun _ => 0))), (q_67, .inl (k_68, 180, .inl (fun _ => 0))), (q_69, .inl (k_70, 20, .inl (fun _ => 0))), (q_71, .inl (k_72, 600, .inl (fun _ => 0))), (q_73, .inl (k_74, 600, .inl (fun _ => 0))), (q_75, .inl (k_76, 600, .inl (fun _ => 0))), (q_77, .inl (k_78, 600, .inl (fun _ => 0))), (q_79, .inl (k_80, 600, .inl (fun _ => 0))), (q_81, .inl (k_82, 600, .inl (fun _ => 0))), (q_83, .inl (k_84, 600, .inl (fun _ => 0)))] := ⟨_, rfl⟩
  have eR : R_41 ++ [(q_83, .inl (k_84, 600, .inl (fun _ => 0)))] = R_42 := by rw [hR_41, hR_42]; rfl
  have hP : va_P (dC, dI) vwCl ((h_0, .inr (7, F_42)) :: R_42) H := by rw [← eR]; exact hP
  have hD : va_D A ((h_0, .inr (7, F_42)) :: R_42) := by rw [← eR]; exact hD
  obtain ⟨T_42, hT_42⟩ : ∃ T : List (ClassId × FieldType), T = [(k_2, .int), (k_4, .int), (k_6, .boolean), (k_8, .int), (k_10, .boolean), (k_12, .int), (k_14, .int), (k_16, .int), (k_18, .int), (k_20, .int), (k_22, .int), (k_24, .int), (k_26, .int), (k_28, .int), (k_30, .boolean), (k_32, .int), (k_34, .int), (k_36, .int), (k_38, .int), (k_40, .int), (k_42, .int), (k_44, .boolean), (k_46, .byte), (k_48, .int), (k_50, .int), (k_52, .int), (k_54, .int), (k_56, .int), (k_58, .int), (k_60, .int), (k_62, .int), (k_64, .int), (k_66, .int), (k_68, .int), (k_70, .int), (k_72, .int), (k_74, .int), (k_76, .int), (k_78, .int), (k_80, .int), (k_82, .int), (k_84, .int)] := ⟨_, rfl⟩
  have hK : va_K (dC, dI) vwCl T_42 s := by rw [show T_42 = T_41 ++ [(k_84, .int)] from by rw [hT_41, hT_42]; rfl]; exact hK
  clear eR hR_41 hT_41
  refine va_putF (D := (dC, dI)) (ci := 7) (v := .ref q_83) (ty := .array (.int)) (C := R_Md) (T := F_Md) (N := 64) (fs := F_42) hx hb htb i_Md t_Md t_Md_ok n_Md hown hK hP hD hS 0 rfl rfl 54 (by decide) (htb (.fieldLink R_Md 167 "WaterMenModel" "tripPaid" "[I") tw_48) (fun _ h9 => h9) rfl hin rfl (by decide +kernel) rfl rfl (by omega) d_Md_init_363 (fun H locs hP hD hS => ?_)
  obtain ⟨F_43, hF_43⟩ : ∃ F : List Value, F = [.int 0, .int 0, .int 0, .ref q_1, .int (-1), .ref q_3, .ref q_5, .ref q_7, .ref q_9, .ref q_11, .ref q_13, .ref q_15, .ref q_17, .ref q_19, .ref q_21, .ref q_23, .ref q_25, .ref q_27, .ref q_29, .ref q_31, .ref q_33, .int 0, .ref q_35, .ref q_37, .ref q_39, .ref q_41, .ref q_43, .ref q_45, .int 0, .int 0, .ref q_47, .ref q_49, .ref q_51, .ref q_53, .ref q_55, .ref q_57, .ref q_59, .ref q_61, .ref q_63, .ref q_65, .ref q_67, .ref q_69, .int 0, .int 0, .int 0, .int 0, .int 0, .int 0, .ref q_71, .ref q_73, .ref q_75, .ref q_77, .ref q_79, .ref q_81, .ref q_83, .null, .long 0, .long 0, .long 0, .null, .int 0, .null, .null, .null] := ⟨_, rfl⟩
  have eF : F_42.set 54 (.ref q_83) = F_43 := by rw [hF_42, hF_43]; rfl
  have hP : va_P (dC, dI) vwCl ((h_0, .inr (7, F_43)) :: R_42) H := by rw [← eF]; exact hP
  have hD : va_D A ((h_0, .inr (7, F_43)) :: R_42) := by rw [← eF]; exact hD
  have hl_43 : F_43.length = 64 := by rw [hF_43]; rfl
  clear eF hF_42 hl_42
  refine lv_aload_n hx hb d_Md_init_366 rfl (lv_at hl 0 rfl) ?_
  refine lv_sipush (v := 600) hx hb d_Md_init_367 (by decide +kernel) ?_
  refine va_newa (atype := .boolean) (ty := .boolean) (N' := 600) (a0 := (600, .inl (fun _ => 0))) hx hb (htb (.arrayClass .boolean) tw_7) rfl hK hP hD hS hA (fun _ => rfl) (by decide +kernel) (by decide +kernel) (by decide +kernel) (by decide +kernel) (by decide +kernel) d_Md_init_370 (fun q_85 k_86 H hK hP hD hS => ?_)
  refine W.widen (k := 43) (n := 15336) (by decide +kernel) (by decide +kernel) ?_
  obtain ⟨R_43, hR_43⟩ : ∃ R : va_W, R = [(q_1, .inl (k_2, 12, .inl (fun _ => 0))), (q_3, .inl (k_4, 12, .inl (fun _ => 0))), (q_5, .inl (k_6, 500, .inl (fun _ => 0))), (q_7, .inl (k_8, 6000, .inl (fun _ => 0))), (q_9, .inl (k_10, 500, .inl (fun _ => 0))), (q_11, .inl (k_12, 40, .inl (fun _ => 0))), (q_13, .inl (k_14, 40, .inl (fun _ => 0))), (q_15, .inl (k_16, 40, .inl (fun _ => 0))), (q_17, .inl (k_18, 40, .inl (fun _ => 0))), (q_19, .inl (k_20, 240, .inl (fun _ => 0))), (q_21, .inl (k_22, 240, .inl (fun _ => 0))), (q_23, .inl (k_24, 40, .inl (fun _ => 0))), (q_25, .inl (k_26, 40, .inl (fun _ => 0))), (q_27, .inl (k_28, 40, .inl (fun _ => 0))), (q_29, .inl (k_30, 40, .inl (fun _ => 0))), (q_31, .inl (k_32, 12, .inl (fun _ => 0))), (q_33, .inl (k_34, 480, .inl (fun _ => 0))), (q_35, .inl (k_36, 20, .inl (fun _ => 0))), (q_37, .inl (k_38, 20, .inl (fun _ => 0))), (q_39, .inl (k_40, 20, .inl (fun _ => 0))), (q_41, .inl (k_42, 20, .inl (fun _ => 0))), (q_43, .inl (k_44, 20, .inl (fun _ => 0))), (q_45, .inl (k_46, 400, .inl (fun _ => 0))), (q_47, .inl (k_48, 20, .inl (fun _ => 0))), (q_49, .inl (k_50, 20, .inl (fun _ => 0))), (q_51, .inl (k_52, 20, .inl (fun _ => 0))), (q_53, .inl (k_54, 240, .inl (fun _ => 0))), (q_55, .inl (k_56, 240, .inl (fun _ => 0))), (q_57, .inl (k_58, 240, .inl (fun _ => 0))), (q_59, .inl (k_60, 20, .inl (fun _ => 0))), (q_61, .inl (k_62, 240, .inl (fun _ => 0))), (q_63, .inl (k_64, 240, .inl (fun _ => 0))), (q_65, .inl (k_66, 240, .inl (fun _ => 0))), (q_67, .inl (k_68, 180, .inl (fun _ => 0))), (q_69, .inl (k_70, 20, .inl (fun _ => 0))), (q_71, .inl (k_72, 600, .inl (fun _ => 0))), (q_73, .inl (k_74, 600, .inl (fun _ => 0))), (q_75, .inl (k_76, 600, .inl (fun _ => 0))), (q_77, .inl (k_78, 600, .inl (fun _ => 0))), (q_79, .inl (k_80, 600, .inl (fun _ => 0))), (q_81, .inl (k_82, 600, .inl (fun _ => 0))), (q_83, .inl (k_84, 600, .inl (fun _ => 0))), (q_85, .inl (k_86, 600, .inl (fun _ => 0)))] := ⟨_, rfl⟩
  have eR : R_42 ++ [(q_85, .inl (k_86, 600, .inl (fun _ => 0)))] = R_43 := by rw [hR_42, hR_43]; rfl
  have hP : va_P (dC, dI) vwCl ((h_0, .inr (7, F_43)) :: R_43) H := by rw [← eR]; exact hP
  have hD : va_D A ((h_0, .inr (7, F_43)) :: R_43) := by rw [← eR]; exact hD
  obtain ⟨T_43, hT_43⟩ : ∃ T : List (ClassId × FieldType), T = [(k_2, .int), (k_4, .int), (k_6, .boolean), (k_8, .int), (k_10, .boolean), (k_12, .int), (k_14, .int), (k_16, .int), (k_18, .int), (k_20, .int), (k_22, .int), (k_24, .int), (k_26, .int), (k_28, .int), (k_30, .boolean), (k_32, .int), (k_34, .int), (k_36, .int), (k_38, .int), (k_40, .int), (k_42, .int), (k_44, .boolean), (k_46, .byte), (k_48, .int), (k_50, .int), (k_52, .int), (k_54, .int), (k_56, .int), (k_58, .int), (k_60, .int), (k_62, .int), (k_64, .int), (k_66, .int), (k_68, .int), (k_70, .int), (k_72, .int), (k_74, .int), (k_76, .int), (k_78, .int), (k_80, .int), (k_82, .int), (k_84, .int), (k_86, .boolean)] := ⟨_, rfl⟩
  have hK : va_K (dC, dI) vwCl T_43 s := by rw [show T_43 = T_42 ++ [(k_86, .boolean)] from by rw [hT_42, hT_43]; rfl]; exact hK
  clear eR hR_42 hT_42
  refine va_putF (D := (dC, dI)) (ci := 7) (v := .ref q_85) (ty := .array (.boolean)) (C := R_Md) (T := F_Md) (N := 64) (fs := F_43) hx hb htb i_Md t_Md t_Md_ok n_Md hown hK hP hD hS 0 rfl rfl 55 (by decide) (htb (.fieldLink R_Md 170 "WaterMenModel" "sank" "[Z") tw_49) (fun _ h9 => h9) rfl hin rfl (by decide +kernel) rfl rfl (by omega) d_Md_init_372 (fun H locs hP hD hS => ?_)
  obtain ⟨F_44, hF_44⟩ : ∃ F : List Value, F = [.int 0, .int 0, .int 0, .ref q_1, .int (-1), .ref q_3, .ref q_5, .ref q_7, .ref q_9, .ref q_11, .ref q_13, .ref q_15, .ref q_17, .ref q_19, .ref q_21, .ref q_23, .ref q_25, .ref q_27, .ref q_29, .ref q_31, .ref q_33, .int 0, .ref q_35, .ref q_37, .ref q_39, .ref q_41, .ref q_43, .ref q_45, .int 0, .int 0, .ref q_47, .ref q_49, .ref q_51, .ref q_53, .ref q_55, .ref q_57, .ref q_59, .ref q_61, .ref q_63, .ref q_65, .ref q_67, .ref q_69, .int 0, .int 0, .int 0, .int 0, .int 0, .int 0, .ref q_71, .ref q_73, .ref q_75, .ref q_77, .ref q_79, .ref q_81, .ref q_83, .ref q_85, .long 0, .long 0, .long 0, .null, .int 0, .null, .null, .null] := ⟨_, rfl⟩
  have eF : F_43.set 55 (.ref q_85) = F_44 := by rw [hF_43, hF_44]; rfl
  have hP : va_P (dC, dI) vwCl ((h_0, .inr (7, F_44)) :: R_43) H := by rw [← eF]; exact hP
  have hD : va_D A ((h_0, .inr (7, F_44)) :: R_43) := by rw [← eF]; exact hD
  have hl_44 : F_44.length = 64 := by rw [hF_44]; rfl
  clear eF hF_43 hl_43
  refine lv_aload_n hx hb d_Md_init_375 rfl (lv_at hl 0 rfl) ?_
  refine lv_sipush (v := 500) hx hb d_Md_init_376 (by decide +kernel) ?_
  refine va_newa (atype := .long) (ty := .long) (N' := 500) (a0 := (500, .inr (.inl (fun _ => 0)))) hx hb (htb (.arrayClass .long) tw_50) rfl hK hP hD hS hA (fun _ => rfl) (by decide +kernel) (by decide +kernel) (by decide +kernel) (by decide +kernel) (by decide +kernel) d_Md_init_379 (fun q_87 k_88 H hK hP hD hS => ?_)
  refine W.widen (k := 44) (n := 15836) (by decide +kernel) (by decide +kernel) ?_
  obtain ⟨R_44, hR_44⟩ : ∃ R : va_W, R = [(q_1, .inl (k_2, 12, .inl (fun _ => 0))), (q_3, .inl (k_4, 12, .inl (fun _ => 0))), (q_5, .inl (k_6, 500, .inl (fun _ => 0))), (q_7, .inl (k_8, 6000, .inl (fun _ => 0))), (q_9, .inl (k_10, 500, .inl (fun _ => 0))), (q_11, .inl (k_12, 40, .inl (fun _ => 0))), (q_13, .inl (k_14, 40, .inl (fun _ => 0))), (q_15, .inl (k_16, 40, .inl (fun _ => 0))), (q_17, .inl (k_18, 40, .inl (fun _ => 0))), (q_19, .inl (k_20, 240, .inl (fun _ => 0))), (q_21, .inl (k_22, 240, .inl (fun _ => 0))), (q_23, .inl (k_24, 40, .inl (fun _ => 0))), (q_25, .inl (k_26, 40, .inl (fun _ => 0))), (q_27, .inl (k_28, 40, .inl (fun _ => 0))), (q_29, .inl (k_30, 40, .inl (fun _ => 0))), (q_31, .inl (k_32, 12, .inl (fun _ => 0))), (q_33, .inl (k_34, 480, .inl (fun _ => 0))), (q_35, .inl (k_36, 20, .inl (fun _ => 0))), (q_37, .inl (k_38, 20, .inl (fun _ => 0))), (q_39, .inl (k_40, 20, .inl (fun _ => 0))), (q_41, .inl (k_42, 20, .inl (fun _ => 0))), (q_43, .inl (k_44, 20, .inl (fun _ => 0))), (q_45, .inl (k_46, 400, .inl (fun _ => 0))), (q_47, .inl (k_48, 20, .inl (fun _ => 0))), (q_49, .inl (k_50, 20, .inl (fun _ => 0))), (q_51, .inl (k_52, 20, .inl (fun _ => 0))), (q_53, .inl (k_54, 240, .inl (fun _ => 0))), (q_55, .inl (k_56, 240, .inl (fun _ => 0))), (q_57, .inl (k_58, 240, .inl (fun _ => 0))), (q_59, .inl (k_60, 20, .inl (fun _ => 0))), (q_61, .inl (k_62, 240, .inl (fun _ => 0))), (q_63, .inl (k_64, 240, .inl (fun _ => 0))), (q_65, .inl (k_66, 240, .inl (fun _ => 0))), (q_67, .inl (k_68, 180, .inl (fun _ => 0))), (q_69, .inl (k_70, 20, .inl (fun _ => 0))), (q_71, .inl (k_72, 600, .inl (fun _ => 0))), (q_73, .inl (k_74, 600, .inl (fun _ => 0))), (q_75, .inl (k_76, 600, .inl (fun _ => 0))), (q_77, .inl (k_78, 600, .inl (fun _ => 0))), (q_79, .inl (k_80, 600, .inl (fun _ => 0))), (q_81, .inl (k_82, 600, .inl (fun _ => 0))), (q_83, .inl (k_84, 600, .inl (fun _ => 0))), (q_85, .inl (k_86, 600, .inl (fun _ => 0))), (q_87, .inl (k_88, 500, .inr (.inl (fun _ => 0))))] := ⟨_, rfl⟩
  have eR : R_43 ++ [(q_87, .inl (k_88, 500, .inr (.inl (fun _ => 0))))] = R_44 := by rw [hR_43, hR_44]; rfl
  have hP : va_P (dC, dI) vwCl ((h_0, .inr (7, F_44)) :: R_44) H := by rw [← eR]; exact hP
  have hD : va_D A ((h_0, .inr (7, F_44)) :: R_44) := by rw [← eR]; exact hD
  obtain ⟨T_44, hT_44⟩ : ∃ T : List (ClassId × FieldType), T = [(k_2, .int), (k_4, .int), (k_6, .boolean), (k_8, .int), (k_10, .boolean), (k_12, .int), (k_14, .int), (k_16, .int), (k_18, .int), (k_20, .int), (k_22, .int), (k_24, .int), (k_26, .int), (k_28, .int), (k_30, .boolean), (k_32, .int), (k_34, .int), (k_36, .int), (k_38, .int), (k_40, .int), (k_42, .int), (k_44, .boolean), (k_46, .byte), (k_48, .int), (k_50, .int), (k_52, .int), (k_54, .int), (k_56, .int), (k_58, .int), (k_60, .int), (k_62, .int), (k_64, .int), (k_66, .int), (k_68, .int), (k_70, .int), (k_72, .int), (k_74, .int), (k_76, .int), (k_78, .int), (k_80, .int), (k_82, .int), (k_84, .int), (k_86, .boolean), (k_88, .long)] := ⟨_, rfl⟩
  have hK : va_K (dC, dI) vwCl T_44 s := by rw [show T_44 = T_43 ++ [(k_88, .long)] from by rw [hT_43, hT_44]; rfl]; exact hK
  clear eR hR_43 hT_43
  refine va_putF (D := (dC, dI)) (ci := 7) (v := .ref q_87) (ty := .array (.long)) (C := R_Md) (T := F_Md) (N := 64) (fs := F_44) hx hb htb i_Md t_Md t_Md_ok n_Md hown hK hP hD hS 0 rfl rfl 59 (by decide) (htb (.fieldLink R_Md 173 "WaterMenModel" "boxIn" "[J") tw_51) (fun _ h9 => h9) rfl hin rfl (by decide +kernel) rfl rfl (by omega) d_Md_init_381 (fun H locs hP hD hS => ?_)
  obtain ⟨F_45, hF_45⟩ : ∃ F : List Value, F = [.int 0, .int 0, .int 0, .ref q_1, .int (-1), .ref q_3, .ref q_5, .ref q_7, .ref q_9, .ref q_11, .ref q_13, .ref q_15, .ref q_17, .ref q_19, .ref q_21, .ref q_23, .ref q_25, .ref q_27, .ref q_29, .ref q_31, .ref q_33, .int 0, .ref q_35, .ref q_37, .ref q_39, .ref q_41, .ref q_43, .ref q_45, .int 0, .int 0, .ref q_47, .ref q_49, .ref q_51, .ref q_53, .ref q_55, .ref q_57, .ref q_59, .ref q_61, .ref q_63, .ref q_65, .ref q_67, .ref q_69, .int 0, .int 0, .int 0, .int 0, .int 0, .int 0, .ref q_71, .ref q_73, .ref q_75, .ref q_77, .ref q_79, .ref q_81, .ref q_83, .ref q_85, .long 0, .long 0, .long 0, .ref q_87, .int 0, .null, .null, .null] := ⟨_, rfl⟩
  have eF : F_44.set 59 (.ref q_87) = F_45 := by rw [hF_44, hF_45]; rfl
  have hP : va_P (dC, dI) vwCl ((h_0, .inr (7, F_45)) :: R_44) H := by rw [← eF]; exact hP
  have hD : va_D A ((h_0, .inr (7, F_45)) :: R_44) := by rw [← eF]; exact hD
  have hl_45 : F_45.length = 64 := by rw [hF_45]; rfl
  clear eF hF_44 hl_44
  refine lv_aload_n hx hb d_Md_init_384 rfl (lv_at hl 0 rfl) ?_
  refine lv_bipush (v := 30) hx hb d_Md_init_385 (by decide +kernel) ?_
  refine va_newa (atype := .int) (ty := .int) (N' := 30) (a0 := (30, .inl (fun _ => 0))) hx hb (htb (.arrayClass .int) tw_3) rfl hK hP hD hS hA (fun _ => rfl) (by decide +kernel) (by decide +kernel) (by decide +kernel) (by decide +kernel) (by decide +kernel) d_Md_init_387 (fun q_89 k_90 H hK hP hD hS => ?_)
  refine W.widen (k := 45) (n := 15866) (by decide +kernel) (by decide +kernel) ?_
  obtain ⟨R_45, hR_45⟩ : ∃ R : va_W, R = [(q_1, .inl (k_2, 12, .inl (fun _ => 0))), (q_3, .inl (k_4, 12, .inl (fun _ => 0))), (q_5, .inl (k_6, 500, .inl (fun _ => 0))), (q_7, .inl (k_8, 6000, .inl (fun _ => 0))), (q_9, .inl (k_10, 500, .inl (fun _ => 0))), (q_11, .inl (k_12, 40, .inl (fun _ => 0))), (q_13, .inl (k_14, 40, .inl (fun _ => 0))), (q_15, .inl (k_16, 40, .inl (fun _ => 0))), (q_17, .inl (k_18, 40, .inl (fun _ => 0))), (q_19, .inl (k_20, 240, .inl (fun _ => 0))), (q_21, .inl (k_22, 240, .inl (fun _ => 0))), (q_23, .inl (k_24, 40, .inl (fun _ => 0))), (q_25, .inl (k_26, 40, .inl (fun _ => 0))), (q_27, .inl (k_28, 40, .inl (fun _ => 0))), (q_29, .inl (k_30, 40, .inl (fun _ => 0))), (q_31, .inl (k_32, 12, .inl (fun _ => 0))), (q_33, .inl (k_34, 480, .inl (fun _ => 0))), (q_35, .inl (k_36, 20, .inl (fun _ => 0))), (q_37, .inl (k_38, 20, .inl (fun _ => 0))), (q_39, .inl (k_40, 20, .inl (fun _ => 0))), (q_41, .inl (k_42, 20, .inl (fun _ => 0))), (q_43, .inl (k_44, 20, .inl (fun _ => 0))), (q_45, .inl (k_46, 400, .inl (fun _ => 0))), (q_47, .inl (k_48, 20, .inl (fun _ => 0))), (q_49, .inl (k_50, 20, .inl (fun _ => 0))), (q_51, .inl (k_52, 20, .inl (fun _ => 0))), (q_53, .inl (k_54, 240, .inl (fun _ => 0))), (q_55, .inl (k_56, 240, .inl (fun _ => 0))), (q_57, .inl (k_58, 240, .inl (fun _ => 0))), (q_59, .inl (k_60, 20, .inl (fun _ => 0))), (q_61, .inl (k_62, 240, .inl (fun _ => 0))), (q_63, .inl (k_64, 240, .inl (fun _ => 0))), (q_65, .inl (k_66, 240, .inl (fun _ => 0))), (q_67, .inl (k_68, 180, .inl (fun _ => 0))), (q_69, .inl (k_70, 20, .inl (fun _ => 0))), (q_71, .inl (k_72, 600, .inl (fun _ => 0))), (q_73, .inl (k_74, 600, .inl (fun _ => 0))), (q_75, .inl (k_76, 600, .inl (fun _ => 0))), (q_77, .inl (k_78, 600, .inl (fun _ => 0))), (q_79, .inl (k_80, 600, .inl (fun _ => 0))), (q_81, .inl (k_82, 600, .inl (fun _ => 0))), (q_83, .inl (k_84, 600, .inl (fun _ => 0))), (q_85, .inl (k_86, 600, .inl (fun _ => 0))), (q_87, .inl (k_88, 500, .inr (.inl (fun _ => 0)))), (q_89, .inl (k_90, 30, .inl (fun _ => 0)))] := ⟨_, rfl⟩
  have eR : R_44 ++ [(q_89, .inl (k_90, 30, .inl (fun _ => 0)))] = R_45 := by rw [hR_44, hR_45]; rfl
  have hP : va_P (dC, dI) vwCl ((h_0, .inr (7, F_45)) :: R_45) H := by rw [← eR]; exact hP
  have hD : va_D A ((h_0, .inr (7, F_45)) :: R_45) := by rw [← eR]; exact hD
  obtain ⟨T_45, hT_45⟩ : ∃ T : List (ClassId × FieldType), T = [(k_2, .int), (k_4, .int), (k_6, .boolean), (k_8, .int), (k_10, .boolean), (k_12, .int), (k_14, .int), (k_16, .int), (k_18, .int), (k_20, .int), (k_22, .int), (k_24, .int), (k_26, .int), (k_28, .int), (k_30, .boolean), (k_32, .int), (k_34, .int), (k_36, .int), (k_38, .int), (k_40, .int), (k_42, .int), (k_44, .boolean), (k_46, .byte), (k_48, .int), (k_50, .int), (k_52, .int), (k_54, .int), (k_56, .int), (k_58, .int), (k_60, .int), (k_62, .int), (k_64, .int), (k_66, .int), (k_68, .int), (k_70, .int), (k_72, .int), (k_74, .int), (k_76, .int), (k_78, .int), (k_80, .int), (k_82, .int), (k_84, .int), (k_86, .boolean), (k_88, .long), (k_90, .int)] := ⟨_, rfl⟩
  have hK : va_K (dC, dI) vwCl T_45 s := by rw [show T_45 = T_44 ++ [(k_90, .int)] from by rw [hT_44, hT_45]; rfl]; exact hK
  clear eR hR_44 hT_44
  refine va_putF (D := (dC, dI)) (ci := 7) (v := .ref q_89) (ty := .array (.int)) (C := R_Md) (T := F_Md) (N := 64) (fs := F_45) hx hb htb i_Md t_Md t_Md_ok n_Md hown hK hP hD hS 0 rfl rfl 61 (by decide) (htb (.fieldLink R_Md 177 "WaterMenModel" "pensionOf" "[I") tw_52) (fun _ h9 => h9) rfl hin rfl (by decide +kernel) rfl rfl (by omega) d_Md_init_389 (fun H locs hP hD hS => ?_)
  obtain ⟨F_46, hF_46⟩ : ∃ F : List Value, F = [.int 0, .int 0, .int 0, .ref q_1, .int (-1), .ref q_3, .ref q_5, .ref q_7, .ref q_9, .ref q_11, .ref q_13, .ref q_15, .ref q_17, .ref q_19, .ref q_21, .ref q_23, .ref q_25, .ref q_27, .ref q_29, .ref q_31, .ref q_33, .int 0, .ref q_35, .ref q_37, .ref q_39, .ref q_41, .ref q_43, .ref q_45, .int 0, .int 0, .ref q_47, .ref q_49, .ref q_51, .ref q_53, .ref q_55, .ref q_57, .ref q_59, .ref q_61, .ref q_63, .ref q_65, .ref q_67, .ref q_69, .int 0, .int 0, .int 0, .int 0, .int 0, .int 0, .ref q_71, .ref q_73, .ref q_75, .ref q_77, .ref q_79, .ref q_81, .ref q_83, .ref q_85, .long 0, .long 0, .long 0, .ref q_87, .int 0, .ref q_89, .null, .null] := ⟨_, rfl⟩
  have eF : F_45.set 61 (.ref q_89) = F_46 := by rw [hF_45, hF_46]; rfl
  have hP : va_P (dC, dI) vwCl ((h_0, .inr (7, F_46)) :: R_45) H := by rw [← eF]; exact hP
  have hD : va_D A ((h_0, .inr (7, F_46)) :: R_45) := by rw [← eF]; exact hD
  have hl_46 : F_46.length = 64 := by rw [hF_46]; rfl
  clear eF hF_45 hl_45
  refine lv_aload_n hx hb d_Md_init_392 rfl (lv_at hl 0 rfl) ?_
  refine lv_bipush (v := 30) hx hb d_Md_init_393 (by decide +kernel) ?_
  refine va_newa (atype := .int) (ty := .int) (N' := 30) (a0 := (30, .inl (fun _ => 0))) hx hb (htb (.arrayClass .int) tw_3) rfl hK hP hD hS hA (fun _ => rfl) (by decide +kernel) (by decide +kernel) (by decide +kernel) (by decide +kernel) (by decide +kernel) d_Md_init_395 (fun q_91 k_92 H hK hP hD hS => ?_)
  refine W.widen (k := 46) (n := 15896) (by decide +kernel) (by decide +kernel) ?_
  obtain ⟨R_46, hR_46⟩ : ∃ R : va_W, R = [(q_1, .inl (k_2, 12, .inl (fun _ => 0))), (q_3, .inl (k_4, 12, .inl (fun _ => 0))), (q_5, .inl (k_6, 500, .inl (fun _ => 0))), (q_7, .inl (k_8, 6000, .inl (fun _ => 0))), (q_9, .inl (k_10, 500, .inl (fun _ => 0))), (q_11, .inl (k_12, 40, .inl (fun _ => 0))), (q_13, .inl (k_14, 40, .inl (fun _ => 0))), (q_15, .inl (k_16, 40, .inl (fun _ => 0))), (q_17, .inl (k_18, 40, .inl (fun _ => 0))), (q_19, .inl (k_20, 240, .inl (fun _ => 0))), (q_21, .inl (k_22, 240, .inl (fun _ => 0))), (q_23, .inl (k_24, 40, .inl (fun _ => 0))), (q_25, .inl (k_26, 40, .inl (fun _ => 0))), (q_27, .inl (k_28, 40, .inl (fun _ => 0))), (q_29, .inl (k_30, 40, .inl (fun _ => 0))), (q_31, .inl (k_32, 12, .inl (fun _ => 0))), (q_33, .inl (k_34, 480, .inl (fun _ => 0))), (q_35, .inl (k_36, 20, .inl (fun _ => 0))), (q_37, .inl (k_38, 20, .inl (fun _ => 0))), (q_39, .inl (k_40, 20, .inl (fun _ => 0))), (q_41, .inl (k_42, 20, .inl (fun _ => 0))), (q_43, .inl (k_44, 20, .inl (fun _ => 0))), (q_45, .inl (k_46, 400, .inl (fun _ => 0))), (q_47, .inl (k_48, 20, .inl (fun _ => 0))), (q_49, .inl (k_50, 20, .inl (fun _ => 0))), (q_51, .inl (k_52, 20, .inl (fun _ => 0))), (q_53, .inl (k_54, 240, .inl (fun _ => 0))), (q_55, .inl (k_56, 240, .inl (fun _ => 0))), (q_57, .inl (k_58, 240, .inl (fun _ => 0))), (q_59, .inl (k_60, 20, .inl (fun _ => 0))), (q_61, .inl (k_62, 240, .inl (fun _ => 0))), (q_63, .inl (k_64, 240, .inl (fun _ => 0))), (q_65, .inl (k_66, 240, .inl (fun _ => 0))), (q_67, .inl (k_68, 180, .inl (fun _ => 0))), (q_69, .inl (k_70, 20, .inl (fun _ => 0))), (q_71, .inl (k_72, 600, .inl (fun _ => 0))), (q_73, .inl (k_74, 600, .inl (fun _ => 0))), (q_75, .inl (k_76, 600, .inl (fun _ => 0))), (q_77, .inl (k_78, 600, .inl (fun _ => 0))), (q_79, .inl (k_80, 600, .inl (fun _ => 0))), (q_81, .inl (k_82, 600, .inl (fun _ => 0))), (q_83, .inl (k_84, 600, .inl (fun _ => 0))), (q_85, .inl (k_86, 600, .inl (fun _ => 0))), (q_87, .inl (k_88, 500, .inr (.inl (fun _ => 0)))), (q_89, .inl (k_90, 30, .inl (fun _ => 0))), (q_91, .inl (k_92, 30, .inl (fun _ => 0)))] := ⟨_, rfl⟩
  have eR : R_45 ++ [(q_91, .inl (k_92, 30, .inl (fun _ => 0)))] = R_46 := by rw [hR_45, hR_46]; rfl
  have hP : va_P (dC, dI) vwCl ((h_0, .inr (7, F_46)) :: R_46) H := by rw [← eR]; exact hP
  have hD : va_D A ((h_0, .inr (7, F_46)) :: R_46) := by rw [← eR]; exact hD
  obtain ⟨T_46, hT_46⟩ : ∃ T : List (ClassId × FieldType), T = [(k_2, .int), (k_4, .int), (k_6, .boolean), (k_8, .int), (k_10, .boolean), (k_12, .int), (k_14, .int), (k_16, .int), (k_18, .int), (k_20, .int), (k_22, .int), (k_24, .int), (k_26, .int), (k_28, .int), (k_30, .boolean), (k_32, .int), (k_34, .int), (k_36, .int), (k_38, .int), (k_40, .int), (k_42, .int), (k_44, .boolean), (k_46, .byte), (k_48, .int), (k_50, .int), (k_52, .int), (k_54, .int), (k_56, .int), (k_58, .int), (k_60, .int), (k_62, .int), (k_64, .int), (k_66, .int), (k_68, .int), (k_70, .int), (k_72, .int), (k_74, .int), (k_76, .int), (k_78, .int), (k_80, .int), (k_82, .int), (k_84, .int), (k_86, .boolean), (k_88, .long), (k_90, .int), (k_92, .int)] := ⟨_, rfl⟩
  have hK : va_K (dC, dI) vwCl T_46 s := by rw [show T_46 = T_45 ++ [(k_92, .int)] from by rw [hT_45, hT_46]; rfl]; exact hK
  clear eR hR_45 hT_45
  refine va_putF (D := (dC, dI)) (ci := 7) (v := .ref q_91) (ty := .array (.int)) (C := R_Md) (T := F_Md) (N := 64) (fs := F_46) hx hb htb i_Md t_Md t_Md_ok n_Md hown hK hP hD hS 0 rfl rfl 62 (by decide) (htb (.fieldLink R_Md 180 "WaterMenModel" "pensionEnd" "[I") tw_53) (fun _ h9 => h9) rfl hin rfl (by decide +kernel) rfl rfl (by omega) d_Md_init_397 (fun H locs hP hD hS => ?_)
  obtain ⟨F_47, hF_47⟩ : ∃ F : List Value, F = [.int 0, .int 0, .int 0, .ref q_1, .int (-1), .ref q_3, .ref q_5, .ref q_7, .ref q_9, .ref q_11, .ref q_13, .ref q_15, .ref q_17, .ref q_19, .ref q_21, .ref q_23, .ref q_25, .ref q_27, .ref q_29, .ref q_31, .ref q_33, .int 0, .ref q_35, .ref q_37, .ref q_39, .ref q_41, .ref q_43, .ref q_45, .int 0, .int 0, .ref q_47, .ref q_49, .ref q_51, .ref q_53, .ref q_55, .ref q_57, .ref q_59, .ref q_61, .ref q_63, .ref q_65, .ref q_67, .ref q_69, .int 0, .int 0, .int 0, .int 0, .int 0, .int 0, .ref q_71, .ref q_73, .ref q_75, .ref q_77, .ref q_79, .ref q_81, .ref q_83, .ref q_85, .long 0, .long 0, .long 0, .ref q_87, .int 0, .ref q_89, .ref q_91, .null] := ⟨_, rfl⟩
  have eF : F_46.set 62 (.ref q_91) = F_47 := by rw [hF_46, hF_47]; rfl
  have hP : va_P (dC, dI) vwCl ((h_0, .inr (7, F_47)) :: R_46) H := by rw [← eF]; exact hP
  have hD : va_D A ((h_0, .inr (7, F_47)) :: R_46) := by rw [← eF]; exact hD
  have hl_47 : F_47.length = 64 := by rw [hF_47]; rfl
  clear eF hF_46 hl_46
  refine lv_aload_n hx hb d_Md_init_400 rfl (lv_at hl 0 rfl) ?_
  refine lv_bipush (v := 30) hx hb d_Md_init_401 (by decide +kernel) ?_
  refine va_newa (atype := .int) (ty := .int) (N' := 30) (a0 := (30, .inl (fun _ => 0))) hx hb (htb (.arrayClass .int) tw_3) rfl hK hP hD hS hA (fun _ => rfl) (by decide +kernel) (by decide +kernel) (by decide +kernel) (by decide +kernel) (by decide +kernel) d_Md_init_403 (fun q_93 k_94 H hK hP hD hS => ?_)
  refine W.widen (k := 47) (n := 15926) (by decide +kernel) (by decide +kernel) ?_
  obtain ⟨R_47, hR_47⟩ : ∃ R : va_W, R = [(q_1, .inl (k_2, 12, .inl (fun _ => 0))), (q_3, .inl (k_4, 12, .inl (fun _ => 0))), (q_5, .inl (k_6, 500, .inl (fun _ => 0))), (q_7, .inl (k_8, 6000, .inl (fun _ => 0))), (q_9, .inl (k_10, 500, .inl (fun _ => 0))), (q_11, .inl (k_12, 40, .inl (fun _ => 0))), (q_13, .inl (k_14, 40, .inl (fun _ => 0))), (q_15, .inl (k_16, 40, .inl (fun _ => 0))), (q_17, .inl (k_18, 40, .inl (fun _ => 0))), (q_19, .inl (k_20, 240, .inl (fun _ => 0))), (q_21, .inl (k_22, 240, .inl (fun _ => 0))), (q_23, .inl (k_24, 40, .inl (fun _ => 0))), (q_25, .inl (k_26, 40, .inl (fun _ => 0))), (q_27, .inl (k_28, 40, .inl (fun _ => 0))), (q_29, .inl (k_30, 40, .inl (fun _ => 0))), (q_31, .inl (k_32, 12, .inl (fun _ => 0))), (q_33, .inl (k_34, 480, .inl (fun _ => 0))), (q_35, .inl (k_36, 20, .inl (fun _ => 0))), (q_37, .inl (k_38, 20, .inl (fun _ => 0))), (q_39, .inl (k_40, 20, .inl (fun _ => 0))), (q_41, .inl (k_42, 20, .inl (fun _ => 0))), (q_43, .inl (k_44, 20, .inl (fun _ => 0))), (q_45, .inl (k_46, 400, .inl (fun _ => 0))), (q_47, .inl (k_48, 20, .inl (fun _ => 0))), (q_49, .inl (k_50, 20, .inl (fun _ => 0))), (q_51, .inl (k_52, 20, .inl (fun _ => 0))), (q_53, .inl (k_54, 240, .inl (fun _ => 0))), (q_55, .inl (k_56, 240, .inl (fun _ => 0))), (q_57, .inl (k_58, 240, .inl (fun _ => 0))), (q_59, .inl (k_60, 20, .inl (fun _ => 0))), (q_61, .inl (k_62, 240, .inl (fun _ => 0))), (q_63, .inl (k_64, 240, .inl (fun _ => 0))), (q_65, .inl (k_66, 240, .inl (fun _ => 0))), (q_67, .inl (k_68, 180, .inl (fun _ => 0))), (q_69, .inl (k_70, 20, .inl (fun _ => 0))), (q_71, .inl (k_72, 600, .inl (fun _ => 0))), (q_73, .inl (k_74, 600, .inl (fun _ => 0))), (q_75, .inl (k_76, 600, .inl (fun _ => 0))), (q_77, .inl (k_78, 600, .inl (fun _ => 0))), (q_79, .inl (k_80, 600, .inl (fun _ => 0))), (q_81, .inl (k_82, 600, .inl (fun _ => 0))), (q_83, .inl (k_84, 600, .inl (fun _ => 0))), (q_85, .inl (k_86, 600, .inl (fun _ => 0))), (q_87, .inl (k_88, 500, .inr (.inl (fun _ => 0)))), (q_89, .inl (k_90, 30, .inl (fun _ => 0))), (q_91, .inl (k_92, 30, .inl (fun _ => 0))), (q_93, .inl (k_94, 30, .inl (fun _ => 0)))] := ⟨_, rfl⟩
  have eR : R_46 ++ [(q_93, .inl (k_94, 30, .inl (fun _ => 0)))] = R_47 := by rw [hR_46, hR_47]; rfl
  have hP : va_P (dC, dI) vwCl ((h_0, .inr (7, F_47)) :: R_47) H := by rw [← eR]; exact hP
  have hD : va_D A ((h_0, .inr (7, F_47)) :: R_47) := by rw [← eR]; exact hD
  obtain ⟨T_47, hT_47⟩ : ∃ T : List (ClassId × FieldType), T = [(k_2, .int), (k_4, .int), (k_6, .boolean), (k_8, .int), (k_10, .boolean), (k_12, .int), (k_14, .int), (k_16, .int), (k_18, .int), (k_20, .int), (k_22, .int), (k_24, .int), (k_26, .int), (k_28, .int), (k_30, .boolean), (k_32, .int), (k_34, .int), (k_36, .int), (k_38, .int), (k_40, .int), (k_42, .int), (k_44, .boolean), (k_46, .byte), (k_48, .int), (k_50, .int), (k_52, .int), (k_54, .int), (k_56, .int), (k_58, .int), (k_60, .int), (k_62, .int), (k_64, .int), (k_66, .int), (k_68, .int), (k_70, .int), (k_72, .int), (k_74, .int), (k_76, .int), (k_78, .int), (k_80, .int), (k_82, .int), (k_84, .int), (k_86, .boolean), (k_88, .long), (k_90, .int), (k_92, .int), (k_94, .int)] := ⟨_, rfl⟩
  have hK : va_K (dC, dI) vwCl T_47 s := by rw [show T_47 = T_46 ++ [(k_94, .int)] from by rw [hT_46, hT_47]; rfl]; exact hK
  clear eR hR_46 hT_46
  refine va_putF (D := (dC, dI)) (ci := 7) (v := .ref q_93) (ty := .array (.int)) (C := R_Md) (T := F_Md) (N := 64) (fs := F_47) hx hb htb i_Md t_Md t_Md_ok n_Md hown hK hP hD hS 0 rfl rfl 63 (by decide) (htb (.fieldLink R_Md 183 "WaterMenModel" "gotten" "[I") tw_54) (fun _ h9 => h9) rfl hin rfl (by decide +kernel) rfl rfl (by omega) d_Md_init_405 (fun H locs hP hD hS => ?_)
  obtain ⟨F_48, hF_48⟩ : ∃ F : List Value, F = [.int 0, .int 0, .int 0, .ref q_1, .int (-1), .ref q_3, .ref q_5, .ref q_7, .ref q_9, .ref q_11, .ref q_13, .ref q_15, .ref q_17, .ref q_19, .ref q_21, .ref q_23, .ref q_25, .ref q_27, .ref q_29, .ref q_31, .ref q_33, .int 0, .ref q_35, .ref q_37, .ref q_39, .ref q_41, .ref q_43, .ref q_45, .int 0, .int 0, .ref q_47, .ref q_49, .ref q_51, .ref q_53, .ref q_55, .ref q_57, .ref q_59, .ref q_61, .ref q_63, .ref q_65, .ref q_67, .ref q_69, .int 0, .int 0, .int 0, .int 0, .int 0, .int 0, .ref q_71, .ref q_73, .ref q_75, .ref q_77, .ref q_79, .ref q_81, .ref q_83, .ref q_85, .long 0, .long 0, .long 0, .ref q_87, .int 0, .ref q_89, .ref q_91, .ref q_93] := ⟨_, rfl⟩
  have eF : F_47.set 63 (.ref q_93) = F_48 := by rw [hF_47, hF_48]; rfl
  have hP : va_P (dC, dI) vwCl ((h_0, .inr (7, F_48)) :: R_47) H := by rw [← eF]; exact hP
  have hD : va_D A ((h_0, .inr (7, F_48)) :: R_47) := by rw [← eF]; exact hD
  have hl_48 : F_48.length = 64 := by rw [hF_48]; rfl
  clear eF hF_47 hl_47
  refine lv_iconst (v := 0) hx hb d_Md_init_408 (by decide +kernel) ?_
  refine lv_istore_n (lv' := [(1, .int 0), (0, .ref h_0)]) hx hb d_Md_init_409 rfl hl (by decide) rfl (fun ls hl => ?_)
  rw [hF_48, hR_47] at hP hD
  rw [hT_47] at hK
  clear hF_48 hR_47 hT_47 hl_48
  have hP : va_P (dC, dI) vwCl [(h_0, .inr (7, [.int 0, .int 0, .int 0, .ref q_1, .int (-1), .ref q_3, .ref q_5, .ref q_7, .ref q_9, .ref q_11, .ref q_13, .ref q_15, .ref q_17, .ref q_19, .ref q_21, .ref q_23, .ref q_25, .ref q_27, .ref q_29, .ref q_31, .ref q_33, .int 0, .ref q_35, .ref q_37, .ref q_39, .ref q_41, .ref q_43, .ref q_45, .int 0, .int 0, .ref q_47, .ref q_49, .ref q_51, .ref q_53, .ref q_55, .ref q_57, .ref q_59, .ref q_61, .ref q_63, .ref q_65, .ref q_67, .ref q_69, .int 0, .int 0, .int 0, .int 0, .int 0, .int 0, .ref q_71, .ref q_73, .ref q_75, .ref q_77, .ref q_79, .ref q_81, .ref q_83, .ref q_85, .long 0, .long 0, .long 0, .ref q_87, .int 0, .ref q_89, .ref q_91, .ref q_93])), (q_1, .inl (k_2, 12, .inl (fun _ => 0))), (q_3, .inl (k_4, 12, .inl (fun _ => 0))), (q_5, .inl (k_6, 500, .inl (fun _ => 0))), (q_7, .inl (k_8, 6000, .inl (fun _ => 0))), (q_9, .inl (k_10, 500, .inl (fun _ => 0))), (q_11, .inl (k_12, 40, .inl (fun _ => 0))), (q_13, .inl (k_14, 40, .inl (fun _ => 0))), (q_15, .inl (k_16, 40, .inl (fun _ => 0))), (q_17, .inl (k_18, 40, .inl (fun _ => 0))), (q_19, .inl (k_20, 240, .inl (fun _ => 0))), (q_21, .inl (k_22, 240, .inl (fun _ => 0))), (q_23, .inl (k_24, 40, .inl (fun _ => 0))), (q_25, .inl (k_26, 40, .inl (fun _ => 0))), (q_27, .inl (k_28, 40, .inl (fun _ => 0))), (q_29, .inl (k_30, 40, .inl (fun _ => 0))), (q_31, .inl (k_32, 12, .inl (fun _ => 0))), (q_33, .inl (k_34, 480, .inl (fun _ => 0))), (q_35, .inl (k_36, 20, .inl (fun _ => 0))), (q_37, .inl (k_38, 20, .inl (fun _ => 0))), (q_39, .inl (k_40, 20, .inl (fun _ => 0))), (q_41, .inl (k_42, 20, .inl (fun _ => 0))), (q_43, .inl (k_44, 20, .inl (fun _ => 0))), (q_45, .inl (k_46, 400, .inl (fun _ => 0))), (q_47, .inl (k_48, 20, .inl (fun _ => 0))), (q_49, .inl (k_50, 20, .inl (fun _ => 0))), (q_51, .inl (k_52, 20, .inl (fun _ => 0))), (q_53, .inl (k_54, 240, .inl (fun _ => 0))), (q_55, .inl (k_56, 240, .inl (fun _ => 0))), (q_57, .inl (k_58, 240, .inl (fun _ => 0))), (q_59, .inl (k_60, 20, .inl (fun _ => 0))), (q_61, .inl (k_62, 240, .inl (fun _ => 0))), (q_63, .inl (k_64, 240, .inl (fun _ => 0))), (q_65, .inl (k_66, 240, .inl (fun _ => 0))), (q_67, .inl (k_68, 180, .inl (fun _ => 0))), (q_69, .inl (k_70, 20, .inl (fun _ => 0))), (q_71, .inl (k_72, 600, .inl (fun _ => 0))), (q_73, .inl (k_74, 600, .inl (fun _ => 0))), (q_75, .inl (k_76, 600, .inl (fun _ => 0))), (q_77, .inl (k_78, 600, .inl (fun _ => 0))), (q_79, .inl (k_80, 600, .inl (fun _ => 0))), (q_81, .inl (k_82, 600, .inl (fun _ => 0))), (q_83, .inl (k_84, 600, .inl (fun _ => 0))), (q_85, .inl (k_86, 600, .inl (fun _ => 0))), (q_87, .inl (k_88, 500, .inr (.inl (fun _ => 0)))), (q_89, .inl (k_90, 30, .inl (fun _ => 0))), (q_91, .inl (k_92, 30, .inl (fun _ => 0))), (q_93, .inl (k_94, 30, .inl (fun _ => 0)))] H := hP
  have hD : va_D A [(h_0, .inr (7, [.int 0, .int 0, .int 0, .ref q_1, .int (-1), .ref q_3, .ref q_5, .ref q_7, .ref q_9, .ref q_11, .ref q_13, .ref q_15, .ref q_17, .ref q_19, .ref q_21, .ref q_23, .ref q_25, .ref q_27, .ref q_29, .ref q_31, .ref q_33, .int 0, .ref q_35, .ref q_37, .ref q_39, .ref q_41, .ref q_43, .ref q_45, .int 0, .int 0, .ref q_47, .ref q_49, .ref q_51, .ref q_53, .ref q_55, .ref q_57, .ref q_59, .ref q_61, .ref q_63, .ref q_65, .ref q_67, .ref q_69, .int 0, .int 0, .int 0, .int 0, .int 0, .int 0, .ref q_71, .ref q_73, .ref q_75, .ref q_77, .ref q_79, .ref q_81, .ref q_83, .ref q_85, .long 0, .long 0, .long 0, .ref q_87, .int 0, .ref q_89, .ref q_91, .ref q_93])), (q_1, .inl (k_2, 12, .inl (fun _ => 0))), (q_3, .inl (k_4, 12, .inl (fun _ => 0))), (q_5, .inl (k_6, 500, .inl (fun _ => 0))), (q_7, .inl (k_8, 6000, .inl (fun _ => 0))), (q_9, .inl (k_10, 500, .inl (fun _ => 0))), (q_11, .inl (k_12, 40, .inl (fun _ => 0))), (q_13, .inl (k_14, 40, .inl (fun _ => 0))), (q_15, .inl (k_16, 40, .inl (fun _ => 0))), (q_17, .inl (k_18, 40, .inl (fun _ => 0))), (q_19, .inl (k_20, 240, .inl (fun _ => 0))), (q_21, .inl (k_22, 240, .inl (fun _ => 0))), (q_23, .inl (k_24, 40, .inl (fun _ => 0))), (q_25, .inl (k_26, 40, .inl (fun _ => 0))), (q_27, .inl (k_28, 40, .inl (fun _ => 0))), (q_29, .inl (k_30, 40, .inl (fun _ => 0))), (q_31, .inl (k_32, 12, .inl (fun _ => 0))), (q_33, .inl (k_34, 480, .inl (fun _ => 0))), (q_35, .inl (k_36, 20, .inl (fun _ => 0))), (q_37, .inl (k_38, 20, .inl (fun _ => 0))), (q_39, .inl (k_40, 20, .inl (fun _ => 0))), (q_41, .inl (k_42, 20, .inl (fun _ => 0))), (q_43, .inl (k_44, 20, .inl (fun _ => 0))), (q_45, .inl (k_46, 400, .inl (fun _ => 0))), (q_47, .inl (k_48, 20, .inl (fun _ => 0))), (q_49, .inl (k_50, 20, .inl (fun _ => 0))), (q_51, .inl (k_52, 20, .inl (fun _ => 0))), (q_53, .inl (k_54, 240, .inl (fun _ => 0))), (q_55, .inl (k_56, 240, .inl (fun _ => 0))), (q_57, .inl (k_58, 240, .inl (fun _ => 0))), (q_59, .inl (k_60, 20, .inl (fun _ => 0))), (q_61, .inl (k_62, 240, .inl (fun _ => 0))), (q_63, .inl (k_64, 240, .inl (fun _ => 0))), (q_65, .inl (k_66, 240, .inl (fun _ => 0))), (q_67, .inl (k_68, 180, .inl (fun _ => 0))), (q_69, .inl (k_70, 20, .inl (fun _ => 0))), (q_71, .inl (k_72, 600, .inl (fun _ => 0))), (q_73, .inl (k_74, 600, .inl (fun _ => 0))), (q_75, .inl (k_76, 600, .inl (fun _ => 0))), (q_77, .inl (k_78, 600, .inl (fun _ => 0))), (q_79, .inl (k_80, 600, .inl (fun _ => 0))), (q_81, .inl (k_82, 600, .inl (fun _ => 0))), (q_83, .inl (k_84, 600, .inl (fun _ => 0))), (q_85, .inl (k_86, 600, .inl (fun _ => 0))), (q_87, .inl (k_88, 500, .inr (.inl (fun _ => 0)))), (q_89, .inl (k_90, 30, .inl (fun _ => 0))), (q_91, .inl (k_92, 30, .inl (fun _ => 0))), (q_93, .inl (k_94, 30, .inl (fun _ => 0)))] := hD
  have hK : va_K (dC, dI) vwCl [(k_2, .int), (k_4, .int), (k_6, .boolean), (k_8, .int), (k_10, .boolean), (k_12, .int), (k_14, .int), (k_16, .int), (k_18, .int), (k_20, .int), (k_22, .int), (k_24, .int), (k_26, .int), (k_28, .int), (k_30, .boolean), (k_32, .int), (k_34, .int), (k_36, .int), (k_38, .int), (k_40, .int), (k_42, .int), (k_44, .boolean), (k_46, .byte), (k_48, .int), (k_50, .int), (k_52, .int), (k_54, .int), (k_56, .int), (k_58, .int), (k_60, .int), (k_62, .int), (k_64, .int), (k_66, .int), (k_68, .int), (k_70, .int), (k_72, .int), (k_74, .int), (k_76, .int), (k_78, .int), (k_80, .int), (k_82, .int), (k_84, .int), (k_86, .boolean), (k_88, .long), (k_90, .int), (k_92, .int), (k_94, .int)] s := hK
  have loop : ∀ (n i : Nat) (H : Heap) (locs : List Loc), i + n = 40 → va_P (dC, dI) vwCl [(h_0, .inr (7, [.int 0, .int 0, .int 0, .ref q_1, .int (-1), .ref q_3, .ref q_5, .ref q_7, .ref q_9, .ref q_11, .ref q_13, .ref q_15, .ref q_17, .ref q_19, .ref q_21, .ref q_23, .ref q_25, .ref q_27, .ref q_29, .ref q_31, .ref q_33, .int 0, .ref q_35, .ref q_37, .ref q_39, .ref q_41, .ref q_43, .ref q_45, .int 0, .int 0, .ref q_47, .ref q_49, .ref q_51, .ref q_53, .ref q_55, .ref q_57, .ref q_59, .ref q_61, .ref q_63, .ref q_65, .ref q_67, .ref q_69, .int 0, .int 0, .int 0, .int 0, .int 0, .int 0, .ref q_71, .ref q_73, .ref q_75, .ref q_77, .ref q_79, .ref q_81, .ref q_83, .ref q_85, .long 0, .long 0, .long 0, .ref q_87, .int 0, .ref q_89, .ref q_91, .ref q_93])), (q_1, .inl (k_2, 12, .inl (fun _ => 0))), (q_3, .inl (k_4, 12, .inl (fun _ => 0))), (q_5, .inl (k_6, 500, .inl (fun _ => 0))), (q_7, .inl (k_8, 6000, .inl (fun _ => 0))), (q_9, .inl (k_10, 500, .inl (fun _ => 0))), (q_11, .inl (k_12, 40, .inl (fun _ => 0))), (q_13, .inl (k_14, 40, .inl (hb_fl (-1) 0 i))), (q_15, .inl (k_16, 40, .inl (fun _ => 0))), (q_17, .inl (k_18, 40, .inl (fun _ => 0))), (q_19, .inl (k_20, 240, .inl (fun _ => 0))), (q_21, .inl (k_22, 240, .inl (fun _ => 0))), (q_23, .inl (k_24, 40, .inl (fun _ => 0))), (q_25, .inl (k_26, 40, .inl (hb_fl (-1) 0 i))), (q_27, .inl (k_28, 40, .inl (fun _ => 0))), (q_29, .inl (k_30, 40, .inl (fun _ => 0))), (q_31, .inl (k_32, 12, .inl (fun _ => 0))), (q_33, .inl (k_34, 480, .inl (fun _ => 0))), (q_35, .inl (k_36, 20, .inl (fun _ => 0))), (q_37, .inl (k_38, 20, .inl (fun _ => 0))), (q_39, .inl (k_40, 20, .inl (fun _ => 0))), (q_41, .inl (k_42, 20, .inl (fun _ => 0))), (q_43, .inl (k_44, 20, .inl (fun _ => 0))), (q_45, .inl (k_46, 400, .inl (fun _ => 0))), (q_47, .inl (k_48, 20, .inl (fun _ => 0))), (q_49, .inl (k_50, 20, .inl (fun _ => 0))), (q_51, .inl (k_52, 20, .inl (fun _ => 0))), (q_53, .inl (k_54, 240, .inl (fun _ => 0))), (q_55, .inl (k_56, 240, .inl (fun _ => 0))), (q_57, .inl (k_58, 240, .inl (fun _ => 0))), (q_59, .inl (k_60, 20, .inl (fun _ => 0))), (q_61, .inl (k_62, 240, .inl (fun _ => 0))), (q_63, .inl (k_64, 240, .inl (fun _ => 0))), (q_65, .inl (k_66, 240, .inl (fun _ => 0))), (q_67, .inl (k_68, 180, .inl (fun _ => 0))), (q_69, .inl (k_70, 20, .inl (fun _ => 0))), (q_71, .inl (k_72, 600, .inl (fun _ => 0))), (q_73, .inl (k_74, 600, .inl (fun _ => 0))), (q_75, .inl (k_76, 600, .inl (fun _ => 0))), (q_77, .inl (k_78, 600, .inl (fun _ => 0))), (q_79, .inl (k_80, 600, .inl (fun _ => 0))), (q_81, .inl (k_82, 600, .inl (fun _ => 0))), (q_83, .inl (k_84, 600, .inl (fun _ => 0))), (q_85, .inl (k_86, 600, .inl (fun _ => 0))), (q_87, .inl (k_88, 500, .inr (.inl (fun _ => 0)))), (q_89, .inl (k_90, 30, .inl (fun _ => 0))), (q_91, .inl (k_92, 30, .inl (fun _ => 0))), (q_93, .inl (k_94, 30, .inl (fun _ => 0)))] H → va_D A [(h_0, .inr (7, [.int 0, .int 0, .int 0, .ref q_1, .int (-1), .ref q_3, .ref q_5, .ref q_7, .ref q_9, .ref q_11, .ref q_13, .ref q_15, .ref q_17, .ref q_19, .ref q_21, .ref q_23, .ref q_25, .ref q_27, .ref q_29, .ref q_31, .ref q_33, .int 0, .ref q_35, .ref q_37, .ref q_39, .ref q_41, .ref q_43, .ref q_45, .int 0, .int 0, .ref q_47, .ref q_49, .ref q_51, .ref q_53, .ref q_55, .ref q_57, .ref q_59, .ref q_61, .ref q_63, .ref q_65, .ref q_67, .ref q_69, .int 0, .int 0, .int 0, .int 0, .int 0, .int 0, .ref q_71, .ref q_73, .ref q_75, .ref q_77, .ref q_79, .ref q_81, .ref q_83, .ref q_85, .long 0, .long 0, .long 0, .ref q_87, .int 0, .ref q_89, .ref q_91, .ref q_93])), (q_1, .inl (k_2, 12, .inl (fun _ => 0))), (q_3, .inl (k_4, 12, .inl (fun _ => 0))), (q_5, .inl (k_6, 500, .inl (fun _ => 0))), (q_7, .inl (k_8, 6000, .inl (fun _ => 0))), (q_9, .inl (k_10, 500, .inl (fun _ => 0))), (q_11, .inl (k_12, 40, .inl (fun _ => 0))), (q_13, .inl (k_14, 40, .inl (hb_fl (-1) 0 i))), (q_15, .inl (k_16, 40, .inl (fun _ => 0))), (q_17, .inl (k_18, 40, .inl (fun _ => 0))), (q_19, .inl (k_20, 240, .inl (fun _ => 0))), (q_21, .inl (k_22, 240, .inl (fun _ => 0))), (q_23, .inl (k_24, 40, .inl (fun _ => 0))), (q_25, .inl (k_26, 40, .inl (hb_fl (-1) 0 i))), (q_27, .inl (k_28, 40, .inl (fun _ => 0))), (q_29, .inl (k_30, 40, .inl (fun _ => 0))), (q_31, .inl (k_32, 12, .inl (fun _ => 0))), (q_33, .inl (k_34, 480, .inl (fun _ => 0))), (q_35, .inl (k_36, 20, .inl (fun _ => 0))), (q_37, .inl (k_38, 20, .inl (fun _ => 0))), (q_39, .inl (k_40, 20, .inl (fun _ => 0))), (q_41, .inl (k_42, 20, .inl (fun _ => 0))), (q_43, .inl (k_44, 20, .inl (fun _ => 0))), (q_45, .inl (k_46, 400, .inl (fun _ => 0))), (q_47, .inl (k_48, 20, .inl (fun _ => 0))), (q_49, .inl (k_50, 20, .inl (fun _ => 0))), (q_51, .inl (k_52, 20, .inl (fun _ => 0))), (q_53, .inl (k_54, 240, .inl (fun _ => 0))), (q_55, .inl (k_56, 240, .inl (fun _ => 0))), (q_57, .inl (k_58, 240, .inl (fun _ => 0))), (q_59, .inl (k_60, 20, .inl (fun _ => 0))), (q_61, .inl (k_62, 240, .inl (fun _ => 0))), (q_63, .inl (k_64, 240, .inl (fun _ => 0))), (q_65, .inl (k_66, 240, .inl (fun _ => 0))), (q_67, .inl (k_68, 180, .inl (fun _ => 0))), (q_69, .inl (k_70, 20, .inl (fun _ => 0))), (q_71, .inl (k_72, 600, .inl (fun _ => 0))), (q_73, .inl (k_74, 600, .inl (fun _ => 0))), (q_75, .inl (k_76, 600, .inl (fun _ => 0))), (q_77, .inl (k_78, 600, .inl (fun _ => 0))), (q_79, .inl (k_80, 600, .inl (fun _ => 0))), (q_81, .inl (k_82, 600, .inl (fun _ => 0))), (q_83, .inl (k_84, 600, .inl (fun _ => 0))), (q_85, .inl (k_86, 600, .inl (fun _ => 0))), (q_87, .inl (k_88, 500, .inr (.inl (fun _ => 0)))), (q_89, .inl (k_90, 30, .inl (fun _ => 0))), (q_91, .inl (k_92, 30, .inl (fun _ => 0))), (q_93, .inl (k_94, 30, .inl (fun _ => 0)))] → va_S A s.heap H locs → ∀ ls : Array Slot, lv_has ls 2 [(1, .int (nI i)), (0, .ref h_0)] → W p l e (headSpec (.code y_Md_init b_Md_init 2 none :: TB) ({ frames := 1, cells := 47, slots := 15926, locals := 12 })).room s m [.ref h_0].toArray below meth c H locs 47 15926 (MQ below (va_Qv (fun (_ : Unit) => True) (fun (_ : Unit) t => ∃ (a : Nat → Nat) (k : Nat → ClassId), a 0 = h_0 ∧ va_P (dC, dI) vwCl (MW a k) t.heap ∧ va_K (dC, dI) vwCl (MT k) t ∧ va_D (va_A [(h_0, .inr (7, [.int 0, .int 0, .int 0, .null, .int 0, .null, .null, .null, .null, .null, .null, .null, .null, .null, .null, .null, .null, .null, .null, .null, .null, .int 0, .null, .null, .null, .null, .null, .null, .int 0, .int 0, .null, .null, .null, .null, .null, .null, .null, .null, .null, .null, .null, .null, .int 0, .int 0, .int 0, .int 0, .int 0, .int 0, .null, .null, .null, .null, .null, .null, .null, .null, .long 0, .long 0, .long 0, .null, .int 0, .null, .null, .null]))] s.heap.size) (MW a k)) (va_A [(h_0, .inr (7, [.int 0, .int 0, .int 0, .null, .int 0, .null, .null, .null, .null, .null, .null, .null, .null, .null, .null, .null, .null, .null, .null, .null, .null, .int 0, .null, .null, .null, .null, .null, .null, .int 0, .int 0, .null, .null, .null, .null, .null, .null, .null, .null, .null, .null, .null, .null, .int 0, .int 0, .int 0, .int 0, .int 0, .int 0, .null, .null, .null, .null, .null, .null, .null, .null, .long 0, .long 0, .long 0, .null, .int 0, .null, .null, .null]))] s.heap.size)) [.ref h_0].toArray s 47 15926 (va_A [(h_0, .inr (7, [.int 0, .int 0, .int 0, .null, .int 0, .null, .null, .null, .null, .null, .null, .null, .null, .null, .null, .null, .null, .null, .null, .null, .null, .int 0, .null, .null, .null, .null, .null, .null, .int 0, .int 0, .null, .null, .null, .null, .null, .null, .null, .null, .null, .null, .null, .null, .int 0, .int 0, .int 0, .int 0, .int 0, .int 0, .null, .null, .null, .null, .null, .null, .null, .null, .long 0, .long 0, .long 0, .null, .int 0, .null, .null, .null]))] s.heap.size)) (F0 m 410 ls []) := by
    intro n
    induction n with
    | zero =>
      intro i H locs hj hP hD hS ls hl
      refine lv_iload_n hx hb d_Md_init_410 rfl (lv_at hl 0 rfl) ?_
      refine lv_bipush (v := 40) hx hb d_Md_init_411 (by decide +kernel) ?_
      refine lv_icmp_ge (tgt := 436) hx hb d_Md_init_413 (by decide) (fun _ => ?_) (fun h => absurd (show (40 : Int32) ≤ nI i from nI_le (a := 40) (by omega) (by omega)) h)
      refine W.widen (k := 47) (n := 15926) (Nat.le_of_ble_eq_true rfl) (Nat.le_of_ble_eq_true rfl) ?_
      obtain rfl : i = 40 := by omega
      have hP := hb_swap 7 (fun _ => (-1)) hP rfl (by decide +kernel)
      have hD := hD.set (p := 7) (e := .inl (k_14, 40, .inl (fun _ => (-1)))) rfl
      have hP := hb_swap 13 (fun _ => (-1)) hP rfl (by decide +kernel)
      have hD := hD.set (p := 13) (e := .inl (k_26, 40, .inl (fun _ => (-1)))) rfl
      have hP : va_P (dC, dI) vwCl [(h_0, .inr (7, [.int 0, .int 0, .int 0, .ref q_1, .int (-1), .ref q_3, .ref q_5, .ref q_7, .ref q_9, .ref q_11, .ref q_13, .ref q_15, .ref q_17, .ref q_19, .ref q_21, .ref q_23, .ref q_25, .ref q_27, .ref q_29, .ref q_31, .ref q_33, .int 0, .ref q_35, .ref q_37, .ref q_39, .ref q_41, .ref q_43, .ref q_45, .int 0, .int 0, .ref q_47, .ref q_49, .ref q_51, .ref q_53, .ref q_55, .ref q_57, .ref q_59, .ref q_61, .ref q_63, .ref q_65, .ref q_67, .ref q_69, .int 0, .int 0, .int 0, .int 0, .int 0, .int 0, .ref q_71, .ref q_73, .ref q_75, .ref q_77, .ref q_79, .ref q_81, .ref q_83, .ref q_85, .long 0, .long 0, .long 0, .ref q_87, .int 0, .ref q_89, .ref q_91, .ref q_93])), (q_1, .inl (k_2, 12, .inl (fun _ => 0))), (q_3, .inl (k_4, 12, .inl (fun _ => 0))), (q_5, .inl (k_6, 500, .inl (fun _ => 0))), (q_7, .inl (k_8, 6000, .inl (fun _ => 0))), (q_9, .inl (k_10, 500, .inl (fun _ => 0))), (q_11, .inl (k_12, 40, .inl (fun _ => 0))), (q_13, .inl (k_14, 40, .inl (fun _ => (-1)))), (q_15, .inl (k_16, 40, .inl (fun _ => 0))), (q_17, .inl (k_18, 40, .inl (fun _ => 0))), (q_19, .inl (k_20, 240, .inl (fun _ => 0))), (q_21, .inl (k_22, 240, .inl (fun _ => 0))), (q_23, .inl (k_24, 40, .inl (fun _ => 0))), (q_25, .inl (k_26, 40, .inl (fun _ => (-1)))), (q_27, .inl (k_28, 40, .inl (fun _ => 0))), (q_29, .inl (k_30, 40, .inl (fun _ => 0))), (q_31, .inl (k_32, 12, .inl (fun _ => 0))), (q_33, .inl (k_34, 480, .inl (fun _ => 0))), (q_35, .inl (k_36, 20, .inl (fun _ => 0))), (q_37, .inl (k_38, 20, .inl (fun _ => 0))), (q_39, .inl (k_40, 20, .inl (fun _ => 0))), (q_41, .inl (k_42, 20, .inl (fun _ => 0))), (q_43, .inl (k_44, 20, .inl (fun _ => 0))), (q_45, .inl (k_46, 400, .inl (fun _ => 0))), (q_47, .inl (k_48, 20, .inl (fun _ => 0))), (q_49, .inl (k_50, 20, .inl (fun _ => 0))), (q_51, .inl (k_52, 20, .inl (fun _ => 0))), (q_53, .inl (k_54, 240, .inl (fun _ => 0))), (q_55, .inl (k_56, 240, .inl (fun _ => 0))), (q_57, .inl (k_58, 240, .inl (fun _ => 0))), (q_59, .inl (k_60, 20, .inl (fun _ => 0))), (q_61, .inl (k_62, 240, .inl (fun _ => 0))), (q_63, .inl (k_64, 240, .inl (fun _ => 0))), (q_65, .inl (k_66, 240, .inl (fun _ => 0))), (q_67, .inl (k_68, 180, .inl (fun _ => 0))), (q_69, .inl (k_70, 20, .inl (fun _ => 0))), (q_71, .inl (k_72, 600, .inl (fun _ => 0))), (q_73, .inl (k_74, 600, .inl (fun _ => 0))), (q_75, .inl (k_76, 600, .inl (fun _ => 0))), (q_77, .inl (k_78, 600, .inl (fun _ => 0))), (q_79, .inl (k_80, 600, .inl (fun _ => 0))), (q_81, .inl (k_82, 600, .inl (fun _ => 0))), (q_83, .inl (k_84, 600, .inl (fun _ => 0))), (q_85, .inl (k_86, 600, .inl (fun _ => 0))), (q_87, .inl (k_88, 500, .inr (.inl (fun _ => 0)))), (q_89, .inl (k_90, 30, .inl (fun _ => 0))), (q_91, .inl (k_92, 30, .inl (fun _ => 0))), (q_93, .inl (k_94, 30, .inl (fun _ => 0)))] H := hP
      have hD : va_D A [(h_0, .inr (7, [.int 0, .int 0, .int 0, .ref q_1, .int (-1), .ref q_3, .ref q_5, .ref q_7, .ref q_9, .ref q_11, .ref q_13, .ref q_15, .ref q_17, .ref q_19, .ref q_21, .ref q_23, .ref q_25, .ref q_27, .ref q_29, .ref q_31, .ref q_33, .int 0, .ref q_35, .ref q_37, .ref q_39, .ref q_41, .ref q_43, .ref q_45, .int 0, .int 0, .ref q_47, .ref q_49, .ref q_51, .ref q_53, .ref q_55, .ref q_57, .ref q_59, .ref q_61, .ref q_63, .ref q_65, .ref q_67, .ref q_69, .int 0, .int 0, .int 0, .int 0, .int 0, .int 0, .ref q_71, .ref q_73, .ref q_75, .ref q_77, .ref q_79, .ref q_81, .ref q_83, .ref q_85, .long 0, .long 0, .long 0, .ref q_87, .int 0, .ref q_89, .ref q_91, .ref q_93])), (q_1, .inl (k_2, 12, .inl (fun _ => 0))), (q_3, .inl (k_4, 12, .inl (fun _ => 0))), (q_5, .inl (k_6, 500, .inl (fun _ => 0))), (q_7, .inl (k_8, 6000, .inl (fun _ => 0))), (q_9, .inl (k_10, 500, .inl (fun _ => 0))), (q_11, .inl (k_12, 40, .inl (fun _ => 0))), (q_13, .inl (k_14, 40, .inl (fun _ => (-1)))), (q_15, .inl (k_16, 40, .inl (fun _ => 0))), (q_17, .inl (k_18, 40, .inl (fun _ => 0))), (q_19, .inl (k_20, 240, .inl (fun _ => 0))), (q_21, .inl (k_22, 240, .inl (fun _ => 0))), (q_23, .inl (k_24, 40, .inl (fun _ => 0))), (q_25, .inl (k_26, 40, .inl (fun _ => (-1)))), (q_27, .inl (k_28, 40, .inl (fun _ => 0))), (q_29, .inl (k_30, 40, .inl (fun _ => 0))), (q_31, .inl (k_32, 12, .inl (fun _ => 0))), (q_33, .inl (k_34, 480, .inl (fun _ => 0))), (q_35, .inl (k_36, 20, .inl (fun _ => 0))), (q_37, .inl (k_38, 20, .inl (fun _ => 0))), (q_39, .inl (k_40, 20, .inl (fun _ => 0))), (q_41, .inl (k_42, 20, .inl (fun _ => 0))), (q_43, .inl (k_44, 20, .inl (fun _ => 0))), (q_45, .inl (k_46, 400, .inl (fun _ => 0))), (q_47, .inl (k_48, 20, .inl (fun _ => 0))), (q_49, .inl (k_50, 20, .inl (fun _ => 0))), (q_51, .inl (k_52, 20, .inl (fun _ => 0))), (q_53, .inl (k_54, 240, .inl (fun _ => 0))), (q_55, .inl (k_56, 240, .inl (fun _ => 0))), (q_57, .inl (k_58, 240, .inl (fun _ => 0))), (q_59, .inl (k_60, 20, .inl (fun _ => 0))), (q_61, .inl (k_62, 240, .inl (fun _ => 0))), (q_63, .inl (k_64, 240, .inl (fun _ => 0))), (q_65, .inl (k_66, 240, .inl (fun _ => 0))), (q_67, .inl (k_68, 180, .inl (fun _ => 0))), (q_69, .inl (k_70, 20, .inl (fun _ => 0))), (q_71, .inl (k_72, 600, .inl (fun _ => 0))), (q_73, .inl (k_74, 600, .inl (fun _ => 0))), (q_75, .inl (k_76, 600, .inl (fun _ => 0))), (q_77, .inl (k_78, 600, .inl (fun _ => 0))), (q_79, .inl (k_80, 600, .inl (fun _ => 0))), (q_81, .inl (k_82, 600, .inl (fun _ => 0))), (q_83, .inl (k_84, 600, .inl (fun _ => 0))), (q_85, .inl (k_86, 600, .inl (fun _ => 0))), (q_87, .inl (k_88, 500, .inr (.inl (fun _ => 0)))), (q_89, .inl (k_90, 30, .inl (fun _ => 0))), (q_91, .inl (k_92, 30, .inl (fun _ => 0))), (q_93, .inl (k_94, 30, .inl (fun _ => 0)))] := hD
      have hPX : va_P (dC, dI) vwCl (MW (fun i => ([h_0, q_1, q_3, q_5, q_7, q_9, q_11, q_13, q_15, q_17, q_19, q_21, q_23, q_25, q_27, q_29, q_31, q_33, q_35, q_37, q_39, q_41, q_43, q_45, q_47, q_49, q_51, q_53, q_55, q_57, q_59, q_61, q_63, q_65, q_67, q_69, q_71, q_73, q_75, q_77, q_79, q_81, q_83, q_85, q_87, q_89, q_91, q_93] : List Nat).getD i 0) (fun i => ([0, k_2, k_4, k_6, k_8, k_10, k_12, k_14, k_16, k_18, k_20, k_22, k_24, k_26, k_28, k_30, k_32, k_34, k_36, k_38, k_40, k_42, k_44, k_46, k_48, k_50, k_52, k_54, k_56, k_58, k_60, k_62, k_64, k_66, k_68, k_70, k_72, k_74, k_76, k_78, k_80, k_82, k_84, k_86, k_88, k_90, k_92, k_94] : List ClassId).getD i 0)) H := hP.sub [0, 1, 2, 3, 4, 5, 6, 7, 8, 9, 10, 11, 12, 13, 14, 15, 16, 17, 18, 19, 20, 21, 22, 23, 24, 25, 26, 27, 28, 29, 30, 31, 32, 33, 34, 35, 36, 37, 38, 39, 40, 41, 42, 43, 44, 45, 46, 47] rfl
      have hDX : va_D A (MW (fun i => ([h_0, q_1, q_3, q_5, q_7, q_9, q_11, q_13, q_15, q_17, q_19, q_21, q_23, q_25, q_27, q_29, q_31, q_33, q_35, q_37, q_39, q_41, q_43, q_45, q_47, q_49, q_51, q_53, q_55, q_57, q_59, q_61, q_63, q_65, q_67, q_69, q_71, q_73, q_75, q_77, q_79, q_81, q_83, q_85, q_87, q_89, q_91, q_93] : List Nat).getD i 0) (fun i => ([0, k_2, k_4, k_6, k_8, k_10, k_12, k_14, k_16, k_18, k_20, k_22, k_24, k_26, k_28, k_30, k_32, k_34, k_36, k_38, k_40, k_42, k_44, k_46, k_48, k_50, k_52, k_54, k_56, k_58, k_60, k_62, k_64, k_66, k_68, k_70, k_72, k_74, k_76, k_78, k_80, k_82, k_84, k_86, k_88, k_90, k_92, k_94] : List ClassId).getD i 0)) := hD.sub [0, 1, 2, 3, 4, 5, 6, 7, 8, 9, 10, 11, 12, 13, 14, 15, 16, 17, 18, 19, 20, 21, 22, 23, 24, 25, 26, 27, 28, 29, 30, 31, 32, 33, 34, 35, 36, 37, 38, 39, 40, 41, 42, 43, 44, 45, 46, 47] (by decide) rfl
      have hKX : va_K (dC, dI) vwCl (MT (fun i => ([0, k_2, k_4, k_6, k_8, k_10, k_12, k_14, k_16, k_18, k_20, k_22, k_24, k_26, k_28, k_30, k_32, k_34, k_36, k_38, k_40, k_42, k_44, k_46, k_48, k_50, k_52, k_54, k_56, k_58, k_60, k_62, k_64, k_66, k_68, k_70, k_72, k_74, k_76, k_78, k_80, k_82, k_84, k_86, k_88, k_90, k_92, k_94] : List ClassId).getD i 0)) s := hK.sub [0, 1, 2, 3, 4, 5, 6, 7, 8, 9, 10, 11, 12, 13, 14, 15, 16, 17, 18, 19, 20, 21, 22, 23, 24, 25, 26, 27, 28, 29, 30, 31, 32, 33, 34, 35, 36, 37, 38, 39, 40, 41, 42, 43, 44, 45, 46] rfl
      exact W.vret hx hb hr (fun t ht hW => ⟨⟨(), rfl, trivial, _, _, rfl, by rw [ht]; exact hPX, va_K.moved hW.alike hKX, by rw [hAe]; exact hDX⟩, by rw [hAe]; exact hS.F ht⟩) (by rw [hAe]; exact hS.2.2) d_Md_init_436
    | succ n ih =>
      intro i H locs hj hP hD hS ls hl
      refine lv_iload_n hx hb d_Md_init_410 rfl (lv_at hl 0 rfl) ?_
      refine lv_bipush (v := 40) hx hb d_Md_init_411 (by decide +kernel) ?_
      refine lv_icmp_ge (tgt := 436) hx hb d_Md_init_413 (by decide) (fun h => absurd h (show ¬ (40 : Int32) ≤ nI i from nI_ge (b := 40) (by omega) (by omega))) (fun _ => ?_)
      refine lv_aload_n hx hb d_Md_init_416 rfl (lv_at hl 1 rfl) ?_
      refine va_get (D := (dC, dI)) (ci := 7) (v := .ref q_13) (C := R_Md) (T := F_Md) (N := 64) hx hb htb i_Md hown hK hP 0 rfl rfl 10 (by decide) (htb (.fieldLink R_Md 61 "WaterMenModel" "master" "[I") tw_12) (fun _ h9 => h9) rfl d_Md_init_417 ?_
      refine lv_iload_n hx hb d_Md_init_420 rfl (lv_at hl 0 rfl) ?_
      refine lv_iconst (v := (-1)) hx hb d_Md_init_421 (by decide +kernel) ?_
      refine va_iast hx hb hK hP hD hS 7 6 rfl rfl (vp_in_nI (by omega) (by omega)) d_Md_init_422 (fun H locs hP hD hS => ?_)
      rw [hb_fill (by omega)] at hP hD
      have hP : va_P (dC, dI) vwCl [(h_0, .inr (7, [.int 0, .int 0, .int 0, .ref q_1, .int (-1), .ref q_3, .ref q_5, .ref q_7, .ref q_9, .ref q_11, .ref q_13, .ref q_15, .ref q_17, .ref q_19, .ref q_21, .ref q_23, .ref q_25, .ref q_27, .ref q_29, .ref q_31, .ref q_33, .int 0, .ref q_35, .ref q_37, .ref q_39, .ref q_41, .ref q_43, .ref q_45, .int 0, .int 0, .ref q_47, .ref q_49, .ref q_51, .ref q_53, .ref q_55, .ref q_57, .ref q_59, .ref q_61, .ref q_63, .ref q_65, .ref q_67, .ref q_69, .int 0, .int 0, .int 0, .int 0, .int 0, .int 0, .ref q_71, .ref q_73, .ref q_75, .ref q_77, .ref q_79, .ref q_81, .ref q_83, .ref q_85, .long 0, .long 0, .long 0, .ref q_87, .int 0, .ref q_89, .ref q_91, .ref q_93])), (q_1, .inl (k_2, 12, .inl (fun _ => 0))), (q_3, .inl (k_4, 12, .inl (fun _ => 0))), (q_5, .inl (k_6, 500, .inl (fun _ => 0))), (q_7, .inl (k_8, 6000, .inl (fun _ => 0))), (q_9, .inl (k_10, 500, .inl (fun _ => 0))), (q_11, .inl (k_12, 40, .inl (fun _ => 0))), (q_13, .inl (k_14, 40, .inl (hb_fl (-1) 0 (i + 1)))), (q_15, .inl (k_16, 40, .inl (fun _ => 0))), (q_17, .inl (k_18, 40, .inl (fun _ => 0))), (q_19, .inl (k_20, 240, .inl (fun _ => 0))), (q_21, .inl (k_22, 240, .inl (fun _ => 0))), (q_23, .inl (k_24, 40, .inl (fun _ => 0))), (q_25, .inl (k_26, 40, .inl (hb_fl (-1) 0 i))), (q_27, .inl (k_28, 40, .inl (fun _ => 0))), (q_29, .inl (k_30, 40, .inl (fun _ => 0))), (q_31, .inl (k_32, 12, .inl (fun _ => 0))), (q_33, .inl (k_34, 480, .inl (fun _ => 0))), (q_35, .inl (k_36, 20, .inl (fun _ => 0))), (q_37, .inl (k_38, 20, .inl (fun _ => 0))), (q_39, .inl (k_40, 20, .inl (fun _ => 0))), (q_41, .inl (k_42, 20, .inl (fun _ => 0))), (q_43, .inl (k_44, 20, .inl (fun _ => 0))), (q_45, .inl (k_46, 400, .inl (fun _ => 0))), (q_47, .inl (k_48, 20, .inl (fun _ => 0))), (q_49, .inl (k_50, 20, .inl (fun _ => 0))), (q_51, .inl (k_52, 20, .inl (fun _ => 0))), (q_53, .inl (k_54, 240, .inl (fun _ => 0))), (q_55, .inl (k_56, 240, .inl (fun _ => 0))), (q_57, .inl (k_58, 240, .inl (fun _ => 0))), (q_59, .inl (k_60, 20, .inl (fun _ => 0))), (q_61, .inl (k_62, 240, .inl (fun _ => 0))), (q_63, .inl (k_64, 240, .inl (fun _ => 0))), (q_65, .inl (k_66, 240, .inl (fun _ => 0))), (q_67, .inl (k_68, 180, .inl (fun _ => 0))), (q_69, .inl (k_70, 20, .inl (fun _ => 0))), (q_71, .inl (k_72, 600, .inl (fun _ => 0))), (q_73, .inl (k_74, 600, .inl (fun _ => 0))), (q_75, .inl (k_76, 600, .inl (fun _ => 0))), (q_77, .inl (k_78, 600, .inl (fun _ => 0))), (q_79, .inl (k_80, 600, .inl (fun _ => 0))), (q_81, .inl (k_82, 600, .inl (fun _ => 0))), (q_83, .inl (k_84, 600, .inl (fun _ => 0))), (q_85, .inl (k_86, 600, .inl (fun _ => 0))), (q_87, .inl (k_88, 500, .inr (.inl (fun _ => 0)))), (q_89, .inl (k_90, 30, .inl (fun _ => 0))), (q_91, .inl (k_92, 30, .inl (fun _ => 0))), (q_93, .inl (k_94, 30, .inl (fun _ => 0)))] H := hP
      have hD : va_D A [(h_0, .inr (7, [.int 0, .int 0, .int 0, .ref q_1, .int (-1), .ref q_3, .ref q_5, .ref q_7, .ref q_9, .ref q_11, .ref q_13, .ref q_15, .ref q_17, .ref q_19, .ref q_21, .ref q_23, .ref q_25, .ref q_27, .ref q_29, .ref q_31, .ref q_33, .int 0, .ref q_35, .ref q_37, .ref q_39, .ref q_41, .ref q_43, .ref q_45, .int 0, .int 0, .ref q_47, .ref q_49, .ref q_51, .ref q_53, .ref q_55, .ref q_57, .ref q_59, .ref q_61, .ref q_63, .ref q_65, .ref q_67, .ref q_69, .int 0, .int 0, .int 0, .int 0, .int 0, .int 0, .ref q_71, .ref q_73, .ref q_75, .ref q_77, .ref q_79, .ref q_81, .ref q_83, .ref q_85, .long 0, .long 0, .long 0, .ref q_87, .int 0, .ref q_89, .ref q_91, .ref q_93])), (q_1, .inl (k_2, 12, .inl (fun _ => 0))), (q_3, .inl (k_4, 12, .inl (fun _ => 0))), (q_5, .inl (k_6, 500, .inl (fun _ => 0))), (q_7, .inl (k_8, 6000, .inl (fun _ => 0))), (q_9, .inl (k_10, 500, .inl (fun _ => 0))), (q_11, .inl (k_12, 40, .inl (fun _ => 0))), (q_13, .inl (k_14, 40, .inl (hb_fl (-1) 0 (i + 1)))), (q_15, .inl (k_16, 40, .inl (fun _ => 0))), (q_17, .inl (k_18, 40, .inl (fun _ => 0))), (q_19, .inl (k_20, 240, .inl (fun _ => 0))), (q_21, .inl (k_22, 240, .inl (fun _ => 0))), (q_23, .inl (k_24, 40, .inl (fun _ => 0))), (q_25, .inl (k_26, 40, .inl (hb_fl (-1) 0 i))), (q_27, .inl (k_28, 40, .inl (fun _ => 0))), (q_29, .inl (k_30, 40, .inl (fun _ => 0))), (q_31, .inl (k_32, 12, .inl (fun _ => 0))), (q_33, .inl (k_34, 480, .inl (fun _ => 0))), (q_35, .inl (k_36, 20, .inl (fun _ => 0))), (q_37, .inl (k_38, 20, .inl (fun _ => 0))), (q_39, .inl (k_40, 20, .inl (fun _ => 0))), (q_41, .inl (k_42, 20, .inl (fun _ => 0))), (q_43, .inl (k_44, 20, .inl (fun _ => 0))), (q_45, .inl (k_46, 400, .inl (fun _ => 0))), (q_47, .inl (k_48, 20, .inl (fun _ => 0))), (q_49, .inl (k_50, 20, .inl (fun _ => 0))), (q_51, .inl (k_52, 20, .inl (fun _ => 0))), (q_53, .inl (k_54, 240, .inl (fun _ => 0))), (q_55, .inl (k_56, 240, .inl (fun _ => 0))), (q_57, .inl (k_58, 240, .inl (fun _ => 0))), (q_59, .inl (k_60, 20, .inl (fun _ => 0))), (q_61, .inl (k_62, 240, .inl (fun _ => 0))), (q_63, .inl (k_64, 240, .inl (fun _ => 0))), (q_65, .inl (k_66, 240, .inl (fun _ => 0))), (q_67, .inl (k_68, 180, .inl (fun _ => 0))), (q_69, .inl (k_70, 20, .inl (fun _ => 0))), (q_71, .inl (k_72, 600, .inl (fun _ => 0))), (q_73, .inl (k_74, 600, .inl (fun _ => 0))), (q_75, .inl (k_76, 600, .inl (fun _ => 0))), (q_77, .inl (k_78, 600, .inl (fun _ => 0))), (q_79, .inl (k_80, 600, .inl (fun _ => 0))), (q_81, .inl (k_82, 600, .inl (fun _ => 0))), (q_83, .inl (k_84, 600, .inl (fun _ => 0))), (q_85, .inl (k_86, 600, .inl (fun _ => 0))), (q_87, .inl (k_88, 500, .inr (.inl (fun _ => 0)))), (q_89, .inl (k_90, 30, .inl (fun _ => 0))), (q_91, .inl (k_92, 30, .inl (fun _ => 0))), (q_93, .inl (k_94, 30, .inl (fun _ => 0)))] := hD
      refine lv_aload_n hx hb d_Md_init_423 rfl (lv_at hl 1 rfl) ?_
      refine va_get (D := (dC, dI)) (ci := 7) (v := .ref q_25) (C := R_Md) (T := F_Md) (N := 64) hx hb htb i_Md hown hK hP 0 rfl rfl 16 (by decide) (htb (.fieldLink R_Md 79 "WaterMenModel" "wayOf" "[I") tw_18) (fun _ h9 => h9) rfl d_Md_init_424 ?_
      refine lv_iload_n hx hb d_Md_init_427 rfl (lv_at hl 0 rfl) ?_
      refine lv_iconst (v := (-1)) hx hb d_Md_init_428 (by decide +kernel) ?_
      refine va_iast hx hb hK hP hD hS 13 12 rfl rfl (vp_in_nI (by omega) (by omega)) d_Md_init_429 (fun H locs hP hD hS => ?_)
      rw [hb_fill (by omega)] at hP hD
      have hP : va_P (dC, dI) vwCl [(h_0, .inr (7, [.int 0, .int 0, .int 0, .ref q_1, .int (-1), .ref q_3, .ref q_5, .ref q_7, .ref q_9, .ref q_11, .ref q_13, .ref q_15, .ref q_17, .ref q_19, .ref q_21, .ref q_23, .ref q_25, .ref q_27, .ref q_29, .ref q_31, .ref q_33, .int 0, .ref q_35, .ref q_37, .ref q_39, .ref q_41, .ref q_43, .ref q_45, .int 0, .int 0, .ref q_47, .ref q_49, .ref q_51, .ref q_53, .ref q_55, .ref q_57, .ref q_59, .ref q_61, .ref q_63, .ref q_65, .ref q_67, .ref q_69, .int 0, .int 0, .int 0, .int 0, .int 0, .int 0, .ref q_71, .ref q_73, .ref q_75, .ref q_77, .ref q_79, .ref q_81, .ref q_83, .ref q_85, .long 0, .long 0, .long 0, .ref q_87, .int 0, .ref q_89, .ref q_91, .ref q_93])), (q_1, .inl (k_2, 12, .inl (fun _ => 0))), (q_3, .inl (k_4, 12, .inl (fun _ => 0))), (q_5, .inl (k_6, 500, .inl (fun _ => 0))), (q_7, .inl (k_8, 6000, .inl (fun _ => 0))), (q_9, .inl (k_10, 500, .inl (fun _ => 0))), (q_11, .inl (k_12, 40, .inl (fun _ => 0))), (q_13, .inl (k_14, 40, .inl (hb_fl (-1) 0 (i + 1)))), (q_15, .inl (k_16, 40, .inl (fun _ => 0))), (q_17, .inl (k_18, 40, .inl (fun _ => 0))), (q_19, .inl (k_20, 240, .inl (fun _ => 0))), (q_21, .inl (k_22, 240, .inl (fun _ => 0))), (q_23, .inl (k_24, 40, .inl (fun _ => 0))), (q_25, .inl (k_26, 40, .inl (hb_fl (-1) 0 (i + 1)))), (q_27, .inl (k_28, 40, .inl (fun _ => 0))), (q_29, .inl (k_30, 40, .inl (fun _ => 0))), (q_31, .inl (k_32, 12, .inl (fun _ => 0))), (q_33, .inl (k_34, 480, .inl (fun _ => 0))), (q_35, .inl (k_36, 20, .inl (fun _ => 0))), (q_37, .inl (k_38, 20, .inl (fun _ => 0))), (q_39, .inl (k_40, 20, .inl (fun _ => 0))), (q_41, .inl (k_42, 20, .inl (fun _ => 0))), (q_43, .inl (k_44, 20, .inl (fun _ => 0))), (q_45, .inl (k_46, 400, .inl (fun _ => 0))), (q_47, .inl (k_48, 20, .inl (fun _ => 0))), (q_49, .inl (k_50, 20, .inl (fun _ => 0))), (q_51, .inl (k_52, 20, .inl (fun _ => 0))), (q_53, .inl (k_54, 240, .inl (fun _ => 0))), (q_55, .inl (k_56, 240, .inl (fun _ => 0))), (q_57, .inl (k_58, 240, .inl (fun _ => 0))), (q_59, .inl (k_60, 20, .inl (fun _ => 0))), (q_61, .inl (k_62, 240, .inl (fun _ => 0))), (q_63, .inl (k_64, 240, .inl (fun _ => 0))), (q_65, .inl (k_66, 240, .inl (fun _ => 0))), (q_67, .inl (k_68, 180, .inl (fun _ => 0))), (q_69, .inl (k_70, 20, .inl (fun _ => 0))), (q_71, .inl (k_72, 600, .inl (fun _ => 0))), (q_73, .inl (k_74, 600, .inl (fun _ => 0))), (q_75, .inl (k_76, 600, .inl (fun _ => 0))), (q_77, .inl (k_78, 600, .inl (fun _ => 0))), (q_79, .inl (k_80, 600, .inl (fun _ => 0))), (q_81, .inl (k_82, 600, .inl (fun _ => 0))), (q_83, .inl (k_84, 600, .inl (fun _ => 0))), (q_85, .inl (k_86, 600, .inl (fun _ => 0))), (q_87, .inl (k_88, 500, .inr (.inl (fun _ => 0)))), (q_89, .inl (k_90, 30, .inl (fun _ => 0))), (q_91, .inl (k_92, 30, .inl (fun _ => 0))), (q_93, .inl (k_94, 30, .inl (fun _ => 0)))] H := hP
      have hD : va_D A [(h_0, .inr (7, [.int 0, .int 0, .int 0, .ref q_1, .int (-1), .ref q_3, .ref q_5, .ref q_7, .ref q_9, .ref q_11, .ref q_13, .ref q_15, .ref q_17, .ref q_19, .ref q_21, .ref q_23, .ref q_25, .ref q_27, .ref q_29, .ref q_31, .ref q_33, .int 0, .ref q_35, .ref q_37, .ref q_39, .ref q_41, .ref q_43, .ref q_45, .int 0, .int 0, .ref q_47, .ref q_49, .ref q_51, .ref q_53, .ref q_55, .ref q_57, .ref q_59, .ref q_61, .ref q_63, .ref q_65, .ref q_67, .ref q_69, .int 0, .int 0, .int 0, .int 0, .int 0, .int 0, .ref q_71, .ref q_73, .ref q_75, .ref q_77, .ref q_79, .ref q_81, .ref q_83, .ref q_85, .long 0, .long 0, .long 0, .ref q_87, .int 0, .ref q_89, .ref q_91, .ref q_93])), (q_1, .inl (k_2, 12, .inl (fun _ => 0))), (q_3, .inl (k_4, 12, .inl (fun _ => 0))), (q_5, .inl (k_6, 500, .inl (fun _ => 0))), (q_7, .inl (k_8, 6000, .inl (fun _ => 0))), (q_9, .inl (k_10, 500, .inl (fun _ => 0))), (q_11, .inl (k_12, 40, .inl (fun _ => 0))), (q_13, .inl (k_14, 40, .inl (hb_fl (-1) 0 (i + 1)))), (q_15, .inl (k_16, 40, .inl (fun _ => 0))), (q_17, .inl (k_18, 40, .inl (fun _ => 0))), (q_19, .inl (k_20, 240, .inl (fun _ => 0))), (q_21, .inl (k_22, 240, .inl (fun _ => 0))), (q_23, .inl (k_24, 40, .inl (fun _ => 0))), (q_25, .inl (k_26, 40, .inl (hb_fl (-1) 0 (i + 1)))), (q_27, .inl (k_28, 40, .inl (fun _ => 0))), (q_29, .inl (k_30, 40, .inl (fun _ => 0))), (q_31, .inl (k_32, 12, .inl (fun _ => 0))), (q_33, .inl (k_34, 480, .inl (fun _ => 0))), (q_35, .inl (k_36, 20, .inl (fun _ => 0))), (q_37, .inl (k_38, 20, .inl (fun _ => 0))), (q_39, .inl (k_40, 20, .inl (fun _ => 0))), (q_41, .inl (k_42, 20, .inl (fun _ => 0))), (q_43, .inl (k_44, 20, .inl (fun _ => 0))), (q_45, .inl (k_46, 400, .inl (fun _ => 0))), (q_47, .inl (k_48, 20, .inl (fun _ => 0))), (q_49, .inl (k_50, 20, .inl (fun _ => 0))), (q_51, .inl (k_52, 20, .inl (fun _ => 0))), (q_53, .inl (k_54, 240, .inl (fun _ => 0))), (q_55, .inl (k_56, 240, .inl (fun _ => 0))), (q_57, .inl (k_58, 240, .inl (fun _ => 0))), (q_59, .inl (k_60, 20, .inl (fun _ => 0))), (q_61, .inl (k_62, 240, .inl (fun _ => 0))), (q_63, .inl (k_64, 240, .inl (fun _ => 0))), (q_65, .inl (k_66, 240, .inl (fun _ => 0))), (q_67, .inl (k_68, 180, .inl (fun _ => 0))), (q_69, .inl (k_70, 20, .inl (fun _ => 0))), (q_71, .inl (k_72, 600, .inl (fun _ => 0))), (q_73, .inl (k_74, 600, .inl (fun _ => 0))), (q_75, .inl (k_76, 600, .inl (fun _ => 0))), (q_77, .inl (k_78, 600, .inl (fun _ => 0))), (q_79, .inl (k_80, 600, .inl (fun _ => 0))), (q_81, .inl (k_82, 600, .inl (fun _ => 0))), (q_83, .inl (k_84, 600, .inl (fun _ => 0))), (q_85, .inl (k_86, 600, .inl (fun _ => 0))), (q_87, .inl (k_88, 500, .inr (.inl (fun _ => 0)))), (q_89, .inl (k_90, 30, .inl (fun _ => 0))), (q_91, .inl (k_92, 30, .inl (fun _ => 0))), (q_93, .inl (k_94, 30, .inl (fun _ => 0)))] := hD
      refine lv_iinc (v := nI (i + 1)) (lv' := [(1, .int (nI (i + 1))), (0, .ref h_0)]) hx hb d_Md_init_430 hl (k := 0) rfl (nI_1 i) (by decide) rfl (fun ls hl => ?_)
      refine lv_goto (tgt := 410) hx hb d_Md_init_433 (by decide) ?_
      exact ih (i + 1) _ _ (by omega) hP hD hS ls (lv_sub hl [0, 1] rfl)
  refine W.widen (k := 47) (n := 15926) (Nat.le_of_ble_eq_true rfl) (Nat.le_of_ble_eq_true rfl) ?_
  exact loop 40 0 _ _ (by omega) (by rw [hb_fl_0]; exact hP) (by rw [hb_fl_0]; exact hD) hS ls (lv_sub hl [0, 1] rfl)
end
