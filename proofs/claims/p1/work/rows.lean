section
-- ===== PART A: goes FIRST, ahead of the names: the tables' words, and 'selects' of the private methods out of them =====
/-- a private method of a class that the tables say can be made, by its rows of tables_1 -/
def lw_okq (q : MethodName × Nat) : Prop := (q.1.cls ≠ "java/lang/invoke/MethodHandle" ∧ q.1.cls ≠ "java/lang/invoke/VarHandle") ∧ Cond.instantiable q.1.cls q.2 ∈ tables_1 ∧ Cond.privateMethod q.1 ∈ tables_1 ∧ Cond.instanceMethod q.1 ∈ tables_1
theorem lw_p0 : lw_okq (⟨"WaterMen", "today", "()I"⟩, 13) := ⟨⟨by decide +kernel, by decide +kernel⟩, List.mem_of_getElem? (i := 18) (by decide +kernel), List.mem_of_getElem? (i := 288) (by decide +kernel), List.mem_of_getElem? (i := 289) (by decide +kernel)⟩
theorem lw_p1 : lw_okq (⟨"WaterMen", "manAt", "(I)LWaterMen$Man;"⟩, 13) := ⟨⟨by decide +kernel, by decide +kernel⟩, List.mem_of_getElem? (i := 18) (by decide +kernel), List.mem_of_getElem? (i := 301) (by decide +kernel), List.mem_of_getElem? (i := 302) (by decide +kernel)⟩
theorem lw_p2 : lw_okq (⟨"WaterMen", "placeInTurns", "(LWaterMen$Man;)I"⟩, 13) := ⟨⟨by decide +kernel, by decide +kernel⟩, List.mem_of_getElem? (i := 18) (by decide +kernel), List.mem_of_getElem? (i := 366) (by decide +kernel), List.mem_of_getElem? (i := 367) (by decide +kernel)⟩
theorem lw_p3 : lw_okq (⟨"WaterMen", "boatAt", "(I)LWaterMen$Boat;"⟩, 13) := ⟨⟨by decide +kernel, by decide +kernel⟩, List.mem_of_getElem? (i := 18) (by decide +kernel), List.mem_of_getElem? (i := 419) (by decide +kernel), List.mem_of_getElem? (i := 420) (by decide +kernel)⟩
theorem lw_p4 : lw_okq (⟨"WaterMen", "numberInForce", "(II)I"⟩, 13) := ⟨⟨by decide +kernel, by decide +kernel⟩, List.mem_of_getElem? (i := 18) (by decide +kernel), List.mem_of_getElem? (i := 575) (by decide +kernel), List.mem_of_getElem? (i := 576) (by decide +kernel)⟩
theorem lw_p5 : lw_okq (⟨"WaterMen", "orderAt", "(I)LWaterMen$Order;"⟩, 13) := ⟨⟨by decide +kernel, by decide +kernel⟩, List.mem_of_getElem? (i := 18) (by decide +kernel), List.mem_of_getElem? (i := 579) (by decide +kernel), List.mem_of_getElem? (i := 580) (by decide +kernel)⟩
theorem lw_p6 : lw_okq (⟨"WaterMen", "priceOf", "(LWaterMen$Order;IIII)I"⟩, 13) := ⟨⟨by decide +kernel, by decide +kernel⟩, List.mem_of_getElem? (i := 18) (by decide +kernel), List.mem_of_getElem? (i := 587) (by decide +kernel), List.mem_of_getElem? (i := 588) (by decide +kernel)⟩
theorem lw_p7 : lw_okq (⟨"WaterMen", "mayGoTo", "(LWaterMen$Boat;I)Z"⟩, 13) := ⟨⟨by decide +kernel, by decide +kernel⟩, List.mem_of_getElem? (i := 18) (by decide +kernel), List.mem_of_getElem? (i := 630) (by decide +kernel), List.mem_of_getElem? (i := 631) (by decide +kernel)⟩
theorem lw_p8 : lw_okq (⟨"WaterMen", "hindrance", "(LWaterMen$Boat;LWaterMen$Man;I)I"⟩, 13) := ⟨⟨by decide +kernel, by decide +kernel⟩, List.mem_of_getElem? (i := 18) (by decide +kernel), List.mem_of_getElem? (i := 634) (by decide +kernel), List.mem_of_getElem? (i := 635) (by decide +kernel)⟩
theorem lw_p9 : lw_okq (⟨"WaterMen", "mustWait", "(LWaterMen$Man;I)Z"⟩, 13) := ⟨⟨by decide +kernel, by decide +kernel⟩, List.mem_of_getElem? (i := 18) (by decide +kernel), List.mem_of_getElem? (i := 638) (by decide +kernel), List.mem_of_getElem? (i := 639) (by decide +kernel)⟩
theorem lw_p10 : lw_okq (⟨"WaterMen", "hasTurns", "(I)Z"⟩, 13) := ⟨⟨by decide +kernel, by decide +kernel⟩, List.mem_of_getElem? (i := 18) (by decide +kernel), List.mem_of_getElem? (i := 642) (by decide +kernel), List.mem_of_getElem? (i := 643) (by decide +kernel)⟩
theorem lw_p11 : lw_okq (⟨"WaterMen", "hourNow", "()I"⟩, 13) := ⟨⟨by decide +kernel, by decide +kernel⟩, List.mem_of_getElem? (i := 18) (by decide +kernel), List.mem_of_getElem? (i := 652) (by decide +kernel), List.mem_of_getElem? (i := 653) (by decide +kernel)⟩
theorem lw_p12 : lw_okq (⟨"WaterMen", "minutesOfWay", "(LWaterMen$Boat;I)I"⟩, 13) := ⟨⟨by decide +kernel, by decide +kernel⟩, List.mem_of_getElem? (i := 18) (by decide +kernel), List.mem_of_getElem? (i := 661) (by decide +kernel), List.mem_of_getElem? (i := 662) (by decide +kernel)⟩
theorem lw_p13 : lw_okq (⟨"WaterMen", "takeMoney", "(LWaterMen$Man;I)V"⟩, 13) := ⟨⟨by decide +kernel, by decide +kernel⟩, List.mem_of_getElem? (i := 18) (by decide +kernel), List.mem_of_getElem? (i := 717) (by decide +kernel), List.mem_of_getElem? (i := 718) (by decide +kernel)⟩
theorem lw_p14 : lw_okq (⟨"WaterMen", "partPot", "(I)V"⟩, 13) := ⟨⟨by decide +kernel, by decide +kernel⟩, List.mem_of_getElem? (i := 18) (by decide +kernel), List.mem_of_getElem? (i := 731) (by decide +kernel), List.mem_of_getElem? (i := 732) (by decide +kernel)⟩
theorem lw_p15 : lw_okq (⟨"WaterMen", "tripAt", "(I)LWaterMen$Trip;"⟩, 13) := ⟨⟨by decide +kernel, by decide +kernel⟩, List.mem_of_getElem? (i := 18) (by decide +kernel), List.mem_of_getElem? (i := 750) (by decide +kernel), List.mem_of_getElem? (i := 751) (by decide +kernel)⟩
def lw_privs_1 : List (MethodName × Nat) := [(⟨"WaterMen", "today", "()I"⟩, 13), (⟨"WaterMen", "manAt", "(I)LWaterMen$Man;"⟩, 13), (⟨"WaterMen", "placeInTurns", "(LWaterMen$Man;)I"⟩, 13), (⟨"WaterMen", "boatAt", "(I)LWaterMen$Boat;"⟩, 13), (⟨"WaterMen", "numberInForce", "(II)I"⟩, 13), (⟨"WaterMen", "orderAt", "(I)LWaterMen$Order;"⟩, 13), (⟨"WaterMen", "priceOf", "(LWaterMen$Order;IIII)I"⟩, 13), (⟨"WaterMen", "mayGoTo", "(LWaterMen$Boat;I)Z"⟩, 13), (⟨"WaterMen", "hindrance", "(LWaterMen$Boat;LWaterMen$Man;I)I"⟩, 13), (⟨"WaterMen", "mustWait", "(LWaterMen$Man;I)Z"⟩, 13), (⟨"WaterMen", "hasTurns", "(I)Z"⟩, 13), (⟨"WaterMen", "hourNow", "()I"⟩, 13), (⟨"WaterMen", "minutesOfWay", "(LWaterMen$Boat;I)I"⟩, 13), (⟨"WaterMen", "takeMoney", "(LWaterMen$Man;I)V"⟩, 13), (⟨"WaterMen", "partPot", "(I)V"⟩, 13), (⟨"WaterMen", "tripAt", "(I)LWaterMen$Trip;"⟩, 13)]
theorem lw_r1 : ∀ q ∈ lw_privs_1, lw_okq q := List.forall_mem_cons.mpr ⟨lw_p0, List.forall_mem_cons.mpr ⟨lw_p1, List.forall_mem_cons.mpr ⟨lw_p2, List.forall_mem_cons.mpr ⟨lw_p3, List.forall_mem_cons.mpr ⟨lw_p4, List.forall_mem_cons.mpr ⟨lw_p5, List.forall_mem_cons.mpr ⟨lw_p6, List.forall_mem_cons.mpr ⟨lw_p7, List.forall_mem_cons.mpr ⟨lw_p8, List.forall_mem_cons.mpr ⟨lw_p9, List.forall_mem_cons.mpr ⟨lw_p10, List.forall_mem_cons.mpr ⟨lw_p11, List.forall_mem_cons.mpr ⟨lw_p12, List.forall_mem_cons.mpr ⟨lw_p13, List.forall_mem_cons.mpr ⟨lw_p14, List.forall_mem_cons.mpr ⟨lw_p15, fun _ h => absurd h List.not_mem_nil⟩⟩⟩⟩⟩⟩⟩⟩⟩⟩⟩⟩⟩⟩⟩⟩
theorem lw_p16 : lw_okq (⟨"WaterMen", "dueOf", "(LWaterMen$Trip;I)I"⟩, 13) := ⟨⟨by decide +kernel, by decide +kernel⟩, List.mem_of_getElem? (i := 18) (by decide +kernel), List.mem_of_getElem? (i := 786) (by decide +kernel), List.mem_of_getElem? (i := 787) (by decide +kernel)⟩
theorem lw_p17 : lw_okq (⟨"WaterMen", "overpaid", "(LWaterMen$Trip;I)I"⟩, 13) := ⟨⟨by decide +kernel, by decide +kernel⟩, List.mem_of_getElem? (i := 18) (by decide +kernel), List.mem_of_getElem? (i := 794) (by decide +kernel), List.mem_of_getElem? (i := 795) (by decide +kernel)⟩
theorem lw_p18 : lw_okq (⟨"WaterMen", "menThatAre", "(I)I"⟩, 13) := ⟨⟨by decide +kernel, by decide +kernel⟩, List.mem_of_getElem? (i := 18) (by decide +kernel), List.mem_of_getElem? (i := 824) (by decide +kernel), List.mem_of_getElem? (i := 825) (by decide +kernel)⟩
theorem lw_p19 : lw_okq (⟨"WaterMen", "coinsOfMen", "()I"⟩, 13) := ⟨⟨by decide +kernel, by decide +kernel⟩, List.mem_of_getElem? (i := 18) (by decide +kernel), List.mem_of_getElem? (i := 832) (by decide +kernel), List.mem_of_getElem? (i := 833) (by decide +kernel)⟩
theorem lw_p20 : lw_okq (⟨"WaterMenModel", "flowOf", "(II)I"⟩, 64) := ⟨⟨by decide +kernel, by decide +kernel⟩, List.mem_of_getElem? (i := 864) (by decide +kernel), List.mem_of_getElem? (i := 862) (by decide +kernel), List.mem_of_getElem? (i := 863) (by decide +kernel)⟩
theorem lw_p21 : lw_okq (⟨"WaterMenModel", "levelOf", "(II)I"⟩, 64) := ⟨⟨by decide +kernel, by decide +kernel⟩, List.mem_of_getElem? (i := 864) (by decide +kernel), List.mem_of_getElem? (i := 867) (by decide +kernel), List.mem_of_getElem? (i := 868) (by decide +kernel)⟩
theorem lw_p22 : lw_okq (⟨"WaterMenModel", "today", "()I"⟩, 64) := ⟨⟨by decide +kernel, by decide +kernel⟩, List.mem_of_getElem? (i := 864) (by decide +kernel), List.mem_of_getElem? (i := 875) (by decide +kernel), List.mem_of_getElem? (i := 876) (by decide +kernel)⟩
theorem lw_p23 : lw_okq (⟨"WaterMenModel", "servedOf", "(I)I"⟩, 64) := ⟨⟨by decide +kernel, by decide +kernel⟩, List.mem_of_getElem? (i := 864) (by decide +kernel), List.mem_of_getElem? (i := 1096) (by decide +kernel), List.mem_of_getElem? (i := 1097) (by decide +kernel)⟩
theorem lw_p24 : lw_okq (⟨"WaterMenModel", "rowOf", "(I)I"⟩, 64) := ⟨⟨by decide +kernel, by decide +kernel⟩, List.mem_of_getElem? (i := 864) (by decide +kernel), List.mem_of_getElem? (i := 1108) (by decide +kernel), List.mem_of_getElem? (i := 1109) (by decide +kernel)⟩
theorem lw_p25 : lw_okq (⟨"WaterMenModel", "placeOf", "(I)I"⟩, 64) := ⟨⟨by decide +kernel, by decide +kernel⟩, List.mem_of_getElem? (i := 864) (by decide +kernel), List.mem_of_getElem? (i := 1112) (by decide +kernel), List.mem_of_getElem? (i := 1113) (by decide +kernel)⟩
theorem lw_p26 : lw_okq (⟨"WaterMenModel", "isStairs", "(I)Z"⟩, 64) := ⟨⟨by decide +kernel, by decide +kernel⟩, List.mem_of_getElem? (i := 864) (by decide +kernel), List.mem_of_getElem? (i := 1120) (by decide +kernel), List.mem_of_getElem? (i := 1121) (by decide +kernel)⟩
theorem lw_p27 : lw_okq (⟨"WaterMenModel", "leaves", "(I)V"⟩, 64) := ⟨⟨by decide +kernel, by decide +kernel⟩, List.mem_of_getElem? (i := 864) (by decide +kernel), List.mem_of_getElem? (i := 1128) (by decide +kernel), List.mem_of_getElem? (i := 1129) (by decide +kernel)⟩
theorem lw_p28 : lw_okq (⟨"WaterMenModel", "isBoat", "(I)Z"⟩, 64) := ⟨⟨by decide +kernel, by decide +kernel⟩, List.mem_of_getElem? (i := 864) (by decide +kernel), List.mem_of_getElem? (i := 1140) (by decide +kernel), List.mem_of_getElem? (i := 1141) (by decide +kernel)⟩
theorem lw_p29 : lw_okq (⟨"WaterMenModel", "four", "(I)V"⟩, 64) := ⟨⟨by decide +kernel, by decide +kernel⟩, List.mem_of_getElem? (i := 864) (by decide +kernel), List.mem_of_getElem? (i := 1148) (by decide +kernel), List.mem_of_getElem? (i := 1149) (by decide +kernel)⟩
theorem lw_p30 : lw_okq (⟨"WaterMenModel", "advance", "()V"⟩, 64) := ⟨⟨by decide +kernel, by decide +kernel⟩, List.mem_of_getElem? (i := 864) (by decide +kernel), List.mem_of_getElem? (i := 1160) (by decide +kernel), List.mem_of_getElem? (i := 1161) (by decide +kernel)⟩
theorem lw_p31 : lw_okq (⟨"WaterMenModel", "line", "(I)Z"⟩, 64) := ⟨⟨by decide +kernel, by decide +kernel⟩, List.mem_of_getElem? (i := 864) (by decide +kernel), List.mem_of_getElem? (i := 1186) (by decide +kernel), List.mem_of_getElem? (i := 1187) (by decide +kernel)⟩
def lw_privs_2 : List (MethodName × Nat) := [(⟨"WaterMen", "dueOf", "(LWaterMen$Trip;I)I"⟩, 13), (⟨"WaterMen", "overpaid", "(LWaterMen$Trip;I)I"⟩, 13), (⟨"WaterMen", "menThatAre", "(I)I"⟩, 13), (⟨"WaterMen", "coinsOfMen", "()I"⟩, 13), (⟨"WaterMenModel", "flowOf", "(II)I"⟩, 64), (⟨"WaterMenModel", "levelOf", "(II)I"⟩, 64), (⟨"WaterMenModel", "today", "()I"⟩, 64), (⟨"WaterMenModel", "servedOf", "(I)I"⟩, 64), (⟨"WaterMenModel", "rowOf", "(I)I"⟩, 64), (⟨"WaterMenModel", "placeOf", "(I)I"⟩, 64), (⟨"WaterMenModel", "isStairs", "(I)Z"⟩, 64), (⟨"WaterMenModel", "leaves", "(I)V"⟩, 64), (⟨"WaterMenModel", "isBoat", "(I)Z"⟩, 64), (⟨"WaterMenModel", "four", "(I)V"⟩, 64), (⟨"WaterMenModel", "advance", "()V"⟩, 64), (⟨"WaterMenModel", "line", "(I)Z"⟩, 64)]
theorem lw_r2 : ∀ q ∈ lw_privs_2, lw_okq q := List.forall_mem_cons.mpr ⟨lw_p16, List.forall_mem_cons.mpr ⟨lw_p17, List.forall_mem_cons.mpr ⟨lw_p18, List.forall_mem_cons.mpr ⟨lw_p19, List.forall_mem_cons.mpr ⟨lw_p20, List.forall_mem_cons.mpr ⟨lw_p21, List.forall_mem_cons.mpr ⟨lw_p22, List.forall_mem_cons.mpr ⟨lw_p23, List.forall_mem_cons.mpr ⟨lw_p24, List.forall_mem_cons.mpr ⟨lw_p25, List.forall_mem_cons.mpr ⟨lw_p26, List.forall_mem_cons.mpr ⟨lw_p27, List.forall_mem_cons.mpr ⟨lw_p28, List.forall_mem_cons.mpr ⟨lw_p29, List.forall_mem_cons.mpr ⟨lw_p30, List.forall_mem_cons.mpr ⟨lw_p31, fun _ h => absurd h List.not_mem_nil⟩⟩⟩⟩⟩⟩⟩⟩⟩⟩⟩⟩⟩⟩⟩⟩
theorem lw_p32 : lw_okq (⟨"WaterMenModel", "takes", "(I)Z"⟩, 64) := ⟨⟨by decide +kernel, by decide +kernel⟩, List.mem_of_getElem? (i := 864) (by decide +kernel), List.mem_of_getElem? (i := 1190) (by decide +kernel), List.mem_of_getElem? (i := 1191) (by decide +kernel)⟩
theorem lw_p33 : lw_okq (⟨"WaterMenModel", "forceOn", "(II)I"⟩, 64) := ⟨⟨by decide +kernel, by decide +kernel⟩, List.mem_of_getElem? (i := 864) (by decide +kernel), List.mem_of_getElem? (i := 1198) (by decide +kernel), List.mem_of_getElem? (i := 1199) (by decide +kernel)⟩
theorem lw_p34 : lw_okq (⟨"WaterMenModel", "fareOf", "(IIIIII)I"⟩, 64) := ⟨⟨by decide +kernel, by decide +kernel⟩, List.mem_of_getElem? (i := 864) (by decide +kernel), List.mem_of_getElem? (i := 1206) (by decide +kernel), List.mem_of_getElem? (i := 1207) (by decide +kernel)⟩
theorem lw_p35 : lw_okq (⟨"WaterMenModel", "lineOf", "(II)I"⟩, 64) := ⟨⟨by decide +kernel, by decide +kernel⟩, List.mem_of_getElem? (i := 864) (by decide +kernel), List.mem_of_getElem? (i := 1210) (by decide +kernel), List.mem_of_getElem? (i := 1211) (by decide +kernel)⟩
theorem lw_p36 : lw_okq (⟨"WaterMenModel", "isAsked", "(III)Z"⟩, 64) := ⟨⟨by decide +kernel, by decide +kernel⟩, List.mem_of_getElem? (i := 864) (by decide +kernel), List.mem_of_getElem? (i := 1224) (by decide +kernel), List.mem_of_getElem? (i := 1225) (by decide +kernel)⟩
theorem lw_p37 : lw_okq (⟨"WaterMenModel", "hinders", "(III)I"⟩, 64) := ⟨⟨by decide +kernel, by decide +kernel⟩, List.mem_of_getElem? (i := 864) (by decide +kernel), List.mem_of_getElem? (i := 1228) (by decide +kernel), List.mem_of_getElem? (i := 1229) (by decide +kernel)⟩
theorem lw_p38 : lw_okq (⟨"WaterMenModel", "hourNow", "()I"⟩, 64) := ⟨⟨by decide +kernel, by decide +kernel⟩, List.mem_of_getElem? (i := 864) (by decide +kernel), List.mem_of_getElem? (i := 1232) (by decide +kernel), List.mem_of_getElem? (i := 1233) (by decide +kernel)⟩
theorem lw_p39 : lw_okq (⟨"WaterMenModel", "minutesOf", "(II)I"⟩, 64) := ⟨⟨by decide +kernel, by decide +kernel⟩, List.mem_of_getElem? (i := 864) (by decide +kernel), List.mem_of_getElem? (i := 1236) (by decide +kernel), List.mem_of_getElem? (i := 1237) (by decide +kernel)⟩
theorem lw_p40 : lw_okq (⟨"WaterMenModel", "arrive", "()V"⟩, 64) := ⟨⟨by decide +kernel, by decide +kernel⟩, List.mem_of_getElem? (i := 864) (by decide +kernel), List.mem_of_getElem? (i := 1249) (by decide +kernel), List.mem_of_getElem? (i := 1250) (by decide +kernel)⟩
theorem lw_p41 : lw_okq (⟨"WaterMenModel", "part", "(I)V"⟩, 64) := ⟨⟨by decide +kernel, by decide +kernel⟩, List.mem_of_getElem? (i := 864) (by decide +kernel), List.mem_of_getElem? (i := 1253) (by decide +kernel), List.mem_of_getElem? (i := 1254) (by decide +kernel)⟩
theorem lw_p42 : lw_okq (⟨"WaterMenModel", "pay", "(I)V"⟩, 64) := ⟨⟨by decide +kernel, by decide +kernel⟩, List.mem_of_getElem? (i := 864) (by decide +kernel), List.mem_of_getElem? (i := 1257) (by decide +kernel), List.mem_of_getElem? (i := 1258) (by decide +kernel)⟩
theorem lw_p43 : lw_okq (⟨"WaterMenModel", "newPensioner", "(II)I"⟩, 64) := ⟨⟨by decide +kernel, by decide +kernel⟩, List.mem_of_getElem? (i := 864) (by decide +kernel), List.mem_of_getElem? (i := 1268) (by decide +kernel), List.mem_of_getElem? (i := 1269) (by decide +kernel)⟩
theorem lw_p44 : lw_okq (⟨"WaterMenModel", "dueOf", "(II)I"⟩, 64) := ⟨⟨by decide +kernel, by decide +kernel⟩, List.mem_of_getElem? (i := 864) (by decide +kernel), List.mem_of_getElem? (i := 1280) (by decide +kernel), List.mem_of_getElem? (i := 1281) (by decide +kernel)⟩
theorem lw_p45 : lw_okq (⟨"WaterMenModel", "menAs", "(I)I"⟩, 64) := ⟨⟨by decide +kernel, by decide +kernel⟩, List.mem_of_getElem? (i := 864) (by decide +kernel), List.mem_of_getElem? (i := 1304) (by decide +kernel), List.mem_of_getElem? (i := 1305) (by decide +kernel)⟩
def lw_privs_3 : List (MethodName × Nat) := [(⟨"WaterMenModel", "takes", "(I)Z"⟩, 64), (⟨"WaterMenModel", "forceOn", "(II)I"⟩, 64), (⟨"WaterMenModel", "fareOf", "(IIIIII)I"⟩, 64), (⟨"WaterMenModel", "lineOf", "(II)I"⟩, 64), (⟨"WaterMenModel", "isAsked", "(III)Z"⟩, 64), (⟨"WaterMenModel", "hinders", "(III)I"⟩, 64), (⟨"WaterMenModel", "hourNow", "()I"⟩, 64), (⟨"WaterMenModel", "minutesOf", "(II)I"⟩, 64), (⟨"WaterMenModel", "arrive", "()V"⟩, 64), (⟨"WaterMenModel", "part", "(I)V"⟩, 64), (⟨"WaterMenModel", "pay", "(I)V"⟩, 64), (⟨"WaterMenModel", "newPensioner", "(II)I"⟩, 64), (⟨"WaterMenModel", "dueOf", "(II)I"⟩, 64), (⟨"WaterMenModel", "menAs", "(I)I"⟩, 64)]
theorem lw_r3 : ∀ q ∈ lw_privs_3, lw_okq q := List.forall_mem_cons.mpr ⟨lw_p32, List.forall_mem_cons.mpr ⟨lw_p33, List.forall_mem_cons.mpr ⟨lw_p34, List.forall_mem_cons.mpr ⟨lw_p35, List.forall_mem_cons.mpr ⟨lw_p36, List.forall_mem_cons.mpr ⟨lw_p37, List.forall_mem_cons.mpr ⟨lw_p38, List.forall_mem_cons.mpr ⟨lw_p39, List.forall_mem_cons.mpr ⟨lw_p40, List.forall_mem_cons.mpr ⟨lw_p41, List.forall_mem_cons.mpr ⟨lw_p42, List.forall_mem_cons.mpr ⟨lw_p43, List.forall_mem_cons.mpr ⟨lw_p44, List.forall_mem_cons.mpr ⟨lw_p45, fun _ h => absurd h List.not_mem_nil⟩⟩⟩⟩⟩⟩⟩⟩⟩⟩⟩⟩⟩⟩
def lw_privs : List (MethodName × Nat) := lw_privs_1 ++ (lw_privs_2 ++ (lw_privs_3))
def lw_tbl : List Cond := k2_sels lw_privs ++ tables_1
theorem lw_privs_ok : ∀ q ∈ lw_privs, lw_okq q := by
  show ∀ q ∈ lw_privs_1 ++ (lw_privs_2 ++ (lw_privs_3)), lw_okq q
  exact List.forall_mem_append.mpr ⟨lw_r1, List.forall_mem_append.mpr ⟨lw_r2, lw_r3⟩⟩
end
section
def R_WM : String := "WaterMen"
def F_WM : u_T := fun k => match k with
  | 0 => ("WaterMen", "river", "LWaterMen$River;", true)
  | 1 => ("WaterMen", "men", "[LWaterMen$Man;", true)
  | 2 => ("WaterMen", "boats", "[LWaterMen$Boat;", true)
  | 3 => ("WaterMen", "orders", "[LWaterMen$Order;", true)
  | 4 => ("WaterMen", "trips", "[LWaterMen$Trip;", true)
  | 5 => ("WaterMen", "tape", "LWaterMen$Tape;", true)
  | 6 => ("WaterMen", "box", "LWaterMen$Box;", true)
  | 7 => ("WaterMen", "boatCount", "I", false)
  | 8 => ("WaterMen", "orderCount", "I", false)
  | 9 => ("WaterMen", "tripCount", "I", false)
  | 10 => ("WaterMen", "now", "I", false)
  | 11 => ("WaterMen", "joins", "I", false)
  | _ => ("WaterMen", "draft", "LWaterMen$Order;", false)
def t_WM : Nat → FieldType := fun k => match k with
  | 0 => .object "WaterMen$River"
  | 1 => .array (.object "WaterMen$Man")
  | 2 => .array (.object "WaterMen$Boat")
  | 3 => .array (.object "WaterMen$Order")
  | 4 => .array (.object "WaterMen$Trip")
  | 5 => .object "WaterMen$Tape"
  | 6 => .object "WaterMen$Box"
  | 7 => .int
  | 8 => .int
  | 9 => .int
  | 10 => .int
  | 11 => .int
  | _ => .object "WaterMen$Order"
abbrev b_WM_init : ByteArray := prog_1_method_1_code
def y_WM_init : MethodName := ⟨R_WM, "<init>", "()V"⟩
abbrev b_WM_stairs : ByteArray := prog_1_method_2_code
def y_WM_stairs : MethodName := ⟨R_WM, "stairs", "(I)I"⟩
abbrev b_WM_bridge : ByteArray := prog_1_method_3_code
def y_WM_bridge : MethodName := ⟨R_WM, "bridge", "(I)I"⟩
abbrev b_WM_level : ByteArray := prog_1_method_4_code
def y_WM_level : MethodName := ⟨R_WM, "level", "(III)I"⟩
abbrev b_WM_table : ByteArray := prog_1_method_5_code
def y_WM_table : MethodName := ⟨R_WM, "table", "(II)I"⟩
abbrev b_WM_flow : ByteArray := prog_1_method_6_code
def y_WM_flow : MethodName := ⟨R_WM, "flow", "(II)I"⟩
abbrev b_WM_frost : ByteArray := prog_1_method_7_code
def y_WM_frost : MethodName := ⟨R_WM, "frost", "(II)I"⟩
abbrev b_WM_free : ByteArray := prog_1_method_8_code
def y_WM_free : MethodName := ⟨R_WM, "free", "(I)I"⟩
abbrev b_WM_bind : ByteArray := prog_1_method_9_code
def y_WM_bind : MethodName := ⟨R_WM, "bind", "(II)I"⟩
abbrev b_WM_absent : ByteArray := prog_1_method_10_code
def y_WM_absent : MethodName := ⟨R_WM, "absent", "(III)I"⟩
abbrev b_WM_served : ByteArray := prog_1_method_11_code
def y_WM_served : MethodName := ⟨R_WM, "served", "(I)I"⟩
abbrev b_WM_pass : ByteArray := prog_1_method_12_code
def y_WM_pass : MethodName := ⟨R_WM, "pass", "(I)I"⟩
abbrev b_WM_man : ByteArray := prog_1_method_13_code
def y_WM_man : MethodName := ⟨R_WM, "man", "(II)I"⟩
abbrev b_WM_boat : ByteArray := prog_1_method_14_code
def y_WM_boat : MethodName := ⟨R_WM, "boat", "(II)I"⟩
abbrev b_WM_craft : ByteArray := prog_1_method_15_code
def y_WM_craft : MethodName := ⟨R_WM, "craft", "(II)I"⟩
abbrev b_WM_join : ByteArray := prog_1_method_16_code
def y_WM_join : MethodName := ⟨R_WM, "join", "(II)I"⟩
abbrev b_WM_leave : ByteArray := prog_1_method_17_code
def y_WM_leave : MethodName := ⟨R_WM, "leave", "(I)I"⟩
abbrev b_WM_feed : ByteArray := prog_1_method_18_code
def y_WM_feed : MethodName := ⟨R_WM, "feed", "(IIIII)I"⟩
abbrev b_WM_end : ByteArray := prog_1_method_19_code
def y_WM_end : MethodName := ⟨R_WM, "end", "(I)I"⟩
abbrev b_WM_order : ByteArray := prog_1_method_20_code
def y_WM_order : MethodName := ⟨R_WM, "order", "(I)I"⟩
abbrev b_WM_inForce : ByteArray := prog_1_method_21_code
def y_WM_inForce : MethodName := ⟨R_WM, "inForce", "(II)I"⟩
abbrev b_WM_fare : ByteArray := prog_1_method_22_code
def y_WM_fare : MethodName := ⟨R_WM, "fare", "(IIIII)I"⟩
abbrev b_WM_why : ByteArray := prog_1_method_23_code
def y_WM_why : MethodName := ⟨R_WM, "why", "(III)I"⟩
abbrev b_WM_row : ByteArray := prog_1_method_24_code
def y_WM_row : MethodName := ⟨R_WM, "row", "(IIII)I"⟩
abbrev b_WM_minutes : ByteArray := prog_1_method_25_code
def y_WM_minutes : MethodName := ⟨R_WM, "minutes", "(I)I"⟩
abbrev b_WM_sink : ByteArray := prog_1_method_26_code
def y_WM_sink : MethodName := ⟨R_WM, "sink", "(III)I"⟩
abbrev b_WM_trip : ByteArray := prog_1_method_27_code
def y_WM_trip : MethodName := ⟨R_WM, "trip", "(II)I"⟩
abbrev b_WM_due : ByteArray := prog_1_method_28_code
def y_WM_due : MethodName := ⟨R_WM, "due", "(II)I"⟩
abbrev b_WM_over : ByteArray := prog_1_method_29_code
def y_WM_over : MethodName := ⟨R_WM, "over", "(II)I"⟩
abbrev b_WM_pension : ByteArray := prog_1_method_30_code
def y_WM_pension : MethodName := ⟨R_WM, "pension", "(II)I"⟩
abbrev b_WM_foretold : ByteArray := prog_1_method_31_code
def y_WM_foretold : MethodName := ⟨R_WM, "foretold", "()I"⟩
abbrev b_WM_pensioner : ByteArray := prog_1_method_32_code
def y_WM_pensioner : MethodName := ⟨R_WM, "pensioner", "(II)I"⟩
abbrev b_WM_count : ByteArray := prog_1_method_33_code
def y_WM_count : MethodName := ⟨R_WM, "count", "(I)I"⟩
abbrev b_WM_coins : ByteArray := prog_1_method_34_code
def y_WM_coins : MethodName := ⟨R_WM, "coins", "(I)I"⟩
abbrev b_WM_today : ByteArray := prog_1_method_35_code
def y_WM_today : MethodName := ⟨R_WM, "today", "()I"⟩
abbrev b_WM_isDay : ByteArray := prog_1_method_36_code
def y_WM_isDay : MethodName := ⟨R_WM, "isDay", "(I)Z"⟩
abbrev b_WM_isHour : ByteArray := prog_1_method_37_code
def y_WM_isHour : MethodName := ⟨R_WM, "isHour", "(I)Z"⟩
abbrev b_WM_isLevel : ByteArray := prog_1_method_38_code
def y_WM_isLevel : MethodName := ⟨R_WM, "isLevel", "(I)Z"⟩
abbrev b_WM_isOars : ByteArray := prog_1_method_39_code
def y_WM_isOars : MethodName := ⟨R_WM, "isOars", "(I)Z"⟩
abbrev b_WM_isPension : ByteArray := prog_1_method_40_code
def y_WM_isPension : MethodName := ⟨R_WM, "isPension", "(II)Z"⟩
abbrev b_WM_isSunday : ByteArray := prog_1_method_41_code
def y_WM_isSunday : MethodName := ⟨R_WM, "isSunday", "(I)Z"⟩
abbrev b_WM_manAt : ByteArray := prog_1_method_42_code
def y_WM_manAt : MethodName := ⟨R_WM, "manAt", "(I)LWaterMen$Man;"⟩
abbrev b_WM_boatAt : ByteArray := prog_1_method_43_code
def y_WM_boatAt : MethodName := ⟨R_WM, "boatAt", "(I)LWaterMen$Boat;"⟩
abbrev b_WM_orderAt : ByteArray := prog_1_method_44_code
def y_WM_orderAt : MethodName := ⟨R_WM, "orderAt", "(I)LWaterMen$Order;"⟩
abbrev b_WM_tripAt : ByteArray := prog_1_method_45_code
def y_WM_tripAt : MethodName := ⟨R_WM, "tripAt", "(I)LWaterMen$Trip;"⟩
abbrev b_WM_placeInTurns : ByteArray := prog_1_method_46_code
def y_WM_placeInTurns : MethodName := ⟨R_WM, "placeInTurns", "(LWaterMen$Man;)I"⟩
abbrev b_WM_hasTurns : ByteArray := prog_1_method_47_code
def y_WM_hasTurns : MethodName := ⟨R_WM, "hasTurns", "(I)Z"⟩
abbrev b_WM_mustWait : ByteArray := prog_1_method_48_code
def y_WM_mustWait : MethodName := ⟨R_WM, "mustWait", "(LWaterMen$Man;I)Z"⟩
abbrev b_WM_menThatAre : ByteArray := prog_1_method_49_code
def y_WM_menThatAre : MethodName := ⟨R_WM, "menThatAre", "(I)I"⟩
abbrev b_WM_coinsOfMen : ByteArray := prog_1_method_50_code
def y_WM_coinsOfMen : MethodName := ⟨R_WM, "coinsOfMen", "()I"⟩
abbrev b_WM_numberInForce : ByteArray := prog_1_method_51_code
def y_WM_numberInForce : MethodName := ⟨R_WM, "numberInForce", "(II)I"⟩
abbrev b_WM_priceOf : ByteArray := prog_1_method_52_code
def y_WM_priceOf : MethodName := ⟨R_WM, "priceOf", "(LWaterMen$Order;IIII)I"⟩
abbrev b_WM_dueOf : ByteArray := prog_1_method_53_code
def y_WM_dueOf : MethodName := ⟨R_WM, "dueOf", "(LWaterMen$Trip;I)I"⟩
abbrev b_WM_overpaid : ByteArray := prog_1_method_54_code
def y_WM_overpaid : MethodName := ⟨R_WM, "overpaid", "(LWaterMen$Trip;I)I"⟩
abbrev b_WM_mayGoTo : ByteArray := prog_1_method_55_code
def y_WM_mayGoTo : MethodName := ⟨R_WM, "mayGoTo", "(LWaterMen$Boat;I)Z"⟩
abbrev b_WM_hindrance : ByteArray := prog_1_method_56_code
def y_WM_hindrance : MethodName := ⟨R_WM, "hindrance", "(LWaterMen$Boat;LWaterMen$Man;I)I"⟩
abbrev b_WM_hourNow : ByteArray := prog_1_method_57_code
def y_WM_hourNow : MethodName := ⟨R_WM, "hourNow", "()I"⟩
abbrev b_WM_minutesOfWay : ByteArray := prog_1_method_58_code
def y_WM_minutesOfWay : MethodName := ⟨R_WM, "minutesOfWay", "(LWaterMen$Boat;I)I"⟩
abbrev b_WM_takeMoney : ByteArray := prog_1_method_59_code
def y_WM_takeMoney : MethodName := ⟨R_WM, "takeMoney", "(LWaterMen$Man;I)V"⟩
abbrev b_WM_partPot : ByteArray := prog_1_method_60_code
def y_WM_partPot : MethodName := ⟨R_WM, "partPot", "(I)V"⟩
def R_Rv : String := "WaterMen$River"
def F_Rv : u_T := fun k => match k with
  | 0 => ("WaterMen$River", "milesUp", "[I", true)
  | 1 => ("WaterMen$River", "table", "[I", true)
  | 2 => ("WaterMen$River", "rows", "[[I", true)
  | 3 => ("WaterMen$River", "frozen", "[Z", true)
  | 4 => ("WaterMen$River", "stairCount", "I", false)
  | _ => ("WaterMen$River", "bridgeAbove", "I", false)
def t_Rv : Nat → FieldType := fun k => match k with
  | 0 => .array (.int)
  | 1 => .array (.int)
  | 2 => .array (.array (.int))
  | 3 => .array (.boolean)
  | 4 => .int
  | _ => .int
abbrev b_Rv_init : ByteArray := prog_8_method_1_code
def y_Rv_init : MethodName := ⟨R_Rv, "<init>", "()V"⟩
abbrev b_Rv_isFrozen : ByteArray := prog_8_method_2_code
def y_Rv_isFrozen : MethodName := ⟨R_Rv, "isFrozen", "(I)Z"⟩
abbrev b_Rv_hasStairs : ByteArray := prog_8_method_3_code
def y_Rv_hasStairs : MethodName := ⟨R_Rv, "hasStairs", "(I)Z"⟩
abbrev b_Rv_highest : ByteArray := prog_8_method_4_code
def y_Rv_highest : MethodName := ⟨R_Rv, "highest", "()I"⟩
abbrev b_Rv_addStairs : ByteArray := prog_8_method_5_code
def y_Rv_addStairs : MethodName := ⟨R_Rv, "addStairs", "(I)I"⟩
abbrev b_Rv_distance : ByteArray := prog_8_method_6_code
def y_Rv_distance : MethodName := ⟨R_Rv, "distance", "(II)I"⟩
abbrev b_Rv_passesBridge : ByteArray := prog_8_method_7_code
def y_Rv_passesBridge : MethodName := ⟨R_Rv, "passesBridge", "(II)Z"⟩
abbrev b_Rv_tell : ByteArray := prog_8_method_8_code
def y_Rv_tell : MethodName := ⟨R_Rv, "tell", "(III)V"⟩
abbrev b_Rv_height : ByteArray := prog_8_method_9_code
def y_Rv_height : MethodName := ⟨R_Rv, "height", "(II)I"⟩
abbrev b_Rv_flowIn : ByteArray := prog_8_method_10_code
def y_Rv_flowIn : MethodName := ⟨R_Rv, "flowIn", "(II)I"⟩
abbrev b_Rv_drift : ByteArray := prog_8_method_11_code
def y_Rv_drift : MethodName := ⟨R_Rv, "drift", "(IIII)I"⟩
def R_Mn : String := "WaterMen$Man"
def F_Mn : u_T := fun k => match k with
  | 0 => ("WaterMen$Man", "state", "I", false)
  | 1 => ("WaterMen$Man", "bond", "LWaterMen$Bond;", false)
  | 2 => ("WaterMen$Man", "turnStairs", "I", false)
  | 3 => ("WaterMen$Man", "turnTicket", "I", false)
  | 4 => ("WaterMen$Man", "coins", "I", false)
  | 5 => ("WaterMen$Man", "busyUntil", "I", false)
  | 6 => ("WaterMen$Man", "tripCount", "I", false)
  | _ => ("WaterMen$Man", "lastSunday", "I", false)
def t_Mn : Nat → FieldType := fun k => match k with
  | 0 => .int
  | 1 => .object "WaterMen$Bond"
  | 2 => .int
  | 3 => .int
  | 4 => .int
  | 5 => .int
  | 6 => .int
  | _ => .int
abbrev b_Mn_init : ByteArray := prog_5_method_1_code
def y_Mn_init : MethodName := ⟨R_Mn, "<init>", "()V"⟩
abbrev b_Mn_isOnWay : ByteArray := prog_5_method_2_code
def y_Mn_isOnWay : MethodName := ⟨R_Mn, "isOnWay", "(I)Z"⟩
abbrev b_Mn_setOut : ByteArray := prog_5_method_3_code
def y_Mn_setOut : MethodName := ⟨R_Mn, "setOut", "(I)V"⟩
def R_Or : String := "WaterMen$Order"
def F_Or : u_T := fun k => match k with
  | 0 => ("WaterMen$Order", "madeOn", "I", false)
  | 1 => ("WaterMen$Order", "inForceFrom", "I", false)
  | 2 => ("WaterMen$Order", "fares", "[I", true)
  | 3 => ("WaterMen$Order", "hours", "[I", true)
  | 4 => ("WaterMen$Order", "single", "[I", true)
  | 5 => ("WaterMen$Order", "fareCount", "I", false)
  | 6 => ("WaterMen$Order", "hourCount", "I", false)
  | 7 => ("WaterMen$Order", "bridgeOpens", "I", false)
  | _ => ("WaterMen$Order", "bridgeShuts", "I", false)
def t_Or : Nat → FieldType := fun k => match k with
  | 0 => .int
  | 1 => .int
  | 2 => .array (.int)
  | 3 => .array (.int)
  | 4 => .array (.int)
  | 5 => .int
  | 6 => .int
  | 7 => .int
  | _ => .int
abbrev b_Or_init : ByteArray := prog_6_method_1_code
def y_Or_init : MethodName := ⟨R_Or, "<init>", "()V"⟩
abbrev b_Or_clear : ByteArray := prog_6_method_2_code
def y_Or_clear : MethodName := ⟨R_Or, "clear", "()V"⟩
abbrev b_Or_takesLine : ByteArray := prog_6_method_3_code
def y_Or_takesLine : MethodName := ⟨R_Or, "takesLine", "(I)Z"⟩
abbrev b_Or_addLine : ByteArray := prog_6_method_4_code
def y_Or_addLine : MethodName := ⟨R_Or, "addLine", "(IIII)V"⟩
abbrev b_Or_setLine : ByteArray := prog_6_method_5_code
def y_Or_setLine : MethodName := ⟨R_Or, "setLine", "([IIIII)V"⟩
abbrev b_Or_lineHolds : ByteArray := prog_6_method_6_code
def y_Or_lineHolds : MethodName := ⟨R_Or, "lineHolds", "([III)Z"⟩
abbrev b_Or_price : ByteArray := prog_6_method_7_code
def y_Or_price : MethodName := ⟨R_Or, "price", "(IIIII)I"⟩
abbrev b_Or_basePrice : ByteArray := prog_6_method_8_code
def y_Or_basePrice : MethodName := ⟨R_Or, "basePrice", "(I)I"⟩
abbrev b_Or_scaled : ByteArray := prog_6_method_9_code
def y_Or_scaled : MethodName := ⟨R_Or, "scaled", "(II)I"⟩
abbrev b_Or_shutsBridge : ByteArray := prog_6_method_10_code
def y_Or_shutsBridge : MethodName := ⟨R_Or, "shutsBridge", "(II)Z"⟩
def R_Tp : String := "WaterMen$Tape"
def F_Tp : u_T := fun k => match k with
  | 0 => ("WaterMen$Tape", "bytes", "[B", true)
  | 1 => ("WaterMen$Tape", "length", "I", false)
  | 2 => ("WaterMen$Tape", "sort", "I", false)
  | 3 => ("WaterMen$Tape", "start", "I", false)
  | 4 => ("WaterMen$Tape", "behind", "I", false)
  | _ => ("WaterMen$Tape", "value", "I", false)
def t_Tp : Nat → FieldType := fun k => match k with
  | 0 => .array (.byte)
  | 1 => .int
  | 2 => .int
  | 3 => .int
  | 4 => .int
  | _ => .int
abbrev b_Tp_init : ByteArray := prog_9_method_1_code
def y_Tp_init : MethodName := ⟨R_Tp, "<init>", "()V"⟩
abbrev b_Tp_hasRoomForFive : ByteArray := prog_9_method_2_code
def y_Tp_hasRoomForFive : MethodName := ⟨R_Tp, "hasRoomForFive", "()Z"⟩
abbrev b_Tp_append : ByteArray := prog_9_method_3_code
def y_Tp_append : MethodName := ⟨R_Tp, "append", "(I)V"⟩
abbrev b_Tp_readInto : ByteArray := prog_9_method_4_code
def y_Tp_readInto : MethodName := ⟨R_Tp, "readInto", "(LWaterMen$Order;)I"⟩
abbrev b_Tp_readLine : ByteArray := prog_9_method_5_code
def y_Tp_readLine : MethodName := ⟨R_Tp, "readLine", "(LWaterMen$Order;)Z"⟩
abbrev b_Tp_stepOverNumber : ByteArray := prog_9_method_6_code
def y_Tp_stepOverNumber : MethodName := ⟨R_Tp, "stepOverNumber", "()Z"⟩
abbrev b_Tp_stepOverWord : ByteArray := prog_9_method_7_code
def y_Tp_stepOverWord : MethodName := ⟨R_Tp, "stepOverWord", "(Ljava/lang/String;)Z"⟩
abbrev b_Tp_kindOfLine : ByteArray := prog_9_method_8_code
def y_Tp_kindOfLine : MethodName := ⟨R_Tp, "kindOfLine", "()I"⟩
abbrev b_Tp_isWord : ByteArray := prog_9_method_9_code
def y_Tp_isWord : MethodName := ⟨R_Tp, "isWord", "(Ljava/lang/String;)Z"⟩
abbrev b_Tp_step : ByteArray := prog_9_method_10_code
def y_Tp_step : MethodName := ⟨R_Tp, "step", "()V"⟩
abbrev b_Tp_passLetters : ByteArray := prog_9_method_11_code
def y_Tp_passLetters : MethodName := ⟨R_Tp, "passLetters", "()V"⟩
abbrev b_Tp_passDigits : ByteArray := prog_9_method_12_code
def y_Tp_passDigits : MethodName := ⟨R_Tp, "passDigits", "()V"⟩
abbrev b_Tp_isLetter : ByteArray := prog_9_method_13_code
def y_Tp_isLetter : MethodName := ⟨R_Tp, "isLetter", "(B)Z"⟩
abbrev b_Tp_isDigit : ByteArray := prog_9_method_14_code
def y_Tp_isDigit : MethodName := ⟨R_Tp, "isDigit", "(B)Z"⟩
def R_Bx : String := "WaterMen$Box"
def F_Bx : u_T := fun k => match k with
  | 0 => ("WaterMen$Box", "coins", "I", false)
  | 1 => ("WaterMen$Box", "pot", "I", false)
  | 2 => ("WaterMen$Box", "allPaid", "I", false)
  | 3 => ("WaterMen$Box", "allPensions", "I", false)
  | 4 => ("WaterMen$Box", "income", "[I", true)
  | 5 => ("WaterMen$Box", "pensioners", "[LWaterMen$Pensioner;", true)
  | _ => ("WaterMen$Box", "pensionerCount", "I", false)
def t_Bx : Nat → FieldType := fun k => match k with
  | 0 => .int
  | 1 => .int
  | 2 => .int
  | 3 => .int
  | 4 => .array (.int)
  | 5 => .array (.object "WaterMen$Pensioner")
  | _ => .int
abbrev b_Bx_init : ByteArray := prog_4_method_1_code
def y_Bx_init : MethodName := ⟨R_Bx, "<init>", "()V"⟩
abbrev b_Bx_receive : ByteArray := prog_4_method_2_code
def y_Bx_receive : MethodName := ⟨R_Bx, "receive", "(II)V"⟩
abbrev b_Bx_pensionerAt : ByteArray := prog_4_method_3_code
def y_Bx_pensionerAt : MethodName := ⟨R_Bx, "pensionerAt", "(I)LWaterMen$Pensioner;"⟩
abbrev b_Bx_admit : ByteArray := prog_4_method_4_code
def y_Bx_admit : MethodName := ⟨R_Bx, "admit", "(II)I"⟩
abbrev b_Bx_payPensions : ByteArray := prog_4_method_5_code
def y_Bx_payPensions : MethodName := ⟨R_Bx, "payPensions", "(I)V"⟩
abbrev b_Bx_firstShortDay : ByteArray := prog_4_method_6_code
def y_Bx_firstShortDay : MethodName := ⟨R_Bx, "firstShortDay", "(I)I"⟩
abbrev b_Bx_owedOn : ByteArray := prog_4_method_7_code
def y_Bx_owedOn : MethodName := ⟨R_Bx, "owedOn", "(I)I"⟩
def R_Pn : String := "WaterMen$Pensioner"
def F_Pn : u_T := fun k => match k with
  | 0 => ("WaterMen$Pensioner", "pension", "I", true)
  | 1 => ("WaterMen$Pensioner", "end", "I", true)
  | _ => ("WaterMen$Pensioner", "got", "I", false)
def t_Pn : Nat → FieldType := fun k => match k with
  | 0 => .int
  | 1 => .int
  | _ => .int
abbrev b_Pn_init : ByteArray := prog_7_method_1_code
def y_Pn_init : MethodName := ⟨R_Pn, "<init>", "(II)V"⟩
def R_Md : String := "WaterMenModel"
def F_Md : u_T := fun k => match k with
  | 0 => ("WaterMenModel", "code", "I", false)
  | 1 => ("WaterMenModel", "time", "I", false)
  | 2 => ("WaterMenModel", "stairs", "I", false)
  | 3 => ("WaterMenModel", "miles", "[I", true)
  | 4 => ("WaterMenModel", "bridge", "I", false)
  | 5 => ("WaterMenModel", "table", "[I", true)
  | 6 => ("WaterMenModel", "hasRow", "[Z", true)
  | 7 => ("WaterMenModel", "rows", "[I", true)
  | 8 => ("WaterMenModel", "frosts", "[Z", true)
  | 9 => ("WaterMenModel", "state", "[I", true)
  | 10 => ("WaterMenModel", "master", "[I", true)
  | 11 => ("WaterMenModel", "boundOn", "[I", true)
  | 12 => ("WaterMenModel", "gaps", "[I", true)
  | 13 => ("WaterMenModel", "gapFrom", "[I", true)
  | 14 => ("WaterMenModel", "gapTo", "[I", true)
  | 15 => ("WaterMenModel", "coins", "[I", true)
  | 16 => ("WaterMenModel", "wayOf", "[I", true)
  | 17 => ("WaterMenModel", "tripsOf", "[I", true)
  | 18 => ("WaterMenModel", "shares", "[Z", true)
  | 19 => ("WaterMenModel", "turns", "[I", true)
  | 20 => ("WaterMenModel", "turn", "[I", true)
  | 21 => ("WaterMenModel", "boats", "I", false)
  | 22 => ("WaterMenModel", "boatOars", "[I", true)
  | 23 => ("WaterMenModel", "boatAt", "[I", true)
  | 24 => ("WaterMenModel", "boatFrom", "[I", true)
  | 25 => ("WaterMenModel", "boatTrip", "[I", true)
  | 26 => ("WaterMenModel", "sunk", "[Z", true)
  | 27 => ("WaterMenModel", "tape", "[B", true)
  | 28 => ("WaterMenModel", "taped", "I", false)
  | 29 => ("WaterMenModel", "orders", "I", false)
  | 30 => ("WaterMenModel", "orderFrom", "[I", true)
  | 31 => ("WaterMenModel", "orderMade", "[I", true)
  | 32 => ("WaterMenModel", "fares", "[I", true)
  | 33 => ("WaterMenModel", "fareLow", "[I", true)
  | 34 => ("WaterMenModel", "fareHigh", "[I", true)
  | 35 => ("WaterMenModel", "fareIs", "[I", true)
  | 36 => ("WaterMenModel", "hours", "[I", true)
  | 37 => ("WaterMenModel", "hourLow", "[I", true)
  | 38 => ("WaterMenModel", "hourHigh", "[I", true)
  | 39 => ("WaterMenModel", "hourIs", "[I", true)
  | 40 => ("WaterMenModel", "single", "[I", true)
  | 41 => ("WaterMenModel", "singleTo", "[I", true)
  | 42 => ("WaterMenModel", "at", "I", false)
  | 43 => ("WaterMenModel", "tk", "I", false)
  | 44 => ("WaterMenModel", "tkAt", "I", false)
  | 45 => ("WaterMenModel", "tkNumber", "I", false)
  | 46 => ("WaterMenModel", "got", "I", false)
  | 47 => ("WaterMenModel", "trips", "I", false)
  | 48 => ("WaterMenModel", "tripBoat", "[I", true)
  | 49 => ("WaterMenModel", "tripMan", "[I", true)
  | 50 => ("WaterMenModel", "tripFrom", "[I", true)
  | 51 => ("WaterMenModel", "tripTo", "[I", true)
  | 52 => ("WaterMenModel", "tripBegin", "[I", true)
  | 53 => ("WaterMenModel", "tripThere", "[I", true)
  | 54 => ("WaterMenModel", "tripPaid", "[I", true)
  | 55 => ("WaterMenModel", "sank", "[Z", true)
  | 56 => ("WaterMenModel", "box", "J", false)
  | 57 => ("WaterMenModel", "pot", "J", false)
  | 58 => ("WaterMenModel", "paidOut", "J", false)
  | 59 => ("WaterMenModel", "boxIn", "[J", true)
  | 60 => ("WaterMenModel", "pensioners", "I", false)
  | 61 => ("WaterMenModel", "pensionOf", "[I", true)
  | 62 => ("WaterMenModel", "pensionEnd", "[I", true)
  | _ => ("WaterMenModel", "gotten", "[I", true)
def t_Md : Nat → FieldType := fun k => match k with
  | 0 => .int
  | 1 => .int
  | 2 => .int
  | 3 => .array (.int)
  | 4 => .int
  | 5 => .array (.int)
  | 6 => .array (.boolean)
  | 7 => .array (.int)
  | 8 => .array (.boolean)
  | 9 => .array (.int)
  | 10 => .array (.int)
  | 11 => .array (.int)
  | 12 => .array (.int)
  | 13 => .array (.int)
  | 14 => .array (.int)
  | 15 => .array (.int)
  | 16 => .array (.int)
  | 17 => .array (.int)
  | 18 => .array (.boolean)
  | 19 => .array (.int)
  | 20 => .array (.int)
  | 21 => .int
  | 22 => .array (.int)
  | 23 => .array (.int)
  | 24 => .array (.int)
  | 25 => .array (.int)
  | 26 => .array (.boolean)
  | 27 => .array (.byte)
  | 28 => .int
  | 29 => .int
  | 30 => .array (.int)
  | 31 => .array (.int)
  | 32 => .array (.int)
  | 33 => .array (.int)
  | 34 => .array (.int)
  | 35 => .array (.int)
  | 36 => .array (.int)
  | 37 => .array (.int)
  | 38 => .array (.int)
  | 39 => .array (.int)
  | 40 => .array (.int)
  | 41 => .array (.int)
  | 42 => .int
  | 43 => .int
  | 44 => .int
  | 45 => .int
  | 46 => .int
  | 47 => .int
  | 48 => .array (.int)
  | 49 => .array (.int)
  | 50 => .array (.int)
  | 51 => .array (.int)
  | 52 => .array (.int)
  | 53 => .array (.int)
  | 54 => .array (.int)
  | 55 => .array (.boolean)
  | 56 => .long
  | 57 => .long
  | 58 => .long
  | 59 => .array (.long)
  | 60 => .int
  | 61 => .array (.int)
  | 62 => .array (.int)
  | _ => .array (.int)
abbrev b_Md_in : ByteArray := prog_12_method_2_code
def y_Md_in : MethodName := ⟨R_Md, "in", "(III)Z"⟩
abbrev b_Md_today : ByteArray := prog_12_method_3_code
def y_Md_today : MethodName := ⟨R_Md, "today", "()I"⟩
abbrev b_Md_hourNow : ByteArray := prog_12_method_4_code
def y_Md_hourNow : MethodName := ⟨R_Md, "hourNow", "()I"⟩
abbrev b_Md_isDay : ByteArray := prog_12_method_5_code
def y_Md_isDay : MethodName := ⟨R_Md, "isDay", "(I)Z"⟩
abbrev b_Md_isStairs : ByteArray := prog_12_method_6_code
def y_Md_isStairs : MethodName := ⟨R_Md, "isStairs", "(I)Z"⟩
abbrev b_Md_levelOf : ByteArray := prog_12_method_7_code
def y_Md_levelOf : MethodName := ⟨R_Md, "levelOf", "(II)I"⟩
abbrev b_Md_flowOf : ByteArray := prog_12_method_8_code
def y_Md_flowOf : MethodName := ⟨R_Md, "flowOf", "(II)I"⟩
abbrev b_Md_stairs : ByteArray := prog_12_method_9_code
def y_Md_stairs : MethodName := ⟨R_Md, "stairs", "(I)I"⟩
abbrev b_Md_bridge : ByteArray := prog_12_method_10_code
def y_Md_bridge : MethodName := ⟨R_Md, "bridge", "(I)I"⟩
abbrev b_Md_level : ByteArray := prog_12_method_11_code
def y_Md_level : MethodName := ⟨R_Md, "level", "(III)I"⟩
abbrev b_Md_table : ByteArray := prog_12_method_12_code
def y_Md_table : MethodName := ⟨R_Md, "table", "(II)I"⟩
abbrev b_Md_flow : ByteArray := prog_12_method_13_code
def y_Md_flow : MethodName := ⟨R_Md, "flow", "(II)I"⟩
abbrev b_Md_frost : ByteArray := prog_12_method_14_code
def y_Md_frost : MethodName := ⟨R_Md, "frost", "(II)I"⟩
abbrev b_Md_init : ByteArray := prog_12_method_15_code
def y_Md_init : MethodName := ⟨R_Md, "<init>", "()V"⟩
abbrev b_Md_isMan : ByteArray := prog_12_method_16_code
def y_Md_isMan : MethodName := ⟨R_Md, "isMan", "(I)Z"⟩
abbrev b_Md_free : ByteArray := prog_12_method_17_code
def y_Md_free : MethodName := ⟨R_Md, "free", "(I)I"⟩
abbrev b_Md_bind : ByteArray := prog_12_method_18_code
def y_Md_bind : MethodName := ⟨R_Md, "bind", "(II)I"⟩
abbrev b_Md_absent : ByteArray := prog_12_method_19_code
def y_Md_absent : MethodName := ⟨R_Md, "absent", "(III)I"⟩
abbrev b_Md_servedOf : ByteArray := prog_12_method_20_code
def y_Md_servedOf : MethodName := ⟨R_Md, "servedOf", "(I)I"⟩
abbrev b_Md_served : ByteArray := prog_12_method_21_code
def y_Md_served : MethodName := ⟨R_Md, "served", "(I)I"⟩
abbrev b_Md_pass : ByteArray := prog_12_method_22_code
def y_Md_pass : MethodName := ⟨R_Md, "pass", "(I)I"⟩
abbrev b_Md_rowOf : ByteArray := prog_12_method_23_code
def y_Md_rowOf : MethodName := ⟨R_Md, "rowOf", "(I)I"⟩
abbrev b_Md_placeOf : ByteArray := prog_12_method_24_code
def y_Md_placeOf : MethodName := ⟨R_Md, "placeOf", "(I)I"⟩
abbrev b_Md_leaves : ByteArray := prog_12_method_25_code
def y_Md_leaves : MethodName := ⟨R_Md, "leaves", "(I)V"⟩
abbrev b_Md_man : ByteArray := prog_12_method_26_code
def y_Md_man : MethodName := ⟨R_Md, "man", "(II)I"⟩
abbrev b_Md_join : ByteArray := prog_12_method_27_code
def y_Md_join : MethodName := ⟨R_Md, "join", "(II)I"⟩
abbrev b_Md_leave : ByteArray := prog_12_method_28_code
def y_Md_leave : MethodName := ⟨R_Md, "leave", "(I)I"⟩
abbrev b_Md_isBoat : ByteArray := prog_12_method_29_code
def y_Md_isBoat : MethodName := ⟨R_Md, "isBoat", "(I)Z"⟩
abbrev b_Md_boat : ByteArray := prog_12_method_30_code
def y_Md_boat : MethodName := ⟨R_Md, "boat", "(II)I"⟩
abbrev b_Md_craft : ByteArray := prog_12_method_31_code
def y_Md_craft : MethodName := ⟨R_Md, "craft", "(II)I"⟩
abbrev b_Md_feed : ByteArray := prog_12_method_32_code
def y_Md_feed : MethodName := ⟨R_Md, "feed", "(IIIII)I"⟩
abbrev b_Md_four : ByteArray := prog_12_method_33_code
def y_Md_four : MethodName := ⟨R_Md, "four", "(I)V"⟩
abbrev b_Md_end : ByteArray := prog_12_method_34_code
def y_Md_end : MethodName := ⟨R_Md, "end", "(I)I"⟩
abbrev b_Md_isLetter : ByteArray := prog_12_method_35_code
def y_Md_isLetter : MethodName := ⟨R_Md, "isLetter", "(I)Z"⟩
abbrev b_Md_isDigit : ByteArray := prog_12_method_36_code
def y_Md_isDigit : MethodName := ⟨R_Md, "isDigit", "(I)Z"⟩
abbrev b_Md_advance : ByteArray := prog_12_method_37_code
def y_Md_advance : MethodName := ⟨R_Md, "advance", "()V"⟩
abbrev b_Md_wordOf : ByteArray := prog_12_method_38_code
def y_Md_wordOf : MethodName := ⟨R_Md, "wordOf", "(J)I"⟩
abbrev b_Md_takes : ByteArray := prog_12_method_39_code
def y_Md_takes : MethodName := ⟨R_Md, "takes", "(I)Z"⟩
abbrev b_Md_line : ByteArray := prog_12_method_40_code
def y_Md_line : MethodName := ⟨R_Md, "line", "(I)Z"⟩
abbrev b_Md_order : ByteArray := prog_12_method_41_code
def y_Md_order : MethodName := ⟨R_Md, "order", "(I)I"⟩
abbrev b_Md_forceOn : ByteArray := prog_12_method_42_code
def y_Md_forceOn : MethodName := ⟨R_Md, "forceOn", "(II)I"⟩
abbrev b_Md_inForce : ByteArray := prog_12_method_43_code
def y_Md_inForce : MethodName := ⟨R_Md, "inForce", "(II)I"⟩
abbrev b_Md_lineOf : ByteArray := prog_12_method_44_code
def y_Md_lineOf : MethodName := ⟨R_Md, "lineOf", "(II)I"⟩
abbrev b_Md_by : ByteArray := prog_12_method_45_code
def y_Md_by : MethodName := ⟨R_Md, "by", "(II)I"⟩
abbrev b_Md_fareOf : ByteArray := prog_12_method_46_code
def y_Md_fareOf : MethodName := ⟨R_Md, "fareOf", "(IIIIII)I"⟩
abbrev b_Md_fare : ByteArray := prog_12_method_47_code
def y_Md_fare : MethodName := ⟨R_Md, "fare", "(IIIII)I"⟩
abbrev b_Md_minutesOf : ByteArray := prog_12_method_48_code
def y_Md_minutesOf : MethodName := ⟨R_Md, "minutesOf", "(II)I"⟩
abbrev b_Md_hinders : ByteArray := prog_12_method_49_code
def y_Md_hinders : MethodName := ⟨R_Md, "hinders", "(III)I"⟩
abbrev b_Md_isAsked : ByteArray := prog_12_method_50_code
def y_Md_isAsked : MethodName := ⟨R_Md, "isAsked", "(III)Z"⟩
abbrev b_Md_why : ByteArray := prog_12_method_51_code
def y_Md_why : MethodName := ⟨R_Md, "why", "(III)I"⟩
abbrev b_Md_row : ByteArray := prog_12_method_52_code
def y_Md_row : MethodName := ⟨R_Md, "row", "(IIII)I"⟩
abbrev b_Md_arrive : ByteArray := prog_12_method_53_code
def y_Md_arrive : MethodName := ⟨R_Md, "arrive", "()V"⟩
abbrev b_Md_part : ByteArray := prog_12_method_54_code
def y_Md_part : MethodName := ⟨R_Md, "part", "(I)V"⟩
abbrev b_Md_pay : ByteArray := prog_12_method_55_code
def y_Md_pay : MethodName := ⟨R_Md, "pay", "(I)V"⟩
abbrev b_Md_minutes : ByteArray := prog_12_method_56_code
def y_Md_minutes : MethodName := ⟨R_Md, "minutes", "(I)I"⟩
abbrev b_Md_sink : ByteArray := prog_12_method_57_code
def y_Md_sink : MethodName := ⟨R_Md, "sink", "(III)I"⟩
abbrev b_Md_trip : ByteArray := prog_12_method_58_code
def y_Md_trip : MethodName := ⟨R_Md, "trip", "(II)I"⟩
abbrev b_Md_dueOf : ByteArray := prog_12_method_59_code
def y_Md_dueOf : MethodName := ⟨R_Md, "dueOf", "(II)I"⟩
abbrev b_Md_due : ByteArray := prog_12_method_60_code
def y_Md_due : MethodName := ⟨R_Md, "due", "(II)I"⟩
abbrev b_Md_over : ByteArray := prog_12_method_61_code
def y_Md_over : MethodName := ⟨R_Md, "over", "(II)I"⟩
abbrev b_Md_isPension : ByteArray := prog_12_method_62_code
def y_Md_isPension : MethodName := ⟨R_Md, "isPension", "(II)Z"⟩
abbrev b_Md_newPensioner : ByteArray := prog_12_method_63_code
def y_Md_newPensioner : MethodName := ⟨R_Md, "newPensioner", "(II)I"⟩
abbrev b_Md_pension : ByteArray := prog_12_method_64_code
def y_Md_pension : MethodName := ⟨R_Md, "pension", "(II)I"⟩
abbrev b_Md_foretold : ByteArray := prog_12_method_65_code
def y_Md_foretold : MethodName := ⟨R_Md, "foretold", "()I"⟩
abbrev b_Md_pensioner : ByteArray := prog_12_method_66_code
def y_Md_pensioner : MethodName := ⟨R_Md, "pensioner", "(II)I"⟩
abbrev b_Md_menAs : ByteArray := prog_12_method_67_code
def y_Md_menAs : MethodName := ⟨R_Md, "menAs", "(I)I"⟩
abbrev b_Md_count : ByteArray := prog_12_method_68_code
def y_Md_count : MethodName := ⟨R_Md, "count", "(I)I"⟩
abbrev b_Md_coins : ByteArray := prog_12_method_69_code
def y_Md_coins : MethodName := ⟨R_Md, "coins", "(I)I"⟩
def R_Bd : String := "WaterMen$Bond"
def F_Bd : u_T := fun k => match k with
  | 0 => ("WaterMen$Bond", "master", "I", true)
  | 1 => ("WaterMen$Bond", "since", "I", true)
  | 2 => ("WaterMen$Bond", "gapFrom", "[I", true)
  | 3 => ("WaterMen$Bond", "gapTo", "[I", true)
  | _ => ("WaterMen$Bond", "gapCount", "I", false)
def t_Bd : Nat → FieldType := fun k => match k with
  | 0 => .int
  | 1 => .int
  | 2 => .array (.int)
  | 3 => .array (.int)
  | _ => .int
abbrev b_Bd_init : ByteArray := prog_3_method_1_code
def y_Bd_init : MethodName := ⟨R_Bd, "<init>", "(II)V"⟩
abbrev b_Bd_meetsGap : ByteArray := prog_3_method_2_code
def y_Bd_meetsGap : MethodName := ⟨R_Bd, "meetsGap", "(II)Z"⟩
abbrev b_Bd_addGap : ByteArray := prog_3_method_3_code
def y_Bd_addGap : MethodName := ⟨R_Bd, "addGap", "(II)I"⟩
abbrev b_Bd_daysServed : ByteArray := prog_3_method_4_code
def y_Bd_daysServed : MethodName := ⟨R_Bd, "daysServed", "(I)I"⟩
def R_Bt : String := "WaterMen$Boat"
def F_Bt : u_T := fun k => match k with
  | 0 => ("WaterMen$Boat", "oars", "I", true)
  | 1 => ("WaterMen$Boat", "stairs", "I", false)
  | 2 => ("WaterMen$Boat", "thereFrom", "I", false)
  | 3 => ("WaterMen$Boat", "rower", "I", false)
  | 4 => ("WaterMen$Boat", "lastTrip", "I", false)
  | _ => ("WaterMen$Boat", "sunk", "Z", false)
def t_Bt : Nat → FieldType := fun k => match k with
  | 0 => .int
  | 1 => .int
  | 2 => .int
  | 3 => .int
  | 4 => .int
  | _ => .boolean
abbrev b_Bt_init : ByteArray := prog_2_method_1_code
def y_Bt_init : MethodName := ⟨R_Bt, "<init>", "(II)V"⟩
abbrev b_Bt_stateAt : ByteArray := prog_2_method_2_code
def y_Bt_stateAt : MethodName := ⟨R_Bt, "stateAt", "(I)I"⟩
abbrev b_Bt_setOut : ByteArray := prog_2_method_3_code
def y_Bt_setOut : MethodName := ⟨R_Bt, "setOut", "(LWaterMen$Trip;I)V"⟩
def R_Tr : String := "WaterMen$Trip"
def F_Tr : u_T := fun k => match k with
  | 0 => ("WaterMen$Trip", "boat", "I", true)
  | 1 => ("WaterMen$Trip", "man", "I", true)
  | 2 => ("WaterMen$Trip", "start", "I", true)
  | 3 => ("WaterMen$Trip", "paid", "I", true)
  | 4 => ("WaterMen$Trip", "from", "I", false)
  | 5 => ("WaterMen$Trip", "to", "I", false)
  | 6 => ("WaterMen$Trip", "arrival", "I", false)
  | _ => ("WaterMen$Trip", "sank", "Z", false)
def t_Tr : Nat → FieldType := fun k => match k with
  | 0 => .int
  | 1 => .int
  | 2 => .int
  | 3 => .int
  | 4 => .int
  | 5 => .int
  | 6 => .int
  | _ => .boolean
abbrev b_Tr_init : ByteArray := prog_10_method_1_code
def y_Tr_init : MethodName := ⟨R_Tr, "<init>", "(IIII)V"⟩
abbrev vwCl : List vw_C := [(R_WM, F_WM, 13), (R_Rv, F_Rv, 6), (R_Mn, F_Mn, 8), (R_Or, F_Or, 9), (R_Tp, F_Tp, 6), (R_Bx, F_Bx, 7), (R_Pn, F_Pn, 3), (R_Md, F_Md, 64), (R_Bd, F_Bd, 5), (R_Bt, F_Bt, 6), (R_Tr, F_Tr, 8)]
theorem n_WM : ∀ a, a < 13 → ∀ b, b < 13 → a ≠ b → (F_WM a).2.1 ≠ (F_WM b).2.1 := by decide +kernel
theorem t_WM_ok : ∀ k, k < 13 → parseFieldDescriptor (F_WM k).2.2.1 = some (t_WM k) := by decide +kernel
theorem df_WM : ∀ j, j < 13 → defaultValue (t_WM j) = vp_V [.null, .null, .null, .null, .null, .null, .null, .int 0, .int 0, .int 0, .int 0, .int 0, .null] j := by decide +kernel
theorem n_Rv : ∀ a, a < 6 → ∀ b, b < 6 → a ≠ b → (F_Rv a).2.1 ≠ (F_Rv b).2.1 := by decide +kernel
theorem t_Rv_ok : ∀ k, k < 6 → parseFieldDescriptor (F_Rv k).2.2.1 = some (t_Rv k) := by decide +kernel
theorem df_Rv : ∀ j, j < 6 → defaultValue (t_Rv j) = vp_V [.null, .null, .null, .null, .int 0, .int 0] j := by decide +kernel
theorem n_Mn : ∀ a, a < 8 → ∀ b, b < 8 → a ≠ b → (F_Mn a).2.1 ≠ (F_Mn b).2.1 := by decide +kernel
theorem t_Mn_ok : ∀ k, k < 8 → parseFieldDescriptor (F_Mn k).2.2.1 = some (t_Mn k) := by decide +kernel
theorem df_Mn : ∀ j, j < 8 → defaultValue (t_Mn j) = vp_V [.int 0, .null, .int 0, .int 0, .int 0, .int 0, .int 0, .int 0] j := by decide +kernel
theorem n_Or : ∀ a, a < 9 → ∀ b, b < 9 → a ≠ b → (F_Or a).2.1 ≠ (F_Or b).2.1 := by decide +kernel
theorem t_Or_ok : ∀ k, k < 9 → parseFieldDescriptor (F_Or k).2.2.1 = some (t_Or k) := by decide +kernel
theorem df_Or : ∀ j, j < 9 → defaultValue (t_Or j) = vp_V [.int 0, .int 0, .null, .null, .null, .int 0, .int 0, .int 0, .int 0] j := by decide +kernel
theorem n_Tp : ∀ a, a < 6 → ∀ b, b < 6 → a ≠ b → (F_Tp a).2.1 ≠ (F_Tp b).2.1 := by decide +kernel
theorem t_Tp_ok : ∀ k, k < 6 → parseFieldDescriptor (F_Tp k).2.2.1 = some (t_Tp k) := by decide +kernel
theorem df_Tp : ∀ j, j < 6 → defaultValue (t_Tp j) = vp_V [.null, .int 0, .int 0, .int 0, .int 0, .int 0] j := by decide +kernel
theorem n_Bx : ∀ a, a < 7 → ∀ b, b < 7 → a ≠ b → (F_Bx a).2.1 ≠ (F_Bx b).2.1 := by decide +kernel
theorem t_Bx_ok : ∀ k, k < 7 → parseFieldDescriptor (F_Bx k).2.2.1 = some (t_Bx k) := by decide +kernel
theorem df_Bx : ∀ j, j < 7 → defaultValue (t_Bx j) = vp_V [.int 0, .int 0, .int 0, .int 0, .null, .null, .int 0] j := by decide +kernel
theorem n_Pn : ∀ a, a < 3 → ∀ b, b < 3 → a ≠ b → (F_Pn a).2.1 ≠ (F_Pn b).2.1 := by decide +kernel
theorem t_Pn_ok : ∀ k, k < 3 → parseFieldDescriptor (F_Pn k).2.2.1 = some (t_Pn k) := by decide +kernel
theorem df_Pn : ∀ j, j < 3 → defaultValue (t_Pn j) = vp_V [.int 0, .int 0, .int 0] j := by decide +kernel
theorem n_Md : ∀ a, a < 64 → ∀ b, b < 64 → a ≠ b → (F_Md a).2.1 ≠ (F_Md b).2.1 := by decide +kernel
theorem t_Md_ok : ∀ k, k < 64 → parseFieldDescriptor (F_Md k).2.2.1 = some (t_Md k) := by decide +kernel
theorem df_Md : ∀ j, j < 64 → defaultValue (t_Md j) = vp_V [.int 0, .int 0, .int 0, .null, .int 0, .null, .null, .null, .null, .null, .null, .null, .null, .null, .null, .null, .null, .null, .null, .null, .null, .int 0, .null, .null, .null, .null, .null, .null, .int 0, .int 0, .null, .null, .null, .null, .null, .null, .null, .null, .null, .null, .null, .null, .int 0, .int 0, .int 0, .int 0, .int 0, .int 0, .null, .null, .null, .null, .null, .null, .null, .null, .long 0, .long 0, .long 0, .null, .int 0, .null, .null, .null] j := by decide +kernel
theorem n_Bd : ∀ a, a < 5 → ∀ b, b < 5 → a ≠ b → (F_Bd a).2.1 ≠ (F_Bd b).2.1 := by decide +kernel
theorem t_Bd_ok : ∀ k, k < 5 → parseFieldDescriptor (F_Bd k).2.2.1 = some (t_Bd k) := by decide +kernel
theorem df_Bd : ∀ j, j < 5 → defaultValue (t_Bd j) = vp_V [.int 0, .int 0, .null, .null, .int 0] j := by decide +kernel
theorem n_Bt : ∀ a, a < 6 → ∀ b, b < 6 → a ≠ b → (F_Bt a).2.1 ≠ (F_Bt b).2.1 := by decide +kernel
theorem t_Bt_ok : ∀ k, k < 6 → parseFieldDescriptor (F_Bt k).2.2.1 = some (t_Bt k) := by decide +kernel
theorem df_Bt : ∀ j, j < 6 → defaultValue (t_Bt j) = vp_V [.int 0, .int 0, .int 0, .int 0, .int 0, .int 0] j := by decide +kernel
theorem n_Tr : ∀ a, a < 8 → ∀ b, b < 8 → a ≠ b → (F_Tr a).2.1 ≠ (F_Tr b).2.1 := by decide +kernel
theorem t_Tr_ok : ∀ k, k < 8 → parseFieldDescriptor (F_Tr k).2.2.1 = some (t_Tr k) := by decide +kernel
theorem df_Tr : ∀ j, j < 8 → defaultValue (t_Tr j) = vp_V [.int 0, .int 0, .int 0, .int 0, .int 0, .int 0, .int 0, .int 0] j := by decide +kernel
def TB : List Cond := lw_tbl.filter goodWord
set_option maxRecDepth 100000 in
theorem tw_f {w : Cond} (h : w ∈ lw_tbl) (g : goodWord w = true) : w ∈ TB := List.mem_filter.mpr ⟨h, g⟩
set_option maxRecDepth 100000 in
theorem tw_t1 {w : Cond} (h : w ∈ tables_1_1) : w ∈ lw_tbl := List.mem_append_right _ (List.mem_append_left _ h)
set_option maxRecDepth 100000 in
theorem tw_t2 {w : Cond} (h : w ∈ tables_1_2) : w ∈ lw_tbl := List.mem_append_right _ (List.mem_append_right _ (List.mem_append_left _ h))
set_option maxRecDepth 100000 in
theorem tw_t3 {w : Cond} (h : w ∈ tables_1_3) : w ∈ lw_tbl := List.mem_append_right _ (List.mem_append_right _ (List.mem_append_right _ (List.mem_append_left _ h)))
set_option maxRecDepth 100000 in
theorem tw_t4 {w : Cond} (h : w ∈ tables_1_4) : w ∈ lw_tbl := List.mem_append_right _ (List.mem_append_right _ (List.mem_append_right _ (List.mem_append_right _ (List.mem_append_left _ h))))
set_option maxRecDepth 100000 in
theorem tw_t5 {w : Cond} (h : w ∈ tables_1_5) : w ∈ lw_tbl := List.mem_append_right _ (List.mem_append_right _ (List.mem_append_right _ (List.mem_append_right _ (List.mem_append_right _ (List.mem_append_left _ h)))))
set_option maxRecDepth 100000 in
theorem tw_t6 {w : Cond} (h : w ∈ tables_1_6) : w ∈ lw_tbl := List.mem_append_right _ (List.mem_append_right _ (List.mem_append_right _ (List.mem_append_right _ (List.mem_append_right _ (List.mem_append_right _ (h))))))
set_option maxRecDepth 100000 in
theorem tw_s1 {w : Cond} (h : w ∈ k2_sels lw_privs_1) : w ∈ lw_tbl := by
  obtain ⟨q, hq, rfl⟩ := List.mem_map.mp h
  exact List.mem_append_left _ (List.mem_map.mpr ⟨q, (fun (h : q ∈ lw_privs_1) => (show q ∈ lw_privs from List.mem_append_left _ h)) hq, rfl⟩)
set_option maxRecDepth 100000 in
theorem tw_s2 {w : Cond} (h : w ∈ k2_sels lw_privs_2) : w ∈ lw_tbl := by
  obtain ⟨q, hq, rfl⟩ := List.mem_map.mp h
  exact List.mem_append_left _ (List.mem_map.mpr ⟨q, (fun (h : q ∈ lw_privs_2) => (show q ∈ lw_privs from List.mem_append_right _ (List.mem_append_left _ h))) hq, rfl⟩)
set_option maxRecDepth 100000 in
theorem tw_s3 {w : Cond} (h : w ∈ k2_sels lw_privs_3) : w ∈ lw_tbl := by
  obtain ⟨q, hq, rfl⟩ := List.mem_map.mp h
  exact List.mem_append_left _ (List.mem_map.mpr ⟨q, (fun (h : q ∈ lw_privs_3) => (show q ∈ lw_privs from List.mem_append_right _ (List.mem_append_right _ (h)))) hq, rfl⟩)
set_option maxRecDepth 100000 in
theorem ly_WM_0 : (.laysFinal R_WM "WaterMen" "river" "LWaterMen$River;") ∈ TB := tw_f (tw_t1 (List.mem_of_getElem? (i := 207) rfl)) rfl
set_option maxRecDepth 100000 in
theorem ly_WM_1 : (.laysFinal R_WM "WaterMen" "men" "[LWaterMen$Man;") ∈ TB := tw_f (tw_t1 (List.mem_of_getElem? (i := 209) rfl)) rfl
set_option maxRecDepth 100000 in
theorem ly_WM_2 : (.laysFinal R_WM "WaterMen" "boats" "[LWaterMen$Boat;") ∈ TB := tw_f (tw_t1 (List.mem_of_getElem? (i := 211) rfl)) rfl
set_option maxRecDepth 100000 in
theorem ly_WM_3 : (.laysFinal R_WM "WaterMen" "orders" "[LWaterMen$Order;") ∈ TB := tw_f (tw_t1 (List.mem_of_getElem? (i := 213) rfl)) rfl
set_option maxRecDepth 100000 in
theorem ly_WM_4 : (.laysFinal R_WM "WaterMen" "trips" "[LWaterMen$Trip;") ∈ TB := tw_f (tw_t1 (List.mem_of_getElem? (i := 215) rfl)) rfl
set_option maxRecDepth 100000 in
theorem ly_WM_5 : (.laysFinal R_WM "WaterMen" "tape" "LWaterMen$Tape;") ∈ TB := tw_f (tw_t1 (List.mem_of_getElem? (i := 217) rfl)) rfl
set_option maxRecDepth 100000 in
theorem ly_WM_6 : (.laysFinal R_WM "WaterMen" "box" "LWaterMen$Box;") ∈ TB := tw_f (tw_t1 (List.mem_of_getElem? (i := 219) rfl)) rfl
set_option maxRecDepth 100000 in
theorem ly_WM_7 : (.lays R_WM "WaterMen" "boatCount" "I") ∈ TB := tw_f (tw_t1 (List.mem_of_getElem? (i := 221) rfl)) rfl
set_option maxRecDepth 100000 in
theorem ly_WM_8 : (.lays R_WM "WaterMen" "orderCount" "I") ∈ TB := tw_f (tw_t1 (List.mem_of_getElem? (i := 223) rfl)) rfl
set_option maxRecDepth 100000 in
theorem ly_WM_9 : (.lays R_WM "WaterMen" "tripCount" "I") ∈ TB := tw_f (tw_t1 (List.mem_of_getElem? (i := 225) rfl)) rfl
set_option maxRecDepth 100000 in
theorem ly_WM_10 : (.lays R_WM "WaterMen" "now" "I") ∈ TB := tw_f (tw_t1 (List.mem_of_getElem? (i := 227) rfl)) rfl
set_option maxRecDepth 100000 in
theorem ly_WM_11 : (.lays R_WM "WaterMen" "joins" "I") ∈ TB := tw_f (tw_t1 (List.mem_of_getElem? (i := 229) rfl)) rfl
set_option maxRecDepth 100000 in
theorem ly_WM_12 : (.lays R_WM "WaterMen" "draft" "LWaterMen$Order;") ∈ TB := tw_f (tw_t1 (List.mem_of_getElem? (i := 231) rfl)) rfl
set_option maxRecDepth 100000 in
theorem i_WM : ∀ w ∈ u_ws R_WM F_WM 13, w ∈ TB := by
  intro w hw
  obtain ⟨k, hk, rfl⟩ := List.mem_map.mp hw
  have hk := List.mem_range.mp hk
  match k, hk with
  | 0, _ => exact ly_WM_0
  | 1, _ => exact ly_WM_1
  | 2, _ => exact ly_WM_2
  | 3, _ => exact ly_WM_3
  | 4, _ => exact ly_WM_4
  | 5, _ => exact ly_WM_5
  | 6, _ => exact ly_WM_6
  | 7, _ => exact ly_WM_7
  | 8, _ => exact ly_WM_8
  | 9, _ => exact ly_WM_9
  | 10, _ => exact ly_WM_10
  | 11, _ => exact ly_WM_11
  | 12, _ => exact ly_WM_12
set_option maxRecDepth 100000 in
theorem ly_Rv_0 : (.laysFinal R_Rv "WaterMen$River" "milesUp" "[I") ∈ TB := tw_f (tw_t1 (List.mem_of_getElem? (i := 43) rfl)) rfl
set_option maxRecDepth 100000 in
theorem ly_Rv_1 : (.laysFinal R_Rv "WaterMen$River" "table" "[I") ∈ TB := tw_f (tw_t1 (List.mem_of_getElem? (i := 45) rfl)) rfl
set_option maxRecDepth 100000 in
theorem ly_Rv_2 : (.laysFinal R_Rv "WaterMen$River" "rows" "[[I") ∈ TB := tw_f (tw_t1 (List.mem_of_getElem? (i := 47) rfl)) rfl
set_option maxRecDepth 100000 in
theorem ly_Rv_3 : (.laysFinal R_Rv "WaterMen$River" "frozen" "[Z") ∈ TB := tw_f (tw_t1 (List.mem_of_getElem? (i := 49) rfl)) rfl
set_option maxRecDepth 100000 in
theorem ly_Rv_4 : (.lays R_Rv "WaterMen$River" "stairCount" "I") ∈ TB := tw_f (tw_t1 (List.mem_of_getElem? (i := 51) rfl)) rfl
set_option maxRecDepth 100000 in
theorem ly_Rv_5 : (.lays R_Rv "WaterMen$River" "bridgeAbove" "I") ∈ TB := tw_f (tw_t1 (List.mem_of_getElem? (i := 53) rfl)) rfl
set_option maxRecDepth 100000 in
theorem i_Rv : ∀ w ∈ u_ws R_Rv F_Rv 6, w ∈ TB := by
  intro w hw
  obtain ⟨k, hk, rfl⟩ := List.mem_map.mp hw
  have hk := List.mem_range.mp hk
  match k, hk with
  | 0, _ => exact ly_Rv_0
  | 1, _ => exact ly_Rv_1
  | 2, _ => exact ly_Rv_2
  | 3, _ => exact ly_Rv_3
  | 4, _ => exact ly_Rv_4
  | 5, _ => exact ly_Rv_5
set_option maxRecDepth 100000 in
theorem ly_Mn_0 : (.lays R_Mn "WaterMen$Man" "state" "I") ∈ TB := tw_f (tw_t1 (List.mem_of_getElem? (i := 177) rfl)) rfl
set_option maxRecDepth 100000 in
theorem ly_Mn_1 : (.lays R_Mn "WaterMen$Man" "bond" "LWaterMen$Bond;") ∈ TB := tw_f (tw_t1 (List.mem_of_getElem? (i := 179) rfl)) rfl
set_option maxRecDepth 100000 in
theorem ly_Mn_2 : (.lays R_Mn "WaterMen$Man" "turnStairs" "I") ∈ TB := tw_f (tw_t1 (List.mem_of_getElem? (i := 181) rfl)) rfl
set_option maxRecDepth 100000 in
theorem ly_Mn_3 : (.lays R_Mn "WaterMen$Man" "turnTicket" "I") ∈ TB := tw_f (tw_t1 (List.mem_of_getElem? (i := 183) rfl)) rfl
set_option maxRecDepth 100000 in
theorem ly_Mn_4 : (.lays R_Mn "WaterMen$Man" "coins" "I") ∈ TB := tw_f (tw_t1 (List.mem_of_getElem? (i := 185) rfl)) rfl
set_option maxRecDepth 100000 in
theorem ly_Mn_5 : (.lays R_Mn "WaterMen$Man" "busyUntil" "I") ∈ TB := tw_f (tw_t1 (List.mem_of_getElem? (i := 187) rfl)) rfl
set_option maxRecDepth 100000 in
theorem ly_Mn_6 : (.lays R_Mn "WaterMen$Man" "tripCount" "I") ∈ TB := tw_f (tw_t1 (List.mem_of_getElem? (i := 189) rfl)) rfl
set_option maxRecDepth 100000 in
theorem ly_Mn_7 : (.lays R_Mn "WaterMen$Man" "lastSunday" "I") ∈ TB := tw_f (tw_t1 (List.mem_of_getElem? (i := 191) rfl)) rfl
set_option maxRecDepth 100000 in
theorem i_Mn : ∀ w ∈ u_ws R_Mn F_Mn 8, w ∈ TB := by
  intro w hw
  obtain ⟨k, hk, rfl⟩ := List.mem_map.mp hw
  have hk := List.mem_range.mp hk
  match k, hk with
  | 0, _ => exact ly_Mn_0
  | 1, _ => exact ly_Mn_1
  | 2, _ => exact ly_Mn_2
  | 3, _ => exact ly_Mn_3
  | 4, _ => exact ly_Mn_4
  | 5, _ => exact ly_Mn_5
  | 6, _ => exact ly_Mn_6
  | 7, _ => exact ly_Mn_7
set_option maxRecDepth 100000 in
theorem ly_Or_0 : (.lays R_Or "WaterMen$Order" "madeOn" "I") ∈ TB := tw_f (tw_t1 (List.mem_of_getElem? (i := 140) rfl)) rfl
set_option maxRecDepth 100000 in
theorem ly_Or_1 : (.lays R_Or "WaterMen$Order" "inForceFrom" "I") ∈ TB := tw_f (tw_t1 (List.mem_of_getElem? (i := 142) rfl)) rfl
set_option maxRecDepth 100000 in
theorem ly_Or_2 : (.laysFinal R_Or "WaterMen$Order" "fares" "[I") ∈ TB := tw_f (tw_t1 (List.mem_of_getElem? (i := 144) rfl)) rfl
set_option maxRecDepth 100000 in
theorem ly_Or_3 : (.laysFinal R_Or "WaterMen$Order" "hours" "[I") ∈ TB := tw_f (tw_t1 (List.mem_of_getElem? (i := 146) rfl)) rfl
set_option maxRecDepth 100000 in
theorem ly_Or_4 : (.laysFinal R_Or "WaterMen$Order" "single" "[I") ∈ TB := tw_f (tw_t1 (List.mem_of_getElem? (i := 148) rfl)) rfl
set_option maxRecDepth 100000 in
theorem ly_Or_5 : (.lays R_Or "WaterMen$Order" "fareCount" "I") ∈ TB := tw_f (tw_t1 (List.mem_of_getElem? (i := 150) rfl)) rfl
set_option maxRecDepth 100000 in
theorem ly_Or_6 : (.lays R_Or "WaterMen$Order" "hourCount" "I") ∈ TB := tw_f (tw_t1 (List.mem_of_getElem? (i := 152) rfl)) rfl
set_option maxRecDepth 100000 in
theorem ly_Or_7 : (.lays R_Or "WaterMen$Order" "bridgeOpens" "I") ∈ TB := tw_f (tw_t1 (List.mem_of_getElem? (i := 154) rfl)) rfl
set_option maxRecDepth 100000 in
theorem ly_Or_8 : (.lays R_Or "WaterMen$Order" "bridgeShuts" "I") ∈ TB := tw_f (tw_t1 (List.mem_of_getElem? (i := 156) rfl)) rfl
set_option maxRecDepth 100000 in
theorem i_Or : ∀ w ∈ u_ws R_Or F_Or 9, w ∈ TB := by
  intro w hw
  obtain ⟨k, hk, rfl⟩ := List.mem_map.mp hw
  have hk := List.mem_range.mp hk
  match k, hk with
  | 0, _ => exact ly_Or_0
  | 1, _ => exact ly_Or_1
  | 2, _ => exact ly_Or_2
  | 3, _ => exact ly_Or_3
  | 4, _ => exact ly_Or_4
  | 5, _ => exact ly_Or_5
  | 6, _ => exact ly_Or_6
  | 7, _ => exact ly_Or_7
  | 8, _ => exact ly_Or_8
set_option maxRecDepth 100000 in
theorem ly_Tp_0 : (.laysFinal R_Tp "WaterMen$Tape" "bytes" "[B") ∈ TB := tw_f (tw_t1 (List.mem_of_getElem? (i := 79) rfl)) rfl
set_option maxRecDepth 100000 in
theorem ly_Tp_1 : (.lays R_Tp "WaterMen$Tape" "length" "I") ∈ TB := tw_f (tw_t1 (List.mem_of_getElem? (i := 81) rfl)) rfl
set_option maxRecDepth 100000 in
theorem ly_Tp_2 : (.lays R_Tp "WaterMen$Tape" "sort" "I") ∈ TB := tw_f (tw_t1 (List.mem_of_getElem? (i := 83) rfl)) rfl
set_option maxRecDepth 100000 in
theorem ly_Tp_3 : (.lays R_Tp "WaterMen$Tape" "start" "I") ∈ TB := tw_f (tw_t1 (List.mem_of_getElem? (i := 85) rfl)) rfl
set_option maxRecDepth 100000 in
theorem ly_Tp_4 : (.lays R_Tp "WaterMen$Tape" "behind" "I") ∈ TB := tw_f (tw_t1 (List.mem_of_getElem? (i := 87) rfl)) rfl
set_option maxRecDepth 100000 in
theorem ly_Tp_5 : (.lays R_Tp "WaterMen$Tape" "value" "I") ∈ TB := tw_f (tw_t1 (List.mem_of_getElem? (i := 89) rfl)) rfl
set_option maxRecDepth 100000 in
theorem i_Tp : ∀ w ∈ u_ws R_Tp F_Tp 6, w ∈ TB := by
  intro w hw
  obtain ⟨k, hk, rfl⟩ := List.mem_map.mp hw
  have hk := List.mem_range.mp hk
  match k, hk with
  | 0, _ => exact ly_Tp_0
  | 1, _ => exact ly_Tp_1
  | 2, _ => exact ly_Tp_2
  | 3, _ => exact ly_Tp_3
  | 4, _ => exact ly_Tp_4
  | 5, _ => exact ly_Tp_5
set_option maxRecDepth 100000 in
theorem ly_Bx_0 : (.lays R_Bx "WaterMen$Box" "coins" "I") ∈ TB := tw_f (tw_t1 (List.mem_of_getElem? (i := 111) rfl)) rfl
set_option maxRecDepth 100000 in
theorem ly_Bx_1 : (.lays R_Bx "WaterMen$Box" "pot" "I") ∈ TB := tw_f (tw_t1 (List.mem_of_getElem? (i := 113) rfl)) rfl
set_option maxRecDepth 100000 in
theorem ly_Bx_2 : (.lays R_Bx "WaterMen$Box" "allPaid" "I") ∈ TB := tw_f (tw_t1 (List.mem_of_getElem? (i := 115) rfl)) rfl
set_option maxRecDepth 100000 in
theorem ly_Bx_3 : (.lays R_Bx "WaterMen$Box" "allPensions" "I") ∈ TB := tw_f (tw_t1 (List.mem_of_getElem? (i := 117) rfl)) rfl
set_option maxRecDepth 100000 in
theorem ly_Bx_4 : (.laysFinal R_Bx "WaterMen$Box" "income" "[I") ∈ TB := tw_f (tw_t1 (List.mem_of_getElem? (i := 119) rfl)) rfl
set_option maxRecDepth 100000 in
theorem ly_Bx_5 : (.laysFinal R_Bx "WaterMen$Box" "pensioners" "[LWaterMen$Pensioner;") ∈ TB := tw_f (tw_t1 (List.mem_of_getElem? (i := 121) rfl)) rfl
set_option maxRecDepth 100000 in
theorem ly_Bx_6 : (.lays R_Bx "WaterMen$Box" "pensionerCount" "I") ∈ TB := tw_f (tw_t1 (List.mem_of_getElem? (i := 123) rfl)) rfl
set_option maxRecDepth 100000 in
theorem i_Bx : ∀ w ∈ u_ws R_Bx F_Bx 7, w ∈ TB := by
  intro w hw
  obtain ⟨k, hk, rfl⟩ := List.mem_map.mp hw
  have hk := List.mem_range.mp hk
  match k, hk with
  | 0, _ => exact ly_Bx_0
  | 1, _ => exact ly_Bx_1
  | 2, _ => exact ly_Bx_2
  | 3, _ => exact ly_Bx_3
  | 4, _ => exact ly_Bx_4
  | 5, _ => exact ly_Bx_5
  | 6, _ => exact ly_Bx_6
set_option maxRecDepth 100000 in
theorem ly_Pn_0 : (.laysFinal R_Pn "WaterMen$Pensioner" "pension" "I") ∈ TB := tw_f (tw_t4 (List.mem_of_getElem? (i := 50) rfl)) rfl
set_option maxRecDepth 100000 in
theorem ly_Pn_1 : (.laysFinal R_Pn "WaterMen$Pensioner" "end" "I") ∈ TB := tw_f (tw_t4 (List.mem_of_getElem? (i := 52) rfl)) rfl
set_option maxRecDepth 100000 in
theorem ly_Pn_2 : (.lays R_Pn "WaterMen$Pensioner" "got" "I") ∈ TB := tw_f (tw_t4 (List.mem_of_getElem? (i := 54) rfl)) rfl
set_option maxRecDepth 100000 in
theorem i_Pn : ∀ w ∈ u_ws R_Pn F_Pn 3, w ∈ TB := by
  intro w hw
  obtain ⟨k, hk, rfl⟩ := List.mem_map.mp hw
  have hk := List.mem_range.mp hk
  match k, hk with
  | 0, _ => exact ly_Pn_0
  | 1, _ => exact ly_Pn_1
  | 2, _ => exact ly_Pn_2
set_option maxRecDepth 100000 in
theorem ly_Md_0 : (.lays R_Md "WaterMenModel" "code" "I") ∈ TB := tw_f (tw_t4 (List.mem_of_getElem? (i := 226) rfl)) rfl
set_option maxRecDepth 100000 in
theorem ly_Md_1 : (.lays R_Md "WaterMenModel" "time" "I") ∈ TB := tw_f (tw_t4 (List.mem_of_getElem? (i := 228) rfl)) rfl
set_option maxRecDepth 100000 in
theorem ly_Md_2 : (.lays R_Md "WaterMenModel" "stairs" "I") ∈ TB := tw_f (tw_t4 (List.mem_of_getElem? (i := 230) rfl)) rfl
set_option maxRecDepth 100000 in
theorem ly_Md_3 : (.laysFinal R_Md "WaterMenModel" "miles" "[I") ∈ TB := tw_f (tw_t4 (List.mem_of_getElem? (i := 232) rfl)) rfl
set_option maxRecDepth 100000 in
theorem ly_Md_4 : (.lays R_Md "WaterMenModel" "bridge" "I") ∈ TB := tw_f (tw_t4 (List.mem_of_getElem? (i := 234) rfl)) rfl
set_option maxRecDepth 100000 in
theorem ly_Md_5 : (.laysFinal R_Md "WaterMenModel" "table" "[I") ∈ TB := tw_f (tw_t4 (List.mem_of_getElem? (i := 236) rfl)) rfl
set_option maxRecDepth 100000 in
theorem ly_Md_6 : (.laysFinal R_Md "WaterMenModel" "hasRow" "[Z") ∈ TB := tw_f (tw_t4 (List.mem_of_getElem? (i := 238) rfl)) rfl
set_option maxRecDepth 100000 in
theorem ly_Md_7 : (.laysFinal R_Md "WaterMenModel" "rows" "[I") ∈ TB := tw_f (tw_t5 (List.mem_of_getElem? (i := 0) rfl)) rfl
set_option maxRecDepth 100000 in
theorem ly_Md_8 : (.laysFinal R_Md "WaterMenModel" "frosts" "[Z") ∈ TB := tw_f (tw_t5 (List.mem_of_getElem? (i := 2) rfl)) rfl
set_option maxRecDepth 100000 in
theorem ly_Md_9 : (.laysFinal R_Md "WaterMenModel" "state" "[I") ∈ TB := tw_f (tw_t5 (List.mem_of_getElem? (i := 4) rfl)) rfl
set_option maxRecDepth 100000 in
theorem ly_Md_10 : (.laysFinal R_Md "WaterMenModel" "master" "[I") ∈ TB := tw_f (tw_t5 (List.mem_of_getElem? (i := 6) rfl)) rfl
set_option maxRecDepth 100000 in
theorem ly_Md_11 : (.laysFinal R_Md "WaterMenModel" "boundOn" "[I") ∈ TB := tw_f (tw_t5 (List.mem_of_getElem? (i := 8) rfl)) rfl
set_option maxRecDepth 100000 in
theorem ly_Md_12 : (.laysFinal R_Md "WaterMenModel" "gaps" "[I") ∈ TB := tw_f (tw_t5 (List.mem_of_getElem? (i := 10) rfl)) rfl
set_option maxRecDepth 100000 in
theorem ly_Md_13 : (.laysFinal R_Md "WaterMenModel" "gapFrom" "[I") ∈ TB := tw_f (tw_t5 (List.mem_of_getElem? (i := 12) rfl)) rfl
set_option maxRecDepth 100000 in
theorem ly_Md_14 : (.laysFinal R_Md "WaterMenModel" "gapTo" "[I") ∈ TB := tw_f (tw_t5 (List.mem_of_getElem? (i := 14) rfl)) rfl
set_option maxRecDepth 100000 in
theorem ly_Md_15 : (.laysFinal R_Md "WaterMenModel" "coins" "[I") ∈ TB := tw_f (tw_t5 (List.mem_of_getElem? (i := 16) rfl)) rfl
set_option maxRecDepth 100000 in
theorem ly_Md_16 : (.laysFinal R_Md "WaterMenModel" "wayOf" "[I") ∈ TB := tw_f (tw_t5 (List.mem_of_getElem? (i := 18) rfl)) rfl
set_option maxRecDepth 100000 in
theorem ly_Md_17 : (.laysFinal R_Md "WaterMenModel" "tripsOf" "[I") ∈ TB := tw_f (tw_t5 (List.mem_of_getElem? (i := 20) rfl)) rfl
set_option maxRecDepth 100000 in
theorem ly_Md_18 : (.laysFinal R_Md "WaterMenModel" "shares" "[Z") ∈ TB := tw_f (tw_t5 (List.mem_of_getElem? (i := 22) rfl)) rfl
set_option maxRecDepth 100000 in
theorem ly_Md_19 : (.laysFinal R_Md "WaterMenModel" "turns" "[I") ∈ TB := tw_f (tw_t5 (List.mem_of_getElem? (i := 24) rfl)) rfl
set_option maxRecDepth 100000 in
theorem ly_Md_20 : (.laysFinal R_Md "WaterMenModel" "turn" "[I") ∈ TB := tw_f (tw_t5 (List.mem_of_getElem? (i := 26) rfl)) rfl
set_option maxRecDepth 100000 in
theorem ly_Md_21 : (.lays R_Md "WaterMenModel" "boats" "I") ∈ TB := tw_f (tw_t5 (List.mem_of_getElem? (i := 28) rfl)) rfl
set_option maxRecDepth 100000 in
theorem ly_Md_22 : (.laysFinal R_Md "WaterMenModel" "boatOars" "[I") ∈ TB := tw_f (tw_t5 (List.mem_of_getElem? (i := 30) rfl)) rfl
set_option maxRecDepth 100000 in
theorem ly_Md_23 : (.laysFinal R_Md "WaterMenModel" "boatAt" "[I") ∈ TB := tw_f (tw_t5 (List.mem_of_getElem? (i := 32) rfl)) rfl
set_option maxRecDepth 100000 in
theorem ly_Md_24 : (.laysFinal R_Md "WaterMenModel" "boatFrom" "[I") ∈ TB := tw_f (tw_t5 (List.mem_of_getElem? (i := 34) rfl)) rfl
set_option maxRecDepth 100000 in
theorem ly_Md_25 : (.laysFinal R_Md "WaterMenModel" "boatTrip" "[I") ∈ TB := tw_f (tw_t5 (List.mem_of_getElem? (i := 36) rfl)) rfl
set_option maxRecDepth 100000 in
theorem ly_Md_26 : (.laysFinal R_Md "WaterMenModel" "sunk" "[Z") ∈ TB := tw_f (tw_t5 (List.mem_of_getElem? (i := 38) rfl)) rfl
set_option maxRecDepth 100000 in
theorem ly_Md_27 : (.laysFinal R_Md "WaterMenModel" "tape" "[B") ∈ TB := tw_f (tw_t5 (List.mem_of_getElem? (i := 40) rfl)) rfl
set_option maxRecDepth 100000 in
theorem ly_Md_28 : (.lays R_Md "WaterMenModel" "taped" "I") ∈ TB := tw_f (tw_t5 (List.mem_of_getElem? (i := 42) rfl)) rfl
set_option maxRecDepth 100000 in
theorem ly_Md_29 : (.lays R_Md "WaterMenModel" "orders" "I") ∈ TB := tw_f (tw_t5 (List.mem_of_getElem? (i := 44) rfl)) rfl
set_option maxRecDepth 100000 in
theorem ly_Md_30 : (.laysFinal R_Md "WaterMenModel" "orderFrom" "[I") ∈ TB := tw_f (tw_t5 (List.mem_of_getElem? (i := 46) rfl)) rfl
set_option maxRecDepth 100000 in
theorem ly_Md_31 : (.laysFinal R_Md "WaterMenModel" "orderMade" "[I") ∈ TB := tw_f (tw_t5 (List.mem_of_getElem? (i := 48) rfl)) rfl
set_option maxRecDepth 100000 in
theorem ly_Md_32 : (.laysFinal R_Md "WaterMenModel" "fares" "[I") ∈ TB := tw_f (tw_t5 (List.mem_of_getElem? (i := 50) rfl)) rfl
set_option maxRecDepth 100000 in
theorem ly_Md_33 : (.laysFinal R_Md "WaterMenModel" "fareLow" "[I") ∈ TB := tw_f (tw_t5 (List.mem_of_getElem? (i := 52) rfl)) rfl
set_option maxRecDepth 100000 in
theorem ly_Md_34 : (.laysFinal R_Md "WaterMenModel" "fareHigh" "[I") ∈ TB := tw_f (tw_t5 (List.mem_of_getElem? (i := 54) rfl)) rfl
set_option maxRecDepth 100000 in
theorem ly_Md_35 : (.laysFinal R_Md "WaterMenModel" "fareIs" "[I") ∈ TB := tw_f (tw_t5 (List.mem_of_getElem? (i := 56) rfl)) rfl
set_option maxRecDepth 100000 in
theorem ly_Md_36 : (.laysFinal R_Md "WaterMenModel" "hours" "[I") ∈ TB := tw_f (tw_t5 (List.mem_of_getElem? (i := 58) rfl)) rfl
set_option maxRecDepth 100000 in
theorem ly_Md_37 : (.laysFinal R_Md "WaterMenModel" "hourLow" "[I") ∈ TB := tw_f (tw_t5 (List.mem_of_getElem? (i := 60) rfl)) rfl
set_option maxRecDepth 100000 in
theorem ly_Md_38 : (.laysFinal R_Md "WaterMenModel" "hourHigh" "[I") ∈ TB := tw_f (tw_t5 (List.mem_of_getElem? (i := 62) rfl)) rfl
set_option maxRecDepth 100000 in
theorem ly_Md_39 : (.laysFinal R_Md "WaterMenModel" "hourIs" "[I") ∈ TB := tw_f (tw_t5 (List.mem_of_getElem? (i := 64) rfl)) rfl
set_option maxRecDepth 100000 in
theorem ly_Md_40 : (.laysFinal R_Md "WaterMenModel" "single" "[I") ∈ TB := tw_f (tw_t5 (List.mem_of_getElem? (i := 66) rfl)) rfl
set_option maxRecDepth 100000 in
theorem ly_Md_41 : (.laysFinal R_Md "WaterMenModel" "singleTo" "[I") ∈ TB := tw_f (tw_t5 (List.mem_of_getElem? (i := 68) rfl)) rfl
set_option maxRecDepth 100000 in
theorem ly_Md_42 : (.lays R_Md "WaterMenModel" "at" "I") ∈ TB := tw_f (tw_t5 (List.mem_of_getElem? (i := 70) rfl)) rfl
set_option maxRecDepth 100000 in
theorem ly_Md_43 : (.lays R_Md "WaterMenModel" "tk" "I") ∈ TB := tw_f (tw_t5 (List.mem_of_getElem? (i := 72) rfl)) rfl
set_option maxRecDepth 100000 in
theorem ly_Md_44 : (.lays R_Md "WaterMenModel" "tkAt" "I") ∈ TB := tw_f (tw_t5 (List.mem_of_getElem? (i := 74) rfl)) rfl
set_option maxRecDepth 100000 in
theorem ly_Md_45 : (.lays R_Md "WaterMenModel" "tkNumber" "I") ∈ TB := tw_f (tw_t5 (List.mem_of_getElem? (i := 76) rfl)) rfl
set_option maxRecDepth 100000 in
theorem ly_Md_46 : (.lays R_Md "WaterMenModel" "got" "I") ∈ TB := tw_f (tw_t5 (List.mem_of_getElem? (i := 78) rfl)) rfl
set_option maxRecDepth 100000 in
theorem ly_Md_47 : (.lays R_Md "WaterMenModel" "trips" "I") ∈ TB := tw_f (tw_t5 (List.mem_of_getElem? (i := 80) rfl)) rfl
set_option maxRecDepth 100000 in
theorem ly_Md_48 : (.laysFinal R_Md "WaterMenModel" "tripBoat" "[I") ∈ TB := tw_f (tw_t5 (List.mem_of_getElem? (i := 82) rfl)) rfl
set_option maxRecDepth 100000 in
theorem ly_Md_49 : (.laysFinal R_Md "WaterMenModel" "tripMan" "[I") ∈ TB := tw_f (tw_t5 (List.mem_of_getElem? (i := 84) rfl)) rfl
set_option maxRecDepth 100000 in
theorem ly_Md_50 : (.laysFinal R_Md "WaterMenModel" "tripFrom" "[I") ∈ TB := tw_f (tw_t5 (List.mem_of_getElem? (i := 86) rfl)) rfl
set_option maxRecDepth 100000 in
theorem ly_Md_51 : (.laysFinal R_Md "WaterMenModel" "tripTo" "[I") ∈ TB := tw_f (tw_t5 (List.mem_of_getElem? (i := 88) rfl)) rfl
set_option maxRecDepth 100000 in
theorem ly_Md_52 : (.laysFinal R_Md "WaterMenModel" "tripBegin" "[I") ∈ TB := tw_f (tw_t5 (List.mem_of_getElem? (i := 90) rfl)) rfl
set_option maxRecDepth 100000 in
theorem ly_Md_53 : (.laysFinal R_Md "WaterMenModel" "tripThere" "[I") ∈ TB := tw_f (tw_t5 (List.mem_of_getElem? (i := 92) rfl)) rfl
set_option maxRecDepth 100000 in
theorem ly_Md_54 : (.laysFinal R_Md "WaterMenModel" "tripPaid" "[I") ∈ TB := tw_f (tw_t5 (List.mem_of_getElem? (i := 94) rfl)) rfl
set_option maxRecDepth 100000 in
theorem ly_Md_55 : (.laysFinal R_Md "WaterMenModel" "sank" "[Z") ∈ TB := tw_f (tw_t5 (List.mem_of_getElem? (i := 96) rfl)) rfl
set_option maxRecDepth 100000 in
theorem ly_Md_56 : (.lays R_Md "WaterMenModel" "box" "J") ∈ TB := tw_f (tw_t5 (List.mem_of_getElem? (i := 98) rfl)) rfl
set_option maxRecDepth 100000 in
theorem ly_Md_57 : (.lays R_Md "WaterMenModel" "pot" "J") ∈ TB := tw_f (tw_t5 (List.mem_of_getElem? (i := 100) rfl)) rfl
set_option maxRecDepth 100000 in
theorem ly_Md_58 : (.lays R_Md "WaterMenModel" "paidOut" "J") ∈ TB := tw_f (tw_t5 (List.mem_of_getElem? (i := 102) rfl)) rfl
set_option maxRecDepth 100000 in
theorem ly_Md_59 : (.laysFinal R_Md "WaterMenModel" "boxIn" "[J") ∈ TB := tw_f (tw_t5 (List.mem_of_getElem? (i := 104) rfl)) rfl
set_option maxRecDepth 100000 in
theorem ly_Md_60 : (.lays R_Md "WaterMenModel" "pensioners" "I") ∈ TB := tw_f (tw_t5 (List.mem_of_getElem? (i := 106) rfl)) rfl
set_option maxRecDepth 100000 in
theorem ly_Md_61 : (.laysFinal R_Md "WaterMenModel" "pensionOf" "[I") ∈ TB := tw_f (tw_t5 (List.mem_of_getElem? (i := 108) rfl)) rfl
set_option maxRecDepth 100000 in
theorem ly_Md_62 : (.laysFinal R_Md "WaterMenModel" "pensionEnd" "[I") ∈ TB := tw_f (tw_t5 (List.mem_of_getElem? (i := 110) rfl)) rfl
set_option maxRecDepth 100000 in
theorem ly_Md_63 : (.laysFinal R_Md "WaterMenModel" "gotten" "[I") ∈ TB := tw_f (tw_t5 (List.mem_of_getElem? (i := 112) rfl)) rfl
set_option maxRecDepth 100000 in
theorem i_Md : ∀ w ∈ u_ws R_Md F_Md 64, w ∈ TB := by
  intro w hw
  obtain ⟨k, hk, rfl⟩ := List.mem_map.mp hw
  have hk := List.mem_range.mp hk
  match k, hk with
  | 0, _ => exact ly_Md_0
  | 1, _ => exact ly_Md_1
  | 2, _ => exact ly_Md_2
  | 3, _ => exact ly_Md_3
  | 4, _ => exact ly_Md_4
  | 5, _ => exact ly_Md_5
  | 6, _ => exact ly_Md_6
  | 7, _ => exact ly_Md_7
  | 8, _ => exact ly_Md_8
  | 9, _ => exact ly_Md_9
  | 10, _ => exact ly_Md_10
  | 11, _ => exact ly_Md_11
  | 12, _ => exact ly_Md_12
  | 13, _ => exact ly_Md_13
  | 14, _ => exact ly_Md_14
  | 15, _ => exact ly_Md_15
  | 16, _ => exact ly_Md_16
  | 17, _ => exact ly_Md_17
  | 18, _ => exact ly_Md_18
  | 19, _ => exact ly_Md_19
  | 20, _ => exact ly_Md_20
  | 21, _ => exact ly_Md_21
  | 22, _ => exact ly_Md_22
  | 23, _ => exact ly_Md_23
  | 24, _ => exact ly_Md_24
  | 25, _ => exact ly_Md_25
  | 26, _ => exact ly_Md_26
  | 27, _ => exact ly_Md_27
  | 28, _ => exact ly_Md_28
  | 29, _ => exact ly_Md_29
  | 30, _ => exact ly_Md_30
  | 31, _ => exact ly_Md_31
  | 32, _ => exact ly_Md_32
  | 33, _ => exact ly_Md_33
  | 34, _ => exact ly_Md_34
  | 35, _ => exact ly_Md_35
  | 36, _ => exact ly_Md_36
  | 37, _ => exact ly_Md_37
  | 38, _ => exact ly_Md_38
  | 39, _ => exact ly_Md_39
  | 40, _ => exact ly_Md_40
  | 41, _ => exact ly_Md_41
  | 42, _ => exact ly_Md_42
  | 43, _ => exact ly_Md_43
  | 44, _ => exact ly_Md_44
  | 45, _ => exact ly_Md_45
  | 46, _ => exact ly_Md_46
  | 47, _ => exact ly_Md_47
  | 48, _ => exact ly_Md_48
  | 49, _ => exact ly_Md_49
  | 50, _ => exact ly_Md_50
  | 51, _ => exact ly_Md_51
  | 52, _ => exact ly_Md_52
  | 53, _ => exact ly_Md_53
  | 54, _ => exact ly_Md_54
  | 55, _ => exact ly_Md_55
  | 56, _ => exact ly_Md_56
  | 57, _ => exact ly_Md_57
  | 58, _ => exact ly_Md_58
  | 59, _ => exact ly_Md_59
  | 60, _ => exact ly_Md_60
  | 61, _ => exact ly_Md_61
  | 62, _ => exact ly_Md_62
  | 63, _ => exact ly_Md_63
  | k + 64, h => exact absurd h (by omega)
set_option maxRecDepth 100000 in
theorem ly_Bd_0 : (.laysFinal R_Bd "WaterMen$Bond" "master" "I") ∈ TB := tw_f (tw_t2 (List.mem_of_getElem? (i := 82) rfl)) rfl
set_option maxRecDepth 100000 in
theorem ly_Bd_1 : (.laysFinal R_Bd "WaterMen$Bond" "since" "I") ∈ TB := tw_f (tw_t2 (List.mem_of_getElem? (i := 84) rfl)) rfl
set_option maxRecDepth 100000 in
theorem ly_Bd_2 : (.laysFinal R_Bd "WaterMen$Bond" "gapFrom" "[I") ∈ TB := tw_f (tw_t2 (List.mem_of_getElem? (i := 86) rfl)) rfl
set_option maxRecDepth 100000 in
theorem ly_Bd_3 : (.laysFinal R_Bd "WaterMen$Bond" "gapTo" "[I") ∈ TB := tw_f (tw_t2 (List.mem_of_getElem? (i := 88) rfl)) rfl
set_option maxRecDepth 100000 in
theorem ly_Bd_4 : (.lays R_Bd "WaterMen$Bond" "gapCount" "I") ∈ TB := tw_f (tw_t2 (List.mem_of_getElem? (i := 90) rfl)) rfl
set_option maxRecDepth 100000 in
theorem i_Bd : ∀ w ∈ u_ws R_Bd F_Bd 5, w ∈ TB := by
  intro w hw
  obtain ⟨k, hk, rfl⟩ := List.mem_map.mp hw
  have hk := List.mem_range.mp hk
  match k, hk with
  | 0, _ => exact ly_Bd_0
  | 1, _ => exact ly_Bd_1
  | 2, _ => exact ly_Bd_2
  | 3, _ => exact ly_Bd_3
  | 4, _ => exact ly_Bd_4
set_option maxRecDepth 100000 in
theorem ly_Bt_0 : (.laysFinal R_Bt "WaterMen$Boat" "oars" "I") ∈ TB := tw_f (tw_t2 (List.mem_of_getElem? (i := 161) rfl)) rfl
set_option maxRecDepth 100000 in
theorem ly_Bt_1 : (.lays R_Bt "WaterMen$Boat" "stairs" "I") ∈ TB := tw_f (tw_t2 (List.mem_of_getElem? (i := 163) rfl)) rfl
set_option maxRecDepth 100000 in
theorem ly_Bt_2 : (.lays R_Bt "WaterMen$Boat" "thereFrom" "I") ∈ TB := tw_f (tw_t2 (List.mem_of_getElem? (i := 165) rfl)) rfl
set_option maxRecDepth 100000 in
theorem ly_Bt_3 : (.lays R_Bt "WaterMen$Boat" "rower" "I") ∈ TB := tw_f (tw_t2 (List.mem_of_getElem? (i := 167) rfl)) rfl
set_option maxRecDepth 100000 in
theorem ly_Bt_4 : (.lays R_Bt "WaterMen$Boat" "lastTrip" "I") ∈ TB := tw_f (tw_t2 (List.mem_of_getElem? (i := 169) rfl)) rfl
set_option maxRecDepth 100000 in
theorem ly_Bt_5 : (.lays R_Bt "WaterMen$Boat" "sunk" "Z") ∈ TB := tw_f (tw_t2 (List.mem_of_getElem? (i := 171) rfl)) rfl
set_option maxRecDepth 100000 in
theorem i_Bt : ∀ w ∈ u_ws R_Bt F_Bt 6, w ∈ TB := by
  intro w hw
  obtain ⟨k, hk, rfl⟩ := List.mem_map.mp hw
  have hk := List.mem_range.mp hk
  match k, hk with
  | 0, _ => exact ly_Bt_0
  | 1, _ => exact ly_Bt_1
  | 2, _ => exact ly_Bt_2
  | 3, _ => exact ly_Bt_3
  | 4, _ => exact ly_Bt_4
  | 5, _ => exact ly_Bt_5
set_option maxRecDepth 100000 in
theorem ly_Tr_0 : (.laysFinal R_Tr "WaterMen$Trip" "boat" "I") ∈ TB := tw_f (tw_t3 (List.mem_of_getElem? (i := 211) rfl)) rfl
set_option maxRecDepth 100000 in
theorem ly_Tr_1 : (.laysFinal R_Tr "WaterMen$Trip" "man" "I") ∈ TB := tw_f (tw_t3 (List.mem_of_getElem? (i := 213) rfl)) rfl
set_option maxRecDepth 100000 in
theorem ly_Tr_2 : (.laysFinal R_Tr "WaterMen$Trip" "start" "I") ∈ TB := tw_f (tw_t3 (List.mem_of_getElem? (i := 215) rfl)) rfl
set_option maxRecDepth 100000 in
theorem ly_Tr_3 : (.laysFinal R_Tr "WaterMen$Trip" "paid" "I") ∈ TB := tw_f (tw_t3 (List.mem_of_getElem? (i := 217) rfl)) rfl
set_option maxRecDepth 100000 in
theorem ly_Tr_4 : (.lays R_Tr "WaterMen$Trip" "from" "I") ∈ TB := tw_f (tw_t3 (List.mem_of_getElem? (i := 219) rfl)) rfl
set_option maxRecDepth 100000 in
theorem ly_Tr_5 : (.lays R_Tr "WaterMen$Trip" "to" "I") ∈ TB := tw_f (tw_t3 (List.mem_of_getElem? (i := 221) rfl)) rfl
set_option maxRecDepth 100000 in
theorem ly_Tr_6 : (.lays R_Tr "WaterMen$Trip" "arrival" "I") ∈ TB := tw_f (tw_t3 (List.mem_of_getElem? (i := 223) rfl)) rfl
set_option maxRecDepth 100000 in
theorem ly_Tr_7 : (.lays R_Tr "WaterMen$Trip" "sank" "Z") ∈ TB := tw_f (tw_t3 (List.mem_of_getElem? (i := 225) rfl)) rfl
set_option maxRecDepth 100000 in
theorem i_Tr : ∀ w ∈ u_ws R_Tr F_Tr 8, w ∈ TB := by
  intro w hw
  obtain ⟨k, hk, rfl⟩ := List.mem_map.mp hw
  have hk := List.mem_range.mp hk
  match k, hk with
  | 0, _ => exact ly_Tr_0
  | 1, _ => exact ly_Tr_1
  | 2, _ => exact ly_Tr_2
  | 3, _ => exact ly_Tr_3
  | 4, _ => exact ly_Tr_4
  | 5, _ => exact ly_Tr_5
  | 6, _ => exact ly_Tr_6
  | 7, _ => exact ly_Tr_7
def NWL : List Cond := [(.methodLinkNest R_WM 11 y_Rv_init "WaterMen"), (.methodLinkNest R_WM 42 y_Tp_init "WaterMen"), (.methodLinkNest R_WM 49 y_Bx_init "WaterMen"), (.methodLinkNest R_WM 54 y_Or_init "WaterMen"), (.methodLinkNest R_WM 59 y_Mn_init "WaterMen"), (.methodLinkNest R_Rv 31 y_WM_isDay "WaterMen"), (.methodLinkNest R_Or 52 y_WM_isSunday "WaterMen"), (.methodLinkNest R_Bx 25 y_WM_isDay "WaterMen")]
def nw_is : Cond → Bool
  | .methodLinkNest _ _ _ _ => true
  | _ => false
set_option maxRecDepth 100000 in
theorem nw_0 : (.methodLinkNest R_WM 11 y_Rv_init "WaterMen") ∈ NWL := List.mem_of_getElem? (i := 0) rfl
set_option maxRecDepth 100000 in
theorem nw_1 : (.methodLinkNest R_WM 42 y_Tp_init "WaterMen") ∈ NWL := List.mem_of_getElem? (i := 1) rfl
set_option maxRecDepth 100000 in
theorem nw_2 : (.methodLinkNest R_WM 49 y_Bx_init "WaterMen") ∈ NWL := List.mem_of_getElem? (i := 2) rfl
set_option maxRecDepth 100000 in
theorem nw_3 : (.methodLinkNest R_WM 54 y_Or_init "WaterMen") ∈ NWL := List.mem_of_getElem? (i := 3) rfl
set_option maxRecDepth 100000 in
theorem nw_4 : (.methodLinkNest R_WM 59 y_Mn_init "WaterMen") ∈ NWL := List.mem_of_getElem? (i := 4) rfl
set_option maxRecDepth 100000 in
theorem nw_5 : (.methodLinkNest R_Rv 31 y_WM_isDay "WaterMen") ∈ NWL := List.mem_of_getElem? (i := 5) rfl
set_option maxRecDepth 100000 in
theorem nw_6 : (.methodLinkNest R_Or 52 y_WM_isSunday "WaterMen") ∈ NWL := List.mem_of_getElem? (i := 6) rfl
set_option maxRecDepth 100000 in
theorem nw_7 : (.methodLinkNest R_Bx 25 y_WM_isDay "WaterMen") ∈ NWL := List.mem_of_getElem? (i := 7) rfl
set_option maxRecDepth 100000 in
theorem nw_tbl : ∀ w ∈ NWL, w ∈ lw_tbl := by
  intro w hw
  simp only [NWL, List.mem_cons, List.not_mem_nil, or_false] at hw
  rcases hw with rfl | rfl | rfl | rfl | rfl | rfl | rfl | rfl
  · exact tw_t1 (List.mem_of_getElem? (i := 27) rfl)
  · exact tw_t1 (List.mem_of_getElem? (i := 68) rfl)
  · exact tw_t1 (List.mem_of_getElem? (i := 95) rfl)
  · exact tw_t1 (List.mem_of_getElem? (i := 127) rfl)
  · exact tw_t1 (List.mem_of_getElem? (i := 160) rfl)
  · exact tw_t2 (List.mem_of_getElem? (i := 55) rfl)
  · exact tw_t3 (List.mem_of_getElem? (i := 139) rfl)
  · exact tw_t4 (List.mem_of_getElem? (i := 4) rfl)
end
section
section HB
variable {p : Program} {l : Launch} {e : Env} {R : Room} {s : State} {m : MethodId} {args : Array Value} {below : List Frame} {meth : Method} {c : Code} {H : Heap} {locs : List Loc} {cells slots : Nat} {Q : State → Prop}
variable {cc : ByteArray} {pc : Nat} {ls : Array Slot} {rest : List Value}
theorem hb_tv {a : Value} (v : Value) (h : a = v) (k : W p l e R s m args below meth c H locs cells slots Q (F0 m pc ls (v :: rest))) : W p l e R s m args below meth c H locs cells slots Q (F0 m pc ls (a :: rest)) := by
  subst h; exact k
theorem hb_ti {x : Int32} (v : Int32) (h : x = v) (k : W p l e R s m args below meth c H locs cells slots Q (F0 m pc ls (.int v :: rest))) : W p l e R s m args below meth c H locs cells slots Q (F0 m pc ls (.int x :: rest)) := by
  subst h; exact k
theorem hb_tl {x : Int64} (v : Int64) (h : x = v) (k : W p l e R s m args below meth c H locs cells slots Q (F0 m pc ls (.long v :: rest))) : W p l e R s m args below meth c H locs cells slots Q (F0 m pc ls (.long x :: rest)) := by
  subst h; exact k
theorem hb_in {i N : Int32} {n : Nat} (h1 : ¬ i < 0) (h2 : ¬ N ≤ i) (hN : N.toInt ≤ (n : Int)) : vp_in i n := by
  rw [vp_in_iff]
  rw [Int32.lt_iff_toInt_lt] at h1
  rw [Int32.le_iff_toInt_le] at h2
  have h0 : (0 : Int32).toInt = 0 := by decide
  omega
theorem hb_inl {i N : Int32} {n : Nat} (h1 : ¬ i < 0) (h2 : ¬ N < i) (hN : N.toInt < (n : Int)) : vp_in i n := by
  rw [vp_in_iff]
  rw [Int32.lt_iff_toInt_lt] at h1 h2
  have h0 : (0 : Int32).toInt = 0 := by decide
  omega
theorem hb_inp {i N : Int32} {n : Nat} (h1 : ¬ i < 0) (h2 : i < N) (hN : N.toInt ≤ (n : Int)) : vp_in i n := by
  rw [vp_in_iff]
  rw [Int32.lt_iff_toInt_lt] at h1 h2
  have h0 : (0 : Int32).toInt = 0 := by decide
  omega
theorem hb_free {A0 : Nat → Prop} {ws : va_W} {H0 H : Heap} {locs : List Loc} (hD : va_D A0 ws) (hS : va_S A0 H0 H locs) (hA : ∀ q, H0.size ≤ q → A0 q) : ∀ q, va_A ws H.size q → A0 q := by
  intro q h
  rcases h with ⟨k, e, h⟩ | h
  · exact hD.2 k _ h
  · exact hA q (Nat.le_trans hS.1 h)
end HB
/-- the words of nest mates -/
def NW (U : State) : Prop := ∀ w ∈ NWL, va_Nw w U
theorem NW.warm {s U : State} (hW : s.WarmedH U.vm) (h : NW s) : NW U := by
  intro w hw
  have h1 := h w hw
  have h2 : ∀ w ∈ NWL, nw_is w = true := by decide +kernel
  have h3 := h2 w hw
  cases w <;> first | exact va_Nw.warmM hW h1 | exact absurd h3 (by simp [nw_is])
theorem NW.blind {U : State} {g : JFrame} {mk : MethodId} {a : Array Value} (h : NW U) : NW (U.calling g mk a) := by
  intro w hw
  have h1 := h w hw
  have h2 : ∀ w ∈ NWL, w.onTables = true := by decide +kernel
  exact va_Nw.same (u := U) (U := U.calling g mk a) (h2 w hw) rfl h1
def PR (dC : Nat → ClassId) (dI : Nat → Nat → Nat) (ws : va_W) (tys : List (ClassId × FieldType)) (U : State) : Prop := va_P (dC, dI) vwCl ws U.heap ∧ va_K (dC, dI) vwCl tys U ∧ NW U
def PC (dC : Nat → ClassId) (dI : Nat → Nat → Nat) (ws : va_W) (tys : List (ClassId × FieldType)) (sz : Nat) (U : State) : Prop := U.heap.size = sz ∧ va_P (dC, dI) vwCl ws U.heap ∧ va_K (dC, dI) vwCl tys U ∧ va_D (fun _ => True) ws ∧ NW U
theorem pr_blind {av : List Value} {dC : Nat → ClassId} {dI : Nat → Nat → Nat} {ws : va_W} {tys : List (ClassId × FieldType)} : FrameBlind (va_Pc av (PR dC dI ws tys)) := by
  intro a U g mk q
  obtain ⟨q0, qP, qK, qN⟩ := q
  exact ⟨q0, qP, va_K.moved (u := U) (U := U.calling g mk a) (Vm.Alike.refl U.vm) qK, qN.blind⟩
theorem pc_blind {av : List Value} {dC : Nat → ClassId} {dI : Nat → Nat → Nat} {ws : va_W} {tys : List (ClassId × FieldType)} {sz : Nat} : FrameBlind (va_Pc av (PC dC dI ws tys sz)) := by
  intro a U g mk q
  obtain ⟨q0, q1, qP, qK, qD, qN⟩ := q
  exact ⟨q0, q1, qP, va_K.moved (u := U) (U := U.calling g mk a) (Vm.Alike.refl U.vm) qK, qD, qN.blind⟩
theorem pr_pre {s : State} {H : Heap} {av : List Value} {dC : Nat → ClassId} {dI : Nat → Nat → Nat} {ws : va_W} {tys : List (ClassId × FieldType)} (hP : va_P (dC, dI) vwCl ws H) (hK : va_K (dC, dI) vwCl tys s) (hN : NW s) : ∀ U : State, U.heap = H → s.WarmedH U.vm → va_Pc av (PR dC dI ws tys) av.toArray U :=
  fun U hU hW => ⟨rfl, by rw [hU]; exact hP, va_K.moved hW.alike hK, hN.warm hW⟩
theorem pc_pre {A : Nat → Prop} {s : State} {H : Heap} {av : List Value} {dC : Nat → ClassId} {dI : Nat → Nat → Nat} {ws : va_W} {tys : List (ClassId × FieldType)} (hP : va_P (dC, dI) vwCl ws H) (hK : va_K (dC, dI) vwCl tys s) (hD : va_D A ws) (hN : NW s) : ∀ U : State, U.heap = H → s.WarmedH U.vm → va_Pc av (PC dC dI ws tys H.size) av.toArray U :=
  fun U hU hW => ⟨rfl, by rw [hU], by rw [hU]; exact hP, va_K.moved hW.alike hK, hD.weaken (fun _ _ _ _ => trivial), hN.warm hW⟩
theorem gd_I {cy : Cond} (h : cy ∈ TB) : GoodIn TB (cy :: TB) := by
  intro w hw
  have hm : w ∈ TB := by
    rcases List.mem_cons.mp hw with rfl | h'
    · exact h
    · exact h'
  exact ⟨hm, good_of_word (List.mem_filter.mp hm).2⟩
theorem gd_app {a : List Cond} (ha : ∀ w ∈ a, w ∈ TB) {b : List Cond} (hb : GoodIn TB b) : GoodIn TB (a ++ b) := by
  intro w hw
  rcases List.mem_append.mp hw with h | h
  · exact ⟨ha w h, good_of_word (List.mem_filter.mp (ha w h)).2⟩
  · exact hb w h
theorem gd_V {own C : String} {idx : Nat} {y : MethodName} {cy : Cond} (h1 : Cond.methodLink own idx y ∈ TB) (h2 : Cond.instanceMethod y ∈ TB) (h3 : Cond.selects C y y ∈ TB) (h4 : Cond.initialized C ∈ TB) (h5 : cy ∈ TB) : GoodIn TB (wsV own idx C y (cy :: TB)) := by
  unfold wsV
  refine gd_app (fun w hw => ?_) (gd_I h5)
  simp only [List.mem_cons, List.not_mem_nil, or_false] at hw
  rcases hw with rfl | rfl | rfl | rfl <;> assumption
theorem gd_S {own : String} {idx : Nat} {y : MethodName} {cy : Cond} (h1 : Cond.methodLink own idx y ∈ TB) (h2 : Cond.static y ∈ TB) (h4 : Cond.initialized own ∈ TB) (h5 : cy ∈ TB) : GoodIn TB (wsS own idx y (cy :: TB)) := by
  unfold wsS
  refine gd_app (fun w hw => ?_) (gd_I h5)
  simp only [List.mem_cons, List.not_mem_nil, or_false] at hw
  rcases hw with rfl | rfl | rfl <;> assumption
theorem gd_S2 {own : String} {idx : Nat} {y : MethodName} {cy : Cond} (h1 : Cond.methodLink own idx y ∈ TB) (h2 : Cond.static y ∈ TB) (h4 : Cond.initialized y.cls ∈ TB) (h5 : cy ∈ TB) : GoodIn TB (va_wsS own idx y (cy :: TB)) := by
  unfold va_wsS
  refine gd_app (fun w hw => ?_) (gd_I h5)
  simp only [List.mem_cons, List.not_mem_nil, or_false] at hw
  rcases hw with rfl | rfl | rfl <;> assumption
section HA
variable {p : Program} {l : Launch} {e : Env} {R : Room} {s : State} {m : MethodId} {args : Array Value} {below : List Frame} {meth : Method} {c : Code} {H : Heap} {locs : List Loc} {cells slots : Nat} {Q : State → Prop}
variable {cc : ByteArray} {pc : Nat} {ls : Array Slot} {rest : List Value} {D : va_G} {cl : List vw_C} {A : Nat → Prop} {a : Nat} {tys : List (ClassId × FieldType)} {ws : va_W} {H0 : Heap}
theorem va_aldA (hexec : p.tables.exec = Jvm.exec) (hb : c.code = cc) (hK : va_K D cl tys s) (hP : va_P D cl ws H) (q0 t0 : Nat) {cA : ClassId} {t : FieldType} {n : Nat} {f : Nat → Option Nat} (ha : ws[q0]? = some (a, .inl (cA, n, .inr (.inr (.inr (.inr f)))))) (ht : tys[t0]? = some (cA, .array t)) {i : Int32} (hin : vp_in i n) (hdg : decode cc pc = .ok (.aaload, 1))
    (kk : W p l e R s m args below meth c H locs cells slots Q (F0 m (pc + 1) ls (va_rf (f i.toNatClampNeg) :: rest))) : W p l e R s m args below meth c H locs cells slots Q (F0 m pc ls (.int i :: .ref a :: rest)) := by
  have hlt : i.toNatClampNeg < n := Nat.not_le.mp fun q => hin (Or.inr q)
  exact W.aald (v := va_rf (f i.toNatClampNeg)) (ty := .array t) hexec hb (hP q0 _ ha) ((hK.2 t0 _ ht).1 n (fun j => va_rf (f j))) rfl (fun q => by cases q) (by show ¬ (i < 0 ∨ (arrV _ _ _).slots.size ≤ _); rw [arrV_size]; exact hin) (by show (arrV _ _ _).slots[_]? = _; rw [arrV_read _ _ hlt]) rfl rfl hdg kk
theorem va_newA (hexec : p.tables.exec = Jvm.exec) (hb : c.code = cc) {own : String} {index : Nat} {t : FieldType} (hown : s.vm.findClass own = some m.cls) (hclink : (Cond.classLink own index (FieldType.array t).toString).before args s = true) (hover : (Cond.arrayOver (.array t)).before args s = true) (hK : va_K D cl tys s) (hP : va_P D cl ws H) (hD : va_D A ws) (hS : va_S A H0 H locs) (hA : ∀ q, H0.size ≤ q → A q)
    {n : Int32} {N' : Nat} (hn : ¬ n < 0) (hN : n.toNatClampNeg = N') (hbytes : N' * 4 ≤ 536870912) (hcells : cells + 1 ≤ R.cells) (hslots : slots + N' ≤ R.slots) (hdg : decode cc pc = .ok (.anewarray index, 3))
    (kk : ∀ (q : Nat) (cA : ClassId) (H1 : Heap), va_K D cl (tys ++ [(cA, .array t)]) s → va_P D cl (ws ++ [(q, .inl (cA, N', .inr (.inr (.inr (.inr (fun _ => none))))))]) H1 → va_D A (ws ++ [(q, .inl (cA, N', .inr (.inr (.inr (.inr (fun _ => none))))))]) → va_S A H0 H1 locs →
      W p l e R s m args below meth c H1 locs (cells + 1) (slots + N') Q (F0 m (pc + 3) ls (.ref q :: rest))) : W p l e R s m args below meth c H locs cells slots Q (F0 m pc ls (.int n :: rest)) := by
  subst hN
  refine W.anewA hexec hb hown hclink hover rfl hdg rfl hn hbytes hcells hslots fun cA kA comp f1 f2 f3 f4 => ?_
  generalize hH1 : H.push ({ cls := cA, slots := Array.replicate n.toNatClampNeg .null, vm := .none } : Cell) = H1
  have z1 : H1.size = H.size + 1 := by rw [← hH1, Array.size_push]
  have e1 : H1[H.size]? = some (arrV cA n.toNatClampNeg (fun _ => .null)) := by rw [← hH1, Array.getElem?_push_size, ← arrV_new]
  have o1 : ∀ q : Nat, q < H.size → H1[q]? = H[q]? := fun q hq => by rw [← hH1, Array.getElem?_push, if_neg (Nat.ne_of_lt hq)]
  have hAr : ArrOfT s cA (.array t) := fun N z => ⟨(fun k h => by cases h), kA, f2, comp, f3⟩
  have hk : ∀ (k : Nat) (x : Nat × va_E), ws[k]? = some x → H1[x.1]? = H[x.1]? := fun k x hx => o1 x.1 ((hP k x hx).lt)
  refine kk H.size cA H1 ⟨hK.1, fun k x hx => ?_⟩ ((hP.kept hk).app (fun k x hx => ?_)) (hD.push hP rfl (hA _ hS.1)) ⟨Nat.le_trans hS.1 (by omega), fun x h1 h2 => (o1 x (Nat.lt_of_lt_of_le h1 hS.1)).trans (hS.2.1 x h1 h2), hS.2.2⟩
  · by_cases hl : k < tys.length
    · rw [List.getElem?_append_left hl] at hx
      exact hK.2 k x hx
    · rw [List.getElem?_append_right (by omega)] at hx
      have hz : k - tys.length < 1 := (List.getElem?_eq_some_iff.mp hx).1
      rw [show k - tys.length = 0 by omega] at hx
      cases hx
      exact ⟨hAr, f1⟩
  · have hz : k < 1 := (List.getElem?_eq_some_iff.mp hx).1
    rw [show k = 0 by omega] at hx
    cases hx
    show H1[H.size]? = some (vp_cell _ _)
    rw [vp_cell_q]
    exact e1
theorem va_astA (hexec : p.tables.exec = Jvm.exec) (hb : c.code = cc) (hover : (Cond.arrayOver (.array .int)).before args s = true) (hK : va_K D cl tys s) (hP : va_P D cl ws H) (hD : va_D A ws) (hS : va_S A H0 H locs) (q0 t0 qk tk : Nat) {cA cV : ClassId} {x : vp_A} {n v : Nat} {f : Nat → Option Nat} (ha : ws[q0]? = some (a, .inl (cA, n, .inr (.inr (.inr (.inr f)))))) (ht : tys[t0]? = some (cA, .array .int)) (hv : ws[qk]? = some (v, .inl (cV, x))) (htk : tys[tk]? = some (cV, .int)) {i : Int32} (hin : vp_in i n) (hdg : decode cc pc = .ok (.aastore, 1))
    (kk : ∀ (H1 : Heap) (locs1 : List Loc), va_P D cl (ws.set q0 (a, .inl (cA, n, .inr (.inr (.inr (.inr (va_up f i.toNatClampNeg (some v)))))))) H1 → va_D A (ws.set q0 (a, .inl (cA, n, .inr (.inr (.inr (.inr (va_up f i.toNatClampNeg (some v)))))))) → va_S A H0 H1 locs1 → W p l e R s m args below meth c H1 locs1 cells slots Q (F0 m (pc + 1) ls rest)) : W p l e R s m args below meth c H locs cells slots Q (F0 m pc ls (.ref v :: .int i :: .ref a :: rest)) := by
  have hlt : i.toNatClampNeg < n := Nat.not_le.mp fun q => hin (Or.inr q)
  have h0 : ¬ i < 0 := fun q => hin (Or.inl q)
  have g1 : H[v]? = some (vp_cell cV x) := hP qk _ hv
  have hvm0 : (vp_cell cV x).vm = .none := by
    obtain ⟨n, f | f | f | f | f⟩ := x <;> rfl
  have hcl0 : (vp_cell cV x).cls = cV := by
    obtain ⟨n, f | f | f | f | f⟩ := x <;> rfl
  obtain ⟨comp, c1, kA, k0, k1, k2, k3, k4⟩ := arrayOverA_spec hover
  have hcA : c1 = cA := Option.some.inj (k4.symm.trans (hK.2 t0 _ ht).2)
  subst hcA
  have hcV : comp = cV := Option.some.inj (k0.symm.trans (hK.2 tk _ htk).2)
  subst hcV
  obtain ⟨kE, hkE, -⟩ := Vm.findClass_spec k0
  refine W.aast hexec hb (hP q0 _ ha) (fun q h => by cases h) (fun h => by cases h) k2 k3 rfl hkE ⟨h0, by show _ < (arrV _ _ _).slots.size; rw [arrV_size]; exact hlt⟩ g1 (fun q h => by rw [hvm0] at h; cases h) (by rw [hcl0]; exact hkE) (by rw [hcl0]; exact va_asg _ _) rfl rfl hdg fun H1 e z oq => ?_
  refine kk H1 _ (hP.set hD ha ?_ oq) (hD.set ha) (hS.put z oq (hD.2 q0 _ ha))
  show H1[a]? = some (vp_cell _ _)
  rw [e]
  rw [vp_cell_q, vp_cell_q, arrV_store]
  congr 2
  funext q
  by_cases hq : q = i.toNatClampNeg
  · subst hq
    simp [updV, va_up, va_rf]
  · simp [updV, va_up, hq]
end HA
end
section
set_option maxRecDepth 100000 in
theorem tw_0 : (.fieldLink R_WM 12 "WaterMen" "river" "LWaterMen$River;") ∈ TB := tw_f (tw_t1 (List.mem_of_getElem? (i := 194) rfl)) rfl
set_option maxRecDepth 100000 in
theorem tw_1 : (.fieldLink R_Rv 35 "WaterMen$River" "stairCount" "I") ∈ TB := tw_f (tw_t1 (List.mem_of_getElem? (i := 40) rfl)) rfl
set_option maxRecDepth 100000 in
theorem tw_2 : (.code y_Rv_highest b_Rv_highest 1 (some .int)) ∈ TB := tw_f (tw_t2 (List.mem_of_getElem? (i := 1) rfl)) rfl
set_option maxRecDepth 100000 in
theorem tw_3 : (.initialized R_Rv) ∈ TB := tw_f (tw_t1 (List.mem_of_getElem? (i := 2) rfl)) rfl
set_option maxRecDepth 100000 in
theorem tw_4 : (.methodLink R_WM 60 y_Rv_highest) ∈ TB := tw_f (tw_t1 (List.mem_of_getElem? (i := 238) rfl)) rfl
set_option maxRecDepth 100000 in
theorem tw_5 : (.instanceMethod y_Rv_highest) ∈ TB := tw_f (tw_t1 (List.mem_of_getElem? (i := 239) rfl)) rfl
set_option maxRecDepth 100000 in
theorem tw_6 : (.selects R_Rv y_Rv_highest y_Rv_highest) ∈ TB := tw_f (tw_t2 (List.mem_of_getElem? (i := 0) rfl)) rfl
set_option maxRecDepth 100000 in
theorem tw_7 : (.fieldLink R_WM 64 "WaterMen$River" "stairCount" "I") ∈ TB := tw_f (tw_t1 (List.mem_of_getElem? (i := 39) rfl)) rfl
set_option maxRecDepth 100000 in
theorem tw_8 : (.fieldLink R_Rv 9 "WaterMen$River" "milesUp" "[I") ∈ TB := tw_f (tw_t1 (List.mem_of_getElem? (i := 33) rfl)) rfl
set_option maxRecDepth 100000 in
theorem tw_9 : (.code y_Rv_addStairs b_Rv_addStairs 2 (some .int)) ∈ TB := tw_f (tw_t2 (List.mem_of_getElem? (i := 5) rfl)) rfl
set_option maxRecDepth 100000 in
theorem tw_10 : (.methodLink R_WM 68 y_Rv_addStairs) ∈ TB := tw_f (tw_t2 (List.mem_of_getElem? (i := 2) rfl)) rfl
set_option maxRecDepth 100000 in
theorem tw_11 : (.instanceMethod y_Rv_addStairs) ∈ TB := tw_f (tw_t2 (List.mem_of_getElem? (i := 3) rfl)) rfl
set_option maxRecDepth 100000 in
theorem tw_12 : (.selects R_Rv y_Rv_addStairs y_Rv_addStairs) ∈ TB := tw_f (tw_t2 (List.mem_of_getElem? (i := 4) rfl)) rfl
set_option maxRecDepth 100000 in
theorem tw_13 : (.code y_WM_isHour b_WM_isHour 1 (some .boolean)) ∈ TB := tw_f (tw_t2 (List.mem_of_getElem? (i := 19) rfl)) rfl
set_option maxRecDepth 100000 in
theorem tw_14 : (.initialized R_WM) ∈ TB := tw_f (tw_t1 (List.mem_of_getElem? (i := 1) rfl)) rfl
set_option maxRecDepth 100000 in
theorem tw_15 : (.methodLink R_WM 79 y_WM_isHour) ∈ TB := tw_f (tw_t2 (List.mem_of_getElem? (i := 17) rfl)) rfl
set_option maxRecDepth 100000 in
theorem tw_16 : (.static y_WM_isHour) ∈ TB := tw_f (tw_t2 (List.mem_of_getElem? (i := 18) rfl)) rfl
set_option maxRecDepth 100000 in
theorem tw_17 : (.code y_WM_isLevel b_WM_isLevel 1 (some .boolean)) ∈ TB := tw_f (tw_t2 (List.mem_of_getElem? (i := 22) rfl)) rfl
set_option maxRecDepth 100000 in
theorem tw_18 : (.methodLink R_WM 82 y_WM_isLevel) ∈ TB := tw_f (tw_t2 (List.mem_of_getElem? (i := 20) rfl)) rfl
set_option maxRecDepth 100000 in
theorem tw_19 : (.static y_WM_isLevel) ∈ TB := tw_f (tw_t2 (List.mem_of_getElem? (i := 21) rfl)) rfl
set_option maxRecDepth 100000 in
theorem tw_20 : (.fieldLink R_WM 89 "WaterMen$River" "table" "[I") ∈ TB := tw_f (tw_t1 (List.mem_of_getElem? (i := 35) rfl)) rfl
set_option maxRecDepth 100000 in
theorem tw_21 : (.fieldLink R_WM 18 "WaterMen" "men" "[LWaterMen$Man;") ∈ TB := tw_f (tw_t1 (List.mem_of_getElem? (i := 195) rfl)) rfl
set_option maxRecDepth 100000 in
theorem tw_22 : (.code y_WM_manAt b_WM_manAt 2 (some (.object "WaterMen$Man"))) ∈ TB := tw_f (tw_t2 (List.mem_of_getElem? (i := 63) rfl)) rfl
set_option maxRecDepth 100000 in
theorem tw_23 : (.methodLink R_WM 107 y_WM_manAt) ∈ TB := tw_f (tw_t2 (List.mem_of_getElem? (i := 60) rfl)) rfl
set_option maxRecDepth 100000 in
theorem tw_24 : (.instanceMethod y_WM_manAt) ∈ TB := tw_f (tw_t2 (List.mem_of_getElem? (i := 62) rfl)) rfl
set_option maxRecDepth 100000 in
theorem tw_25 : (.selects R_WM y_WM_manAt y_WM_manAt) ∈ TB := tw_f (tw_s1 (List.mem_of_getElem? (i := 1) rfl)) rfl
set_option maxRecDepth 100000 in
theorem tw_26 : (.fieldLink R_WM 111 "WaterMen$Man" "state" "I") ∈ TB := tw_f (tw_t1 (List.mem_of_getElem? (i := 165) rfl)) rfl
set_option maxRecDepth 100000 in
theorem tw_27 : (.code y_Md_in b_Md_in 3 (some .boolean)) ∈ TB := tw_f (tw_t4 (List.mem_of_getElem? (i := 121) rfl)) rfl
set_option maxRecDepth 100000 in
theorem tw_28 : (.initialized R_Md) ∈ TB := tw_f (tw_t1 (List.mem_of_getElem? (i := 7) rfl)) rfl
set_option maxRecDepth 100000 in
theorem tw_29 : (.methodLink R_Md 10 y_Md_in) ∈ TB := tw_f (tw_t4 (List.mem_of_getElem? (i := 119) rfl)) rfl
set_option maxRecDepth 100000 in
theorem tw_30 : (.static y_Md_in) ∈ TB := tw_f (tw_t4 (List.mem_of_getElem? (i := 120) rfl)) rfl
set_option maxRecDepth 100000 in
theorem tw_31 : (.fieldLink R_Md 14 "WaterMenModel" "stairs" "I") ∈ TB := tw_f (tw_t4 (List.mem_of_getElem? (i := 164) rfl)) rfl
set_option maxRecDepth 100000 in
theorem tw_32 : (.fieldLink R_Md 32 "WaterMenModel" "miles" "[I") ∈ TB := tw_f (tw_t4 (List.mem_of_getElem? (i := 165) rfl)) rfl
set_option maxRecDepth 100000 in
theorem tw_33 : (.fieldLink R_Md 25 "WaterMenModel" "table" "[I") ∈ TB := tw_f (tw_t4 (List.mem_of_getElem? (i := 167) rfl)) rfl
set_option maxRecDepth 100000 in
theorem tw_34 : (.code y_Md_isMan b_Md_isMan 1 (some .boolean)) ∈ TB := tw_f (tw_t5 (List.mem_of_getElem? (i := 122) rfl)) rfl
set_option maxRecDepth 100000 in
theorem tw_35 : (.methodLink R_Md 186 y_Md_isMan) ∈ TB := tw_f (tw_t5 (List.mem_of_getElem? (i := 120) rfl)) rfl
set_option maxRecDepth 100000 in
theorem tw_36 : (.static y_Md_isMan) ∈ TB := tw_f (tw_t5 (List.mem_of_getElem? (i := 121) rfl)) rfl
set_option maxRecDepth 100000 in
theorem tw_37 : (.fieldLink R_Md 58 "WaterMenModel" "state" "[I") ∈ TB := tw_f (tw_t4 (List.mem_of_getElem? (i := 171) rfl)) rfl
end
section
set_option maxRecDepth 100000 in
theorem d_Md_bind_0 : decode b_Md_bind 0 = .ok (.iload_n 1, 1) := by decide +kernel
set_option maxRecDepth 100000 in
theorem d_Md_bind_1 : decode b_Md_bind 1 = .ok (.invokestatic 186, 3) := by decide +kernel
set_option maxRecDepth 100000 in
theorem d_Md_bind_4 : decode b_Md_bind 4 = .ok (.ifCond .eq 10, 3) := by decide +kernel
set_option maxRecDepth 100000 in
theorem d_Md_bind_7 : decode b_Md_bind 7 = .ok (.iload_n 2, 1) := by decide +kernel
set_option maxRecDepth 100000 in
theorem d_Md_bind_8 : decode b_Md_bind 8 = .ok (.invokestatic 186, 3) := by decide +kernel
set_option maxRecDepth 100000 in
theorem d_Md_bind_11 : decode b_Md_bind 11 = .ok (.ifCond .ne 5, 3) := by decide +kernel
set_option maxRecDepth 100000 in
theorem d_Md_bind_14 : decode b_Md_bind 14 = .ok (.iconst (-1), 1) := by decide +kernel
set_option maxRecDepth 100000 in
theorem d_Md_bind_15 : decode b_Md_bind 15 = .ok (.ireturn, 1) := by decide +kernel
set_option maxRecDepth 100000 in
theorem d_Md_bind_16 : decode b_Md_bind 16 = .ok (.aload_n 0, 1) := by decide +kernel
set_option maxRecDepth 100000 in
theorem d_Md_bind_17 : decode b_Md_bind 17 = .ok (.getfield 58, 3) := by decide +kernel
set_option maxRecDepth 100000 in
theorem d_Md_bind_20 : decode b_Md_bind 20 = .ok (.iload_n 1, 1) := by decide +kernel
set_option maxRecDepth 100000 in
theorem d_Md_bind_21 : decode b_Md_bind 21 = .ok (.iaload, 1) := by decide +kernel
set_option maxRecDepth 100000 in
theorem d_Md_bind_22 : decode b_Md_bind 22 = .ok (.ifCond .ne 13, 3) := by decide +kernel
set_option maxRecDepth 100000 in
theorem d_Md_bind_25 : decode b_Md_bind 25 = .ok (.aload_n 0, 1) := by decide +kernel
set_option maxRecDepth 100000 in
theorem d_Md_bind_26 : decode b_Md_bind 26 = .ok (.getfield 58, 3) := by decide +kernel
set_option maxRecDepth 100000 in
theorem d_Md_bind_29 : decode b_Md_bind 29 = .ok (.iload_n 2, 1) := by decide +kernel
set_option maxRecDepth 100000 in
theorem d_Md_bind_30 : decode b_Md_bind 30 = .ok (.iaload, 1) := by decide +kernel
set_option maxRecDepth 100000 in
theorem d_Md_bind_31 : decode b_Md_bind 31 = .ok (.iconst 2, 1) := by decide +kernel
set_option maxRecDepth 100000 in
theorem d_Md_bind_32 : decode b_Md_bind 32 = .ok (.if_icmp .eq 6, 3) := by decide +kernel
set_option maxRecDepth 100000 in
theorem d_Md_bind_35 : decode b_Md_bind 35 = .ok (.bipush (-2), 2) := by decide +kernel
set_option maxRecDepth 100000 in
theorem d_Md_bind_37 : decode b_Md_bind 37 = .ok (.ireturn, 1) := by decide +kernel
set_option maxRecDepth 100000 in
theorem d_Md_free_0 : decode b_Md_free 0 = .ok (.iload_n 1, 1) := by decide +kernel
set_option maxRecDepth 100000 in
theorem d_Md_free_1 : decode b_Md_free 1 = .ok (.invokestatic 186, 3) := by decide +kernel
set_option maxRecDepth 100000 in
theorem d_Md_free_4 : decode b_Md_free 4 = .ok (.ifCond .ne 5, 3) := by decide +kernel
set_option maxRecDepth 100000 in
theorem d_Md_free_7 : decode b_Md_free 7 = .ok (.iconst (-1), 1) := by decide +kernel
set_option maxRecDepth 100000 in
theorem d_Md_free_8 : decode b_Md_free 8 = .ok (.ireturn, 1) := by decide +kernel
set_option maxRecDepth 100000 in
theorem d_Md_free_9 : decode b_Md_free 9 = .ok (.aload_n 0, 1) := by decide +kernel
set_option maxRecDepth 100000 in
theorem d_Md_free_10 : decode b_Md_free 10 = .ok (.getfield 58, 3) := by decide +kernel
set_option maxRecDepth 100000 in
theorem d_Md_free_13 : decode b_Md_free 13 = .ok (.iload_n 1, 1) := by decide +kernel
set_option maxRecDepth 100000 in
theorem d_Md_free_14 : decode b_Md_free 14 = .ok (.iaload, 1) := by decide +kernel
set_option maxRecDepth 100000 in
theorem d_Md_free_15 : decode b_Md_free 15 = .ok (.ifCond .eq 6, 3) := by decide +kernel
set_option maxRecDepth 100000 in
theorem d_Md_free_21 : decode b_Md_free 21 = .ok (.aload_n 0, 1) := by decide +kernel
set_option maxRecDepth 100000 in
theorem d_Md_free_22 : decode b_Md_free 22 = .ok (.getfield 58, 3) := by decide +kernel
set_option maxRecDepth 100000 in
theorem d_Md_free_25 : decode b_Md_free 25 = .ok (.iload_n 1, 1) := by decide +kernel
set_option maxRecDepth 100000 in
theorem d_Md_free_26 : decode b_Md_free 26 = .ok (.iconst 2, 1) := by decide +kernel
set_option maxRecDepth 100000 in
theorem d_Md_free_27 : decode b_Md_free 27 = .ok (.iastore, 1) := by decide +kernel
set_option maxRecDepth 100000 in
theorem d_Md_free_28 : decode b_Md_free 28 = .ok (.iconst 1, 1) := by decide +kernel
set_option maxRecDepth 100000 in
theorem d_Md_free_29 : decode b_Md_free 29 = .ok (.ireturn, 1) := by decide +kernel
set_option maxRecDepth 100000 in
theorem d_Md_in_0 : decode b_Md_in 0 = .ok (.iload_n 0, 1) := by decide +kernel
set_option maxRecDepth 100000 in
theorem d_Md_in_1 : decode b_Md_in 1 = .ok (.iload_n 1, 1) := by decide +kernel
set_option maxRecDepth 100000 in
theorem d_Md_in_2 : decode b_Md_in 2 = .ok (.if_icmp .lt 12, 3) := by decide +kernel
set_option maxRecDepth 100000 in
theorem d_Md_in_5 : decode b_Md_in 5 = .ok (.iload_n 0, 1) := by decide +kernel
set_option maxRecDepth 100000 in
theorem d_Md_in_6 : decode b_Md_in 6 = .ok (.iload_n 2, 1) := by decide +kernel
set_option maxRecDepth 100000 in
theorem d_Md_in_7 : decode b_Md_in 7 = .ok (.if_icmp .gt 7, 3) := by decide +kernel
set_option maxRecDepth 100000 in
theorem d_Md_in_10 : decode b_Md_in 10 = .ok (.iconst 1, 1) := by decide +kernel
set_option maxRecDepth 100000 in
theorem d_Md_in_11 : decode b_Md_in 11 = .ok (.goto 4, 3) := by decide +kernel
set_option maxRecDepth 100000 in
theorem d_Md_in_14 : decode b_Md_in 14 = .ok (.iconst 0, 1) := by decide +kernel
set_option maxRecDepth 100000 in
theorem d_Md_in_15 : decode b_Md_in 15 = .ok (.ireturn, 1) := by decide +kernel
set_option maxRecDepth 100000 in
theorem d_Md_isMan_0 : decode b_Md_isMan 0 = .ok (.iload_n 0, 1) := by decide +kernel
set_option maxRecDepth 100000 in
theorem d_Md_isMan_1 : decode b_Md_isMan 1 = .ok (.iconst 0, 1) := by decide +kernel
set_option maxRecDepth 100000 in
theorem d_Md_isMan_2 : decode b_Md_isMan 2 = .ok (.bipush 39, 2) := by decide +kernel
set_option maxRecDepth 100000 in
theorem d_Md_isMan_4 : decode b_Md_isMan 4 = .ok (.invokestatic 10, 3) := by decide +kernel
set_option maxRecDepth 100000 in
theorem d_Md_isMan_7 : decode b_Md_isMan 7 = .ok (.ireturn, 1) := by decide +kernel
set_option maxRecDepth 100000 in
theorem d_Md_stairs_0 : decode b_Md_stairs 0 = .ok (.iload_n 1, 1) := by decide +kernel
set_option maxRecDepth 100000 in
theorem d_Md_stairs_1 : decode b_Md_stairs 1 = .ok (.iconst 0, 1) := by decide +kernel
set_option maxRecDepth 100000 in
theorem d_Md_stairs_2 : decode b_Md_stairs 2 = .ok (.bipush 60, 2) := by decide +kernel
set_option maxRecDepth 100000 in
theorem d_Md_stairs_4 : decode b_Md_stairs 4 = .ok (.invokestatic 10, 3) := by decide +kernel
set_option maxRecDepth 100000 in
theorem d_Md_stairs_7 : decode b_Md_stairs 7 = .ok (.ifCond .eq 25, 3) := by decide +kernel
set_option maxRecDepth 100000 in
theorem d_Md_stairs_10 : decode b_Md_stairs 10 = .ok (.aload_n 0, 1) := by decide +kernel
set_option maxRecDepth 100000 in
theorem d_Md_stairs_11 : decode b_Md_stairs 11 = .ok (.getfield 14, 3) := by decide +kernel
set_option maxRecDepth 100000 in
theorem d_Md_stairs_14 : decode b_Md_stairs 14 = .ok (.ifCond .le 20, 3) := by decide +kernel
set_option maxRecDepth 100000 in
theorem d_Md_stairs_32 : decode b_Md_stairs 32 = .ok (.iconst (-1), 1) := by decide +kernel
set_option maxRecDepth 100000 in
theorem d_Md_stairs_33 : decode b_Md_stairs 33 = .ok (.ireturn, 1) := by decide +kernel
set_option maxRecDepth 100000 in
theorem d_Md_stairs_34 : decode b_Md_stairs 34 = .ok (.aload_n 0, 1) := by decide +kernel
set_option maxRecDepth 100000 in
theorem d_Md_stairs_35 : decode b_Md_stairs 35 = .ok (.getfield 14, 3) := by decide +kernel
set_option maxRecDepth 100000 in
theorem d_Md_stairs_38 : decode b_Md_stairs 38 = .ok (.bipush 12, 2) := by decide +kernel
set_option maxRecDepth 100000 in
theorem d_Md_stairs_40 : decode b_Md_stairs 40 = .ok (.if_icmp .ne 6, 3) := by decide +kernel
set_option maxRecDepth 100000 in
theorem d_Md_stairs_46 : decode b_Md_stairs 46 = .ok (.aload_n 0, 1) := by decide +kernel
set_option maxRecDepth 100000 in
theorem d_Md_stairs_47 : decode b_Md_stairs 47 = .ok (.getfield 32, 3) := by decide +kernel
set_option maxRecDepth 100000 in
theorem d_Md_stairs_50 : decode b_Md_stairs 50 = .ok (.aload_n 0, 1) := by decide +kernel
set_option maxRecDepth 100000 in
theorem d_Md_stairs_51 : decode b_Md_stairs 51 = .ok (.getfield 14, 3) := by decide +kernel
set_option maxRecDepth 100000 in
theorem d_Md_stairs_54 : decode b_Md_stairs 54 = .ok (.iload_n 1, 1) := by decide +kernel
set_option maxRecDepth 100000 in
theorem d_Md_stairs_55 : decode b_Md_stairs 55 = .ok (.iastore, 1) := by decide +kernel
set_option maxRecDepth 100000 in
theorem d_Md_stairs_56 : decode b_Md_stairs 56 = .ok (.aload_n 0, 1) := by decide +kernel
set_option maxRecDepth 100000 in
theorem d_Md_stairs_57 : decode b_Md_stairs 57 = .ok (.dup, 1) := by decide +kernel
set_option maxRecDepth 100000 in
theorem d_Md_stairs_58 : decode b_Md_stairs 58 = .ok (.getfield 14, 3) := by decide +kernel
set_option maxRecDepth 100000 in
theorem d_Md_stairs_61 : decode b_Md_stairs 61 = .ok (.iconst 1, 1) := by decide +kernel
set_option maxRecDepth 100000 in
theorem d_Md_stairs_62 : decode b_Md_stairs 62 = .ok (.iadd, 1) := by decide +kernel
set_option maxRecDepth 100000 in
theorem d_Md_stairs_63 : decode b_Md_stairs 63 = .ok (.putfield 14, 3) := by decide +kernel
set_option maxRecDepth 100000 in
theorem d_Md_stairs_66 : decode b_Md_stairs 66 = .ok (.aload_n 0, 1) := by decide +kernel
set_option maxRecDepth 100000 in
theorem d_Md_stairs_67 : decode b_Md_stairs 67 = .ok (.getfield 14, 3) := by decide +kernel
set_option maxRecDepth 100000 in
theorem d_Md_stairs_70 : decode b_Md_stairs 70 = .ok (.iconst 1, 1) := by decide +kernel
set_option maxRecDepth 100000 in
theorem d_Md_stairs_71 : decode b_Md_stairs 71 = .ok (.isub, 1) := by decide +kernel
set_option maxRecDepth 100000 in
theorem d_Md_stairs_72 : decode b_Md_stairs 72 = .ok (.ireturn, 1) := by decide +kernel
set_option maxRecDepth 100000 in
theorem d_Md_table_0 : decode b_Md_table 0 = .ok (.iload_n 1, 1) := by decide +kernel
set_option maxRecDepth 100000 in
theorem d_Md_table_1 : decode b_Md_table 1 = .ok (.iconst 0, 1) := by decide +kernel
set_option maxRecDepth 100000 in
theorem d_Md_table_2 : decode b_Md_table 2 = .ok (.bipush 11, 2) := by decide +kernel
set_option maxRecDepth 100000 in
theorem d_Md_table_4 : decode b_Md_table 4 = .ok (.invokestatic 10, 3) := by decide +kernel
set_option maxRecDepth 100000 in
theorem d_Md_table_7 : decode b_Md_table 7 = .ok (.ifCond .eq 14, 3) := by decide +kernel
set_option maxRecDepth 100000 in
theorem d_Md_table_10 : decode b_Md_table 10 = .ok (.iload_n 2, 1) := by decide +kernel
set_option maxRecDepth 100000 in
theorem d_Md_table_11 : decode b_Md_table 11 = .ok (.bipush (-90), 2) := by decide +kernel
set_option maxRecDepth 100000 in
theorem d_Md_table_13 : decode b_Md_table 13 = .ok (.bipush 90, 2) := by decide +kernel
set_option maxRecDepth 100000 in
theorem d_Md_table_15 : decode b_Md_table 15 = .ok (.invokestatic 10, 3) := by decide +kernel
set_option maxRecDepth 100000 in
theorem d_Md_table_18 : decode b_Md_table 18 = .ok (.ifCond .ne 7, 3) := by decide +kernel
set_option maxRecDepth 100000 in
theorem d_Md_table_21 : decode b_Md_table 21 = .ok (.sipush (-1000), 3) := by decide +kernel
set_option maxRecDepth 100000 in
theorem d_Md_table_24 : decode b_Md_table 24 = .ok (.ireturn, 1) := by decide +kernel
set_option maxRecDepth 100000 in
theorem d_Md_table_25 : decode b_Md_table 25 = .ok (.aload_n 0, 1) := by decide +kernel
set_option maxRecDepth 100000 in
theorem d_Md_table_26 : decode b_Md_table 26 = .ok (.getfield 25, 3) := by decide +kernel
set_option maxRecDepth 100000 in
theorem d_Md_table_29 : decode b_Md_table 29 = .ok (.iload_n 1, 1) := by decide +kernel
set_option maxRecDepth 100000 in
theorem d_Md_table_30 : decode b_Md_table 30 = .ok (.iaload, 1) := by decide +kernel
set_option maxRecDepth 100000 in
theorem d_Md_table_31 : decode b_Md_table 31 = .ok (.istore_n 3, 1) := by decide +kernel
set_option maxRecDepth 100000 in
theorem d_Md_table_32 : decode b_Md_table 32 = .ok (.aload_n 0, 1) := by decide +kernel
set_option maxRecDepth 100000 in
theorem d_Md_table_33 : decode b_Md_table 33 = .ok (.getfield 25, 3) := by decide +kernel
set_option maxRecDepth 100000 in
theorem d_Md_table_36 : decode b_Md_table 36 = .ok (.iload_n 1, 1) := by decide +kernel
set_option maxRecDepth 100000 in
theorem d_Md_table_37 : decode b_Md_table 37 = .ok (.iload_n 2, 1) := by decide +kernel
set_option maxRecDepth 100000 in
theorem d_Md_table_38 : decode b_Md_table 38 = .ok (.iastore, 1) := by decide +kernel
set_option maxRecDepth 100000 in
theorem d_Md_table_39 : decode b_Md_table 39 = .ok (.iload_n 3, 1) := by decide +kernel
set_option maxRecDepth 100000 in
theorem d_Md_table_40 : decode b_Md_table 40 = .ok (.ireturn, 1) := by decide +kernel
set_option maxRecDepth 100000 in
theorem d_Rv_addStairs_0 : decode b_Rv_addStairs 0 = .ok (.aload_n 0, 1) := by decide +kernel
set_option maxRecDepth 100000 in
theorem d_Rv_addStairs_1 : decode b_Rv_addStairs 1 = .ok (.getfield 9, 3) := by decide +kernel
set_option maxRecDepth 100000 in
theorem d_Rv_addStairs_4 : decode b_Rv_addStairs 4 = .ok (.aload_n 0, 1) := by decide +kernel
set_option maxRecDepth 100000 in
theorem d_Rv_addStairs_5 : decode b_Rv_addStairs 5 = .ok (.getfield 35, 3) := by decide +kernel
set_option maxRecDepth 100000 in
theorem d_Rv_addStairs_8 : decode b_Rv_addStairs 8 = .ok (.iload_n 1, 1) := by decide +kernel
set_option maxRecDepth 100000 in
theorem d_Rv_addStairs_9 : decode b_Rv_addStairs 9 = .ok (.iastore, 1) := by decide +kernel
set_option maxRecDepth 100000 in
theorem d_Rv_addStairs_10 : decode b_Rv_addStairs 10 = .ok (.aload_n 0, 1) := by decide +kernel
set_option maxRecDepth 100000 in
theorem d_Rv_addStairs_11 : decode b_Rv_addStairs 11 = .ok (.dup, 1) := by decide +kernel
set_option maxRecDepth 100000 in
theorem d_Rv_addStairs_12 : decode b_Rv_addStairs 12 = .ok (.getfield 35, 3) := by decide +kernel
set_option maxRecDepth 100000 in
theorem d_Rv_addStairs_15 : decode b_Rv_addStairs 15 = .ok (.iconst 1, 1) := by decide +kernel
set_option maxRecDepth 100000 in
theorem d_Rv_addStairs_16 : decode b_Rv_addStairs 16 = .ok (.iadd, 1) := by decide +kernel
set_option maxRecDepth 100000 in
theorem d_Rv_addStairs_17 : decode b_Rv_addStairs 17 = .ok (.putfield 35, 3) := by decide +kernel
set_option maxRecDepth 100000 in
theorem d_Rv_addStairs_20 : decode b_Rv_addStairs 20 = .ok (.aload_n 0, 1) := by decide +kernel
set_option maxRecDepth 100000 in
theorem d_Rv_addStairs_21 : decode b_Rv_addStairs 21 = .ok (.getfield 35, 3) := by decide +kernel
set_option maxRecDepth 100000 in
theorem d_Rv_addStairs_24 : decode b_Rv_addStairs 24 = .ok (.iconst 1, 1) := by decide +kernel
set_option maxRecDepth 100000 in
theorem d_Rv_addStairs_25 : decode b_Rv_addStairs 25 = .ok (.isub, 1) := by decide +kernel
set_option maxRecDepth 100000 in
theorem d_Rv_addStairs_26 : decode b_Rv_addStairs 26 = .ok (.ireturn, 1) := by decide +kernel
set_option maxRecDepth 100000 in
theorem d_Rv_highest_0 : decode b_Rv_highest 0 = .ok (.aload_n 0, 1) := by decide +kernel
set_option maxRecDepth 100000 in
theorem d_Rv_highest_1 : decode b_Rv_highest 1 = .ok (.getfield 35, 3) := by decide +kernel
set_option maxRecDepth 100000 in
theorem d_Rv_highest_4 : decode b_Rv_highest 4 = .ok (.ifCond .ne 7, 3) := by decide +kernel
set_option maxRecDepth 100000 in
theorem d_Rv_highest_7 : decode b_Rv_highest 7 = .ok (.iconst (-1), 1) := by decide +kernel
set_option maxRecDepth 100000 in
theorem d_Rv_highest_8 : decode b_Rv_highest 8 = .ok (.goto 14, 3) := by decide +kernel
set_option maxRecDepth 100000 in
theorem d_Rv_highest_22 : decode b_Rv_highest 22 = .ok (.ireturn, 1) := by decide +kernel
set_option maxRecDepth 100000 in
theorem d_WM_bind_0 : decode b_WM_bind 0 = .ok (.aload_n 0, 1) := by decide +kernel
set_option maxRecDepth 100000 in
theorem d_WM_bind_1 : decode b_WM_bind 1 = .ok (.iload_n 1, 1) := by decide +kernel
set_option maxRecDepth 100000 in
theorem d_WM_bind_2 : decode b_WM_bind 2 = .ok (.invokevirtual 107, 3) := by decide +kernel
set_option maxRecDepth 100000 in
theorem d_WM_bind_5 : decode b_WM_bind 5 = .ok (.astore_n 3, 1) := by decide +kernel
set_option maxRecDepth 100000 in
theorem d_WM_bind_6 : decode b_WM_bind 6 = .ok (.aload_n 0, 1) := by decide +kernel
set_option maxRecDepth 100000 in
theorem d_WM_bind_7 : decode b_WM_bind 7 = .ok (.iload_n 2, 1) := by decide +kernel
set_option maxRecDepth 100000 in
theorem d_WM_bind_8 : decode b_WM_bind 8 = .ok (.invokevirtual 107, 3) := by decide +kernel
set_option maxRecDepth 100000 in
theorem d_WM_bind_11 : decode b_WM_bind 11 = .ok (.astore 4, 2) := by decide +kernel
set_option maxRecDepth 100000 in
theorem d_WM_bind_13 : decode b_WM_bind 13 = .ok (.aload_n 3, 1) := by decide +kernel
set_option maxRecDepth 100000 in
theorem d_WM_bind_14 : decode b_WM_bind 14 = .ok (.ifnull 8, 3) := by decide +kernel
set_option maxRecDepth 100000 in
theorem d_WM_bind_17 : decode b_WM_bind 17 = .ok (.aload 4, 2) := by decide +kernel
set_option maxRecDepth 100000 in
theorem d_WM_bind_19 : decode b_WM_bind 19 = .ok (.ifnonnull 5, 3) := by decide +kernel
set_option maxRecDepth 100000 in
theorem d_WM_bind_22 : decode b_WM_bind 22 = .ok (.iconst (-1), 1) := by decide +kernel
set_option maxRecDepth 100000 in
theorem d_WM_bind_23 : decode b_WM_bind 23 = .ok (.ireturn, 1) := by decide +kernel
set_option maxRecDepth 100000 in
theorem d_WM_bind_24 : decode b_WM_bind 24 = .ok (.aload_n 3, 1) := by decide +kernel
set_option maxRecDepth 100000 in
theorem d_WM_bind_25 : decode b_WM_bind 25 = .ok (.getfield 111, 3) := by decide +kernel
set_option maxRecDepth 100000 in
theorem d_WM_bind_28 : decode b_WM_bind 28 = .ok (.ifCond .ne 12, 3) := by decide +kernel
set_option maxRecDepth 100000 in
theorem d_WM_bind_31 : decode b_WM_bind 31 = .ok (.aload 4, 2) := by decide +kernel
set_option maxRecDepth 100000 in
theorem d_WM_bind_33 : decode b_WM_bind 33 = .ok (.getfield 111, 3) := by decide +kernel
set_option maxRecDepth 100000 in
theorem d_WM_bind_36 : decode b_WM_bind 36 = .ok (.iconst 2, 1) := by decide +kernel
set_option maxRecDepth 100000 in
theorem d_WM_bind_37 : decode b_WM_bind 37 = .ok (.if_icmp .eq 6, 3) := by decide +kernel
set_option maxRecDepth 100000 in
theorem d_WM_bind_40 : decode b_WM_bind 40 = .ok (.bipush (-2), 2) := by decide +kernel
set_option maxRecDepth 100000 in
theorem d_WM_bind_42 : decode b_WM_bind 42 = .ok (.ireturn, 1) := by decide +kernel
set_option maxRecDepth 100000 in
theorem d_WM_free_0 : decode b_WM_free 0 = .ok (.aload_n 0, 1) := by decide +kernel
set_option maxRecDepth 100000 in
theorem d_WM_free_1 : decode b_WM_free 1 = .ok (.iload_n 1, 1) := by decide +kernel
set_option maxRecDepth 100000 in
theorem d_WM_free_2 : decode b_WM_free 2 = .ok (.invokevirtual 107, 3) := by decide +kernel
set_option maxRecDepth 100000 in
theorem d_WM_free_5 : decode b_WM_free 5 = .ok (.astore_n 2, 1) := by decide +kernel
set_option maxRecDepth 100000 in
theorem d_WM_free_6 : decode b_WM_free 6 = .ok (.aload_n 2, 1) := by decide +kernel
set_option maxRecDepth 100000 in
theorem d_WM_free_7 : decode b_WM_free 7 = .ok (.ifnonnull 5, 3) := by decide +kernel
set_option maxRecDepth 100000 in
theorem d_WM_free_10 : decode b_WM_free 10 = .ok (.iconst (-1), 1) := by decide +kernel
set_option maxRecDepth 100000 in
theorem d_WM_free_11 : decode b_WM_free 11 = .ok (.ireturn, 1) := by decide +kernel
set_option maxRecDepth 100000 in
theorem d_WM_free_12 : decode b_WM_free 12 = .ok (.aload_n 2, 1) := by decide +kernel
set_option maxRecDepth 100000 in
theorem d_WM_free_13 : decode b_WM_free 13 = .ok (.getfield 111, 3) := by decide +kernel
set_option maxRecDepth 100000 in
theorem d_WM_free_16 : decode b_WM_free 16 = .ok (.ifCond .eq 6, 3) := by decide +kernel
set_option maxRecDepth 100000 in
theorem d_WM_free_22 : decode b_WM_free 22 = .ok (.aload_n 2, 1) := by decide +kernel
set_option maxRecDepth 100000 in
theorem d_WM_free_23 : decode b_WM_free 23 = .ok (.iconst 2, 1) := by decide +kernel
set_option maxRecDepth 100000 in
theorem d_WM_free_24 : decode b_WM_free 24 = .ok (.putfield 111, 3) := by decide +kernel
set_option maxRecDepth 100000 in
theorem d_WM_free_27 : decode b_WM_free 27 = .ok (.iconst 1, 1) := by decide +kernel
set_option maxRecDepth 100000 in
theorem d_WM_free_28 : decode b_WM_free 28 = .ok (.ireturn, 1) := by decide +kernel
set_option maxRecDepth 100000 in
theorem d_WM_isHour_0 : decode b_WM_isHour 0 = .ok (.iload_n 0, 1) := by decide +kernel
set_option maxRecDepth 100000 in
theorem d_WM_isHour_1 : decode b_WM_isHour 1 = .ok (.ifCond .lt 13, 3) := by decide +kernel
set_option maxRecDepth 100000 in
theorem d_WM_isHour_4 : decode b_WM_isHour 4 = .ok (.iload_n 0, 1) := by decide +kernel
set_option maxRecDepth 100000 in
theorem d_WM_isHour_5 : decode b_WM_isHour 5 = .ok (.bipush 12, 2) := by decide +kernel
set_option maxRecDepth 100000 in
theorem d_WM_isHour_7 : decode b_WM_isHour 7 = .ok (.if_icmp .ge 7, 3) := by decide +kernel
set_option maxRecDepth 100000 in
theorem d_WM_isHour_10 : decode b_WM_isHour 10 = .ok (.iconst 1, 1) := by decide +kernel
set_option maxRecDepth 100000 in
theorem d_WM_isHour_11 : decode b_WM_isHour 11 = .ok (.goto 4, 3) := by decide +kernel
set_option maxRecDepth 100000 in
theorem d_WM_isHour_14 : decode b_WM_isHour 14 = .ok (.iconst 0, 1) := by decide +kernel
set_option maxRecDepth 100000 in
theorem d_WM_isHour_15 : decode b_WM_isHour 15 = .ok (.ireturn, 1) := by decide +kernel
set_option maxRecDepth 100000 in
theorem d_WM_isLevel_0 : decode b_WM_isLevel 0 = .ok (.iload_n 0, 1) := by decide +kernel
set_option maxRecDepth 100000 in
theorem d_WM_isLevel_1 : decode b_WM_isLevel 1 = .ok (.bipush (-90), 2) := by decide +kernel
set_option maxRecDepth 100000 in
theorem d_WM_isLevel_3 : decode b_WM_isLevel 3 = .ok (.if_icmp .lt 13, 3) := by decide +kernel
set_option maxRecDepth 100000 in
theorem d_WM_isLevel_6 : decode b_WM_isLevel 6 = .ok (.iload_n 0, 1) := by decide +kernel
set_option maxRecDepth 100000 in
theorem d_WM_isLevel_7 : decode b_WM_isLevel 7 = .ok (.bipush 90, 2) := by decide +kernel
set_option maxRecDepth 100000 in
theorem d_WM_isLevel_9 : decode b_WM_isLevel 9 = .ok (.if_icmp .gt 7, 3) := by decide +kernel
set_option maxRecDepth 100000 in
theorem d_WM_isLevel_12 : decode b_WM_isLevel 12 = .ok (.iconst 1, 1) := by decide +kernel
set_option maxRecDepth 100000 in
theorem d_WM_isLevel_13 : decode b_WM_isLevel 13 = .ok (.goto 4, 3) := by decide +kernel
set_option maxRecDepth 100000 in
theorem d_WM_isLevel_16 : decode b_WM_isLevel 16 = .ok (.iconst 0, 1) := by decide +kernel
set_option maxRecDepth 100000 in
theorem d_WM_isLevel_17 : decode b_WM_isLevel 17 = .ok (.ireturn, 1) := by decide +kernel
set_option maxRecDepth 100000 in
theorem d_WM_manAt_0 : decode b_WM_manAt 0 = .ok (.iload_n 1, 1) := by decide +kernel
set_option maxRecDepth 100000 in
theorem d_WM_manAt_1 : decode b_WM_manAt 1 = .ok (.ifCond .lt 18, 3) := by decide +kernel
set_option maxRecDepth 100000 in
theorem d_WM_manAt_4 : decode b_WM_manAt 4 = .ok (.iload_n 1, 1) := by decide +kernel
set_option maxRecDepth 100000 in
theorem d_WM_manAt_5 : decode b_WM_manAt 5 = .ok (.bipush 40, 2) := by decide +kernel
set_option maxRecDepth 100000 in
theorem d_WM_manAt_7 : decode b_WM_manAt 7 = .ok (.if_icmp .ge 12, 3) := by decide +kernel
set_option maxRecDepth 100000 in
theorem d_WM_manAt_10 : decode b_WM_manAt 10 = .ok (.aload_n 0, 1) := by decide +kernel
set_option maxRecDepth 100000 in
theorem d_WM_manAt_11 : decode b_WM_manAt 11 = .ok (.getfield 18, 3) := by decide +kernel
set_option maxRecDepth 100000 in
theorem d_WM_manAt_14 : decode b_WM_manAt 14 = .ok (.iload_n 1, 1) := by decide +kernel
set_option maxRecDepth 100000 in
theorem d_WM_manAt_15 : decode b_WM_manAt 15 = .ok (.aaload, 1) := by decide +kernel
set_option maxRecDepth 100000 in
theorem d_WM_manAt_16 : decode b_WM_manAt 16 = .ok (.goto 4, 3) := by decide +kernel
set_option maxRecDepth 100000 in
theorem d_WM_manAt_19 : decode b_WM_manAt 19 = .ok (.aconst_null, 1) := by decide +kernel
set_option maxRecDepth 100000 in
theorem d_WM_manAt_20 : decode b_WM_manAt 20 = .ok (.areturn, 1) := by decide +kernel
set_option maxRecDepth 100000 in
theorem d_WM_stairs_0 : decode b_WM_stairs 0 = .ok (.iload_n 1, 1) := by decide +kernel
set_option maxRecDepth 100000 in
theorem d_WM_stairs_1 : decode b_WM_stairs 1 = .ok (.ifCond .lt 20, 3) := by decide +kernel
set_option maxRecDepth 100000 in
theorem d_WM_stairs_4 : decode b_WM_stairs 4 = .ok (.iload_n 1, 1) := by decide +kernel
set_option maxRecDepth 100000 in
theorem d_WM_stairs_5 : decode b_WM_stairs 5 = .ok (.bipush 60, 2) := by decide +kernel
set_option maxRecDepth 100000 in
theorem d_WM_stairs_7 : decode b_WM_stairs 7 = .ok (.if_icmp .gt 14, 3) := by decide +kernel
set_option maxRecDepth 100000 in
theorem d_WM_stairs_10 : decode b_WM_stairs 10 = .ok (.iload_n 1, 1) := by decide +kernel
set_option maxRecDepth 100000 in
theorem d_WM_stairs_11 : decode b_WM_stairs 11 = .ok (.aload_n 0, 1) := by decide +kernel
set_option maxRecDepth 100000 in
theorem d_WM_stairs_12 : decode b_WM_stairs 12 = .ok (.getfield 12, 3) := by decide +kernel
set_option maxRecDepth 100000 in
theorem d_WM_stairs_15 : decode b_WM_stairs 15 = .ok (.invokevirtual 60, 3) := by decide +kernel
set_option maxRecDepth 100000 in
theorem d_WM_stairs_18 : decode b_WM_stairs 18 = .ok (.if_icmp .gt 5, 3) := by decide +kernel
set_option maxRecDepth 100000 in
theorem d_WM_stairs_21 : decode b_WM_stairs 21 = .ok (.iconst (-1), 1) := by decide +kernel
set_option maxRecDepth 100000 in
theorem d_WM_stairs_22 : decode b_WM_stairs 22 = .ok (.ireturn, 1) := by decide +kernel
set_option maxRecDepth 100000 in
theorem d_WM_stairs_23 : decode b_WM_stairs 23 = .ok (.aload_n 0, 1) := by decide +kernel
set_option maxRecDepth 100000 in
theorem d_WM_stairs_24 : decode b_WM_stairs 24 = .ok (.getfield 12, 3) := by decide +kernel
set_option maxRecDepth 100000 in
theorem d_WM_stairs_27 : decode b_WM_stairs 27 = .ok (.getfield 64, 3) := by decide +kernel
set_option maxRecDepth 100000 in
theorem d_WM_stairs_30 : decode b_WM_stairs 30 = .ok (.bipush 12, 2) := by decide +kernel
set_option maxRecDepth 100000 in
theorem d_WM_stairs_32 : decode b_WM_stairs 32 = .ok (.if_icmp .lt 8, 3) := by decide +kernel
set_option maxRecDepth 100000 in
theorem d_WM_stairs_40 : decode b_WM_stairs 40 = .ok (.aload_n 0, 1) := by decide +kernel
set_option maxRecDepth 100000 in
theorem d_WM_stairs_41 : decode b_WM_stairs 41 = .ok (.getfield 12, 3) := by decide +kernel
set_option maxRecDepth 100000 in
theorem d_WM_stairs_44 : decode b_WM_stairs 44 = .ok (.iload_n 1, 1) := by decide +kernel
set_option maxRecDepth 100000 in
theorem d_WM_stairs_45 : decode b_WM_stairs 45 = .ok (.invokevirtual 68, 3) := by decide +kernel
set_option maxRecDepth 100000 in
theorem d_WM_stairs_48 : decode b_WM_stairs 48 = .ok (.ireturn, 1) := by decide +kernel
set_option maxRecDepth 100000 in
theorem d_WM_table_0 : decode b_WM_table 0 = .ok (.iload_n 1, 1) := by decide +kernel
set_option maxRecDepth 100000 in
theorem d_WM_table_1 : decode b_WM_table 1 = .ok (.invokestatic 79, 3) := by decide +kernel
set_option maxRecDepth 100000 in
theorem d_WM_table_4 : decode b_WM_table 4 = .ok (.ifCond .eq 10, 3) := by decide +kernel
set_option maxRecDepth 100000 in
theorem d_WM_table_7 : decode b_WM_table 7 = .ok (.iload_n 2, 1) := by decide +kernel
set_option maxRecDepth 100000 in
theorem d_WM_table_8 : decode b_WM_table 8 = .ok (.invokestatic 82, 3) := by decide +kernel
set_option maxRecDepth 100000 in
theorem d_WM_table_11 : decode b_WM_table 11 = .ok (.ifCond .ne 7, 3) := by decide +kernel
set_option maxRecDepth 100000 in
theorem d_WM_table_14 : decode b_WM_table 14 = .ok (.sipush (-1000), 3) := by decide +kernel
set_option maxRecDepth 100000 in
theorem d_WM_table_17 : decode b_WM_table 17 = .ok (.ireturn, 1) := by decide +kernel
set_option maxRecDepth 100000 in
theorem d_WM_table_18 : decode b_WM_table 18 = .ok (.aload_n 0, 1) := by decide +kernel
set_option maxRecDepth 100000 in
theorem d_WM_table_19 : decode b_WM_table 19 = .ok (.getfield 12, 3) := by decide +kernel
set_option maxRecDepth 100000 in
theorem d_WM_table_22 : decode b_WM_table 22 = .ok (.getfield 89, 3) := by decide +kernel
set_option maxRecDepth 100000 in
theorem d_WM_table_25 : decode b_WM_table 25 = .ok (.iload_n 1, 1) := by decide +kernel
set_option maxRecDepth 100000 in
theorem d_WM_table_26 : decode b_WM_table 26 = .ok (.iaload, 1) := by decide +kernel
set_option maxRecDepth 100000 in
theorem d_WM_table_27 : decode b_WM_table 27 = .ok (.istore_n 3, 1) := by decide +kernel
set_option maxRecDepth 100000 in
theorem d_WM_table_28 : decode b_WM_table 28 = .ok (.aload_n 0, 1) := by decide +kernel
set_option maxRecDepth 100000 in
theorem d_WM_table_29 : decode b_WM_table 29 = .ok (.getfield 12, 3) := by decide +kernel
set_option maxRecDepth 100000 in
theorem d_WM_table_32 : decode b_WM_table 32 = .ok (.getfield 89, 3) := by decide +kernel
set_option maxRecDepth 100000 in
theorem d_WM_table_35 : decode b_WM_table 35 = .ok (.iload_n 1, 1) := by decide +kernel
set_option maxRecDepth 100000 in
theorem d_WM_table_36 : decode b_WM_table 36 = .ok (.iload_n 2, 1) := by decide +kernel
set_option maxRecDepth 100000 in
theorem d_WM_table_37 : decode b_WM_table 37 = .ok (.iastore, 1) := by decide +kernel
set_option maxRecDepth 100000 in
theorem d_WM_table_38 : decode b_WM_table 38 = .ok (.iload_n 3, 1) := by decide +kernel
set_option maxRecDepth 100000 in
theorem d_WM_table_39 : decode b_WM_table 39 = .ok (.ireturn, 1) := by decide +kernel
end
section
def manF : List Value := [.int 0, .null, .int (-1), .int 0, .int 0, .int 0, .int 0, .int (-1)]
def XW (a : Nat → Nat) (k : Nat → ClassId) (L : List Nat) : va_W := [((a 0), .inr (0, [.ref (a 1), .ref (a 6), .ref (a 7), .ref (a 8), .ref (a 9), .ref (a 10), .ref (a 12), .int 0, .int 0, .int 0, .int 0, .int 0, .ref (a 15)])), ((a 1), .inr (1, [.ref (a 2), .ref (a 3), .ref (a 4), .ref (a 5), .int 0, .int (-1)])), ((a 2), .inl ((k 2), 12, .inl (fun _ => 0))), ((a 3), .inl ((k 3), 12, .inl (fun _ => 0))), ((a 4), .inl ((k 4), 500, .inr (.inr (.inr (.inr (fun _ => none)))))), ((a 5), .inl ((k 5), 500, .inl (fun _ => 0))), ((a 6), .inl ((k 6), 40, .inr (.inr (.inr (.inr (fun j => L[j]?)))))), ((a 7), .inl ((k 7), 20, .inr (.inr (.inr (.inr (fun _ => none)))))), ((a 8), .inl ((k 8), 20, .inr (.inr (.inr (.inr (fun _ => none)))))), ((a 9), .inl ((k 9), 600, .inr (.inr (.inr (.inr (fun _ => none)))))), ((a 10), .inr (4, [.ref (a 11), .int 0, .int 0, .int 0, .int 0, .int 0])), ((a 11), .inl ((k 11), 400, .inl (fun _ => 0))), ((a 12), .inr (5, [.int 0, .int 0, .int 0, .int 0, .ref (a 13), .ref (a 14), .int 0])), ((a 13), .inl ((k 13), 500, .inl (fun _ => 0))), ((a 14), .inl ((k 14), 30, .inr (.inr (.inr (.inr (fun _ => none)))))), ((a 15), .inr (3, [.int 0, .int 0, .ref (a 16), .ref (a 17), .ref (a 18), .int 0, .int 0, .int 0, .int 0])), ((a 16), .inl ((k 16), 36, .inl (fun _ => 0))), ((a 17), .inl ((k 17), 36, .inl (fun _ => 0))), ((a 18), .inl ((k 18), 9, .inl (fun _ => 0)))] ++ va_pl L (fun _ => .inr (2, manF))
def XT (k : Nat → ClassId) : List (ClassId × FieldType) := [((k 2), .int), ((k 3), .int), ((k 4), .array .int), ((k 5), .boolean), ((k 6), .object R_Mn), ((k 7), .object R_Bt), ((k 8), .object R_Or), ((k 9), .object R_Tr), ((k 11), .byte), ((k 13), .int), ((k 14), .object R_Pn), ((k 16), .int), ((k 17), .int), ((k 18), .int)]
def MW (a : Nat → Nat) (k : Nat → ClassId) : va_W := [((a 0), .inr (7, [.int 0, .int 0, .int 0, .ref (a 1), .int (-1), .ref (a 2), .ref (a 3), .ref (a 4), .ref (a 5), .ref (a 6), .ref (a 7), .ref (a 8), .ref (a 9), .ref (a 10), .ref (a 11), .ref (a 12), .ref (a 13), .ref (a 14), .ref (a 15), .ref (a 16), .ref (a 17), .int 0, .ref (a 18), .ref (a 19), .ref (a 20), .ref (a 21), .ref (a 22), .ref (a 23), .int 0, .int 0, .ref (a 24), .ref (a 25), .ref (a 26), .ref (a 27), .ref (a 28), .ref (a 29), .ref (a 30), .ref (a 31), .ref (a 32), .ref (a 33), .ref (a 34), .ref (a 35), .int 0, .int 0, .int 0, .int 0, .int 0, .int 0, .ref (a 36), .ref (a 37), .ref (a 38), .ref (a 39), .ref (a 40), .ref (a 41), .ref (a 42), .ref (a 43), .long 0, .long 0, .long 0, .ref (a 44), .int 0, .ref (a 45), .ref (a 46), .ref (a 47)])), ((a 1), .inl ((k 1), 12, .inl (fun _ => 0))), ((a 2), .inl ((k 2), 12, .inl (fun _ => 0))), ((a 3), .inl ((k 3), 500, .inl (fun _ => 0))), ((a 4), .inl ((k 4), 6000, .inl (fun _ => 0))), ((a 5), .inl ((k 5), 500, .inl (fun _ => 0))), ((a 6), .inl ((k 6), 40, .inl (fun _ => 0))), ((a 7), .inl ((k 7), 40, .inl (fun _ => (-1)))), ((a 8), .inl ((k 8), 40, .inl (fun _ => 0))), ((a 9), .inl ((k 9), 40, .inl (fun _ => 0))), ((a 10), .inl ((k 10), 240, .inl (fun _ => 0))), ((a 11), .inl ((k 11), 240, .inl (fun _ => 0))), ((a 12), .inl ((k 12), 40, .inl (fun _ => 0))), ((a 13), .inl ((k 13), 40, .inl (fun _ => (-1)))), ((a 14), .inl ((k 14), 40, .inl (fun _ => 0))), ((a 15), .inl ((k 15), 40, .inl (fun _ => 0))), ((a 16), .inl ((k 16), 12, .inl (fun _ => 0))), ((a 17), .inl ((k 17), 480, .inl (fun _ => 0))), ((a 18), .inl ((k 18), 20, .inl (fun _ => 0))), ((a 19), .inl ((k 19), 20, .inl (fun _ => 0))), ((a 20), .inl ((k 20), 20, .inl (fun _ => 0))), ((a 21), .inl ((k 21), 20, .inl (fun _ => 0))), ((a 22), .inl ((k 22), 20, .inl (fun _ => 0))), ((a 23), .inl ((k 23), 400, .inl (fun _ => 0))), ((a 24), .inl ((k 24), 20, .inl (fun _ => 0))), ((a 25), .inl ((k 25), 20, .inl (fun _ => 0))), ((a 26), .inl ((k 26), 20, .inl (fun _ => 0))), ((a 27), .inl ((k 27), 240, .inl (fun _ => 0))), ((a 28), .inl ((k 28), 240, .inl (fun _ => 0))), ((a 29), .inl ((k 29), 240, .inl (fun _ => 0))), ((a 30), .inl ((k 30), 20, .inl (fun _ => 0))), ((a 31), .inl ((k 31), 240, .inl (fun _ => 0))), ((a 32), .inl ((k 32), 240, .inl (fun _ => 0))), ((a 33), .inl ((k 33), 240, .inl (fun _ => 0))), ((a 34), .inl ((k 34), 180, .inl (fun _ => 0))), ((a 35), .inl ((k 35), 20, .inl (fun _ => 0))), ((a 36), .inl ((k 36), 600, .inl (fun _ => 0))), ((a 37), .inl ((k 37), 600, .inl (fun _ => 0))), ((a 38), .inl ((k 38), 600, .inl (fun _ => 0))), ((a 39), .inl ((k 39), 600, .inl (fun _ => 0))), ((a 40), .inl ((k 40), 600, .inl (fun _ => 0))), ((a 41), .inl ((k 41), 600, .inl (fun _ => 0))), ((a 42), .inl ((k 42), 600, .inl (fun _ => 0))), ((a 43), .inl ((k 43), 600, .inl (fun _ => 0))), ((a 44), .inl ((k 44), 500, .inr (.inl (fun _ => 0)))), ((a 45), .inl ((k 45), 30, .inl (fun _ => 0))), ((a 46), .inl ((k 46), 30, .inl (fun _ => 0))), ((a 47), .inl ((k 47), 30, .inl (fun _ => 0)))]
def MT (k : Nat → ClassId) : List (ClassId × FieldType) := [((k 1), .int), ((k 2), .int), ((k 3), .boolean), ((k 4), .int), ((k 5), .boolean), ((k 6), .int), ((k 7), .int), ((k 8), .int), ((k 9), .int), ((k 10), .int), ((k 11), .int), ((k 12), .int), ((k 13), .int), ((k 14), .int), ((k 15), .boolean), ((k 16), .int), ((k 17), .int), ((k 18), .int), ((k 19), .int), ((k 20), .int), ((k 21), .int), ((k 22), .boolean), ((k 23), .byte), ((k 24), .int), ((k 25), .int), ((k 26), .int), ((k 27), .int), ((k 28), .int), ((k 29), .int), ((k 30), .int), ((k 31), .int), ((k 32), .int), ((k 33), .int), ((k 34), .int), ((k 35), .int), ((k 36), .int), ((k 37), .int), ((k 38), .int), ((k 39), .int), ((k 40), .int), ((k 41), .int), ((k 42), .int), ((k 43), .boolean), ((k 44), .long), ((k 45), .int), ((k 46), .int), ((k 47), .int)]
theorem xw_man {a : Nat → Nat} {k : Nat → ClassId} {L : List Nat} (hL : L.length = 40) {i : Int32} (h : vp_in i 40) : ∃ (q kx : Nat), L[i.toNatClampNeg]? = some q ∧ (XW a k L)[kx]? = some (q, .inr (2, manF)) := by
  have hlt : i.toNatClampNeg < L.length := by rw [hL]; exact Nat.not_le.mp fun q => h (Or.inr q)
  obtain ⟨kx, hk⟩ := va_pl_get (X := [((a 0), .inr (0, [.ref (a 1), .ref (a 6), .ref (a 7), .ref (a 8), .ref (a 9), .ref (a 10), .ref (a 12), .int 0, .int 0, .int 0, .int 0, .int 0, .ref (a 15)])), ((a 1), .inr (1, [.ref (a 2), .ref (a 3), .ref (a 4), .ref (a 5), .int 0, .int (-1)])), ((a 2), .inl ((k 2), 12, .inl (fun _ => 0))), ((a 3), .inl ((k 3), 12, .inl (fun _ => 0))), ((a 4), .inl ((k 4), 500, .inr (.inr (.inr (.inr (fun _ => none)))))), ((a 5), .inl ((k 5), 500, .inl (fun _ => 0))), ((a 6), .inl ((k 6), 40, .inr (.inr (.inr (.inr (fun j => L[j]?)))))), ((a 7), .inl ((k 7), 20, .inr (.inr (.inr (.inr (fun _ => none)))))), ((a 8), .inl ((k 8), 20, .inr (.inr (.inr (.inr (fun _ => none)))))), ((a 9), .inl ((k 9), 600, .inr (.inr (.inr (.inr (fun _ => none)))))), ((a 10), .inr (4, [.ref (a 11), .int 0, .int 0, .int 0, .int 0, .int 0])), ((a 11), .inl ((k 11), 400, .inl (fun _ => 0))), ((a 12), .inr (5, [.int 0, .int 0, .int 0, .int 0, .ref (a 13), .ref (a 14), .int 0])), ((a 13), .inl ((k 13), 500, .inl (fun _ => 0))), ((a 14), .inl ((k 14), 30, .inr (.inr (.inr (.inr (fun _ => none)))))), ((a 15), .inr (3, [.int 0, .int 0, .ref (a 16), .ref (a 17), .ref (a 18), .int 0, .int 0, .int 0, .int 0])), ((a 16), .inl ((k 16), 36, .inl (fun _ => 0))), ((a 17), .inl ((k 17), 36, .inl (fun _ => 0))), ((a 18), .inl ((k 18), 9, .inl (fun _ => 0)))]) (f := fun _ => .inr (2, manF)) (List.getElem_mem hlt)
  exact ⟨_, kx, List.getElem?_eq_getElem hlt, hk⟩
end
section
def f_Rv_highest  : Int32 := (-1)
set_option maxHeartbeats 4000000 in
set_option maxRecDepth 100000 in
theorem c_Rv_highest (l : Launch) (dC : Nat → ClassId) (dI : Nat → Nat → Nat) (a : Nat → Nat) (k : Nat → ClassId) (L : List Nat) (hL : L.length = 40)    : Met l y_Rv_highest (.code y_Rv_highest b_Rv_highest 1 (some .int) :: TB) ({ frames := 0, cells := 0, slots := 0, locals := 0 }) (va_Pc [.ref (a 1)] (PR dC dI (XW a k L) (XT k))) (vp_Si (fun r => r = f_Rv_highest)) 0 0 (fun _ => False) := by
  refine Met.ofW (cc := b_Rv_highest) (maxL := 1) (ret := (some .int)) (by decide) rfl ?_
  intro p e s m args below meth c s₁ B hml hv
  obtain ⟨rfl, hP, hK, hN⟩ := hv
  have hx := B.exec
  have hb := B.bytes
  have hr := B.returns
  have hts := atoms_spec (ws := (.code y_Rv_highest b_Rv_highest 1 (some .int) :: TB)) B.pre
  have htb := fun w (h : w ∈ TB) => hts w (List.mem_cons_of_mem _ h)
  have hown : s.vm.findClass R_Rv = some m.cls := findClass_of_methodNamed B.named
  have hlocks := B.notSynchronized
  have hl := lv_entry ([.ref (a 1)]) (n := 1) (Nat.le_of_ble_eq_true rfl)
  rw [lg_entry_eq]
  generalize (lg_sl ([.ref (a 1)]) ++ List.replicate (1 - (lg_sl ([.ref (a 1)])).length) Slot.unset).toArray = ls at hl ⊢
  have hl : lv_has ls 1 [(0, .ref (a 1))] := hl
  refine lv_aload_n hx hb d_Rv_highest_0 rfl (lv_at hl 0 rfl) ?_
  refine va_get (D := (dC, dI)) (ci := 1) (v := .int 0) (C := R_Rv) (T := F_Rv) (N := 6) hx hb htb i_Rv hown hK hP 1 rfl rfl 4 (by decide) (htb (.fieldLink R_Rv 35 "WaterMen$River" "stairCount" "I") tw_1) (fun _ h9 => h9) rfl d_Rv_highest_1 ?_
  refine lv_if_ne (tgt := 11) hx hb d_Rv_highest_4 (by decide) (fun h => absurd (by decide +kernel) h) (fun _ => ?_)
  refine lv_iconst (v := (-1)) hx hb d_Rv_highest_7 (by decide +kernel) ?_
  refine lv_goto (tgt := 22) hx hb d_Rv_highest_8 (by decide) ?_
  exact W.iret (v := (-1)) hx hb hr (fun t ht hW => ⟨(-1), rfl, rfl, ht⟩) t_nil d_Rv_highest_22
def f_Rv_addStairs (p_0 : Int32) : Int32 := 0
set_option maxHeartbeats 4000000 in
set_option maxRecDepth 100000 in
theorem c_Rv_addStairs (l : Launch) (dC : Nat → ClassId) (dI : Nat → Nat → Nat) (a : Nat → Nat) (k : Nat → ClassId) (L : List Nat) (hL : L.length = 40) (sz : Nat) (p_0 : Int32)  : Met l y_Rv_addStairs (.code y_Rv_addStairs b_Rv_addStairs 2 (some .int) :: TB) ({ frames := 0, cells := 0, slots := 0, locals := 0 }) (va_Pc [.ref (a 1), .int p_0] (PC dC dI (XW a k L) (XT k) sz)) (va_Qi (fun r (_ : Unit) => r = f_Rv_addStairs p_0) (fun (_ : Unit) (_ : State) => True) (va_A (XW a k L) sz)) 0 0 (va_A (XW a k L) sz) := by
  refine Met.ofW (cc := b_Rv_addStairs) (maxL := 2) (ret := (some .int)) (by decide) rfl ?_
  intro p e s m args below meth c s₁ B hml hv
  obtain ⟨rfl, hsz, hP, hK, hD0, hN⟩ := hv
  have hx := B.exec
  have hb := B.bytes
  have hr := B.returns
  have hts := atoms_spec (ws := (.code y_Rv_addStairs b_Rv_addStairs 2 (some .int) :: TB)) B.pre
  have htb := fun w (h : w ∈ TB) => hts w (List.mem_cons_of_mem _ h)
  have hown : s.vm.findClass R_Rv = some m.cls := findClass_of_methodNamed B.named
  have hlocks := B.notSynchronized
  have hl := lv_entry ([.ref (a 1), .int p_0]) (n := 2) (Nat.le_of_ble_eq_true rfl)
  rw [lg_entry_eq]
  generalize (lg_sl ([.ref (a 1), .int p_0]) ++ List.replicate (2 - (lg_sl ([.ref (a 1), .int p_0])).length) Slot.unset).toArray = ls at hl ⊢
  have hl : lv_has ls 2 [(0, .ref (a 1)), (1, .int p_0)] := hl
  subst hsz
  have hD := hD0.self (sz := s.heap.size)
  obtain ⟨A, hAe⟩ : ∃ A, va_A (XW a k L) s.heap.size = A := ⟨_, rfl⟩
  rw [hAe] at hD
  have hA : ∀ q : Nat, s.heap.size ≤ q → A q := fun q h => by rw [← hAe]; exact Or.inr h
  have hS : va_S A s.heap s.heap [] := va_S.rf
  have hP := hP
  refine lv_aload_n hx hb d_Rv_addStairs_0 rfl (lv_at hl 0 rfl) ?_
  refine va_get (D := (dC, dI)) (ci := 1) (v := .ref (a 2)) (C := R_Rv) (T := F_Rv) (N := 6) hx hb htb i_Rv hown hK hP 1 rfl rfl 0 (by decide) (htb (.fieldLink R_Rv 9 "WaterMen$River" "milesUp" "[I") tw_8) (fun _ h9 => h9) rfl d_Rv_addStairs_1 ?_
  refine lv_aload_n hx hb d_Rv_addStairs_4 rfl (lv_at hl 0 rfl) ?_
  refine va_get (D := (dC, dI)) (ci := 1) (v := .int 0) (C := R_Rv) (T := F_Rv) (N := 6) hx hb htb i_Rv hown hK hP 1 rfl rfl 4 (by decide) (htb (.fieldLink R_Rv 35 "WaterMen$River" "stairCount" "I") tw_1) (fun _ h9 => h9) rfl d_Rv_addStairs_5 ?_
  refine lv_iload_n hx hb d_Rv_addStairs_8 rfl (lv_at hl 1 rfl) ?_
  refine va_iast hx hb hK hP hD hS 2 0 rfl rfl (by unfold vp_in; decide +kernel) d_Rv_addStairs_9 (fun H locs hP hD hS => ?_)
  refine lv_aload_n hx hb d_Rv_addStairs_10 rfl (lv_at hl 0 rfl) ?_
  refine lv_dup hx hb d_Rv_addStairs_11 rfl ?_
  refine va_get (D := (dC, dI)) (ci := 1) (v := .int 0) (C := R_Rv) (T := F_Rv) (N := 6) hx hb htb i_Rv hown hK hP 1 rfl rfl 4 (by decide) (htb (.fieldLink R_Rv 35 "WaterMen$River" "stairCount" "I") tw_1) (fun _ h9 => h9) rfl d_Rv_addStairs_12 ?_
  refine lv_iconst (v := 1) hx hb d_Rv_addStairs_15 (by decide +kernel) ?_
  refine lv_iadd hx hb d_Rv_addStairs_16 ?_
  refine hb_ti 1 (by decide +kernel) ?_
  refine va_put (D := (dC, dI)) (ci := 1) (v := .int 1) (ty := .int) (C := R_Rv) (T := F_Rv) (N := 6) hx hb htb i_Rv t_Rv t_Rv_ok n_Rv hown hK hP hD hS 1 rfl rfl 4 (by decide) (htb (.fieldLink R_Rv 35 "WaterMen$River" "stairCount" "I") tw_1) (fun _ h9 => h9) rfl (by decide +kernel) rfl rfl (Nat.le_of_ble_eq_true rfl) d_Rv_addStairs_17 (fun H locs hP hD hS => ?_)
  refine lv_aload_n hx hb d_Rv_addStairs_20 rfl (lv_at hl 0 rfl) ?_
  refine va_get (D := (dC, dI)) (ci := 1) (v := .int 1) (C := R_Rv) (T := F_Rv) (N := 6) hx hb htb i_Rv hown hK hP 1 rfl rfl 4 (by decide) (htb (.fieldLink R_Rv 35 "WaterMen$River" "stairCount" "I") tw_1) (fun _ h9 => h9) rfl d_Rv_addStairs_21 ?_
  refine lv_iconst (v := 1) hx hb d_Rv_addStairs_24 (by decide +kernel) ?_
  refine lv_isub hx hb d_Rv_addStairs_25 ?_
  refine hb_ti 0 (by decide +kernel) ?_
  refine W.widen (k := 0) (n := 0) (Nat.le_of_ble_eq_true rfl) (Nat.le_of_ble_eq_true rfl) ?_
  exact W.iret (v := 0) hx hb hr (fun t ht hW => ⟨⟨0, (), rfl, rfl, trivial⟩, by rw [hAe]; exact hS.F ht⟩) (by rw [hAe]; exact hS.2.2) d_Rv_addStairs_26
def f_WM_stairs (p_0 : Int32) : Int32 := if p_0 < 0 then ((-1)) else (if 60 < p_0 then ((-1)) else (0))
set_option maxHeartbeats 4000000 in
set_option maxRecDepth 100000 in
theorem c_WM_stairs (l : Launch) (dC : Nat → ClassId) (dI : Nat → Nat → Nat) (a : Nat → Nat) (k : Nat → ClassId) (L : List Nat) (hL : L.length = 40) (sz : Nat) (p_0 : Int32)  : Met l y_WM_stairs (.code y_WM_stairs b_WM_stairs 2 (some .int) :: TB) ({ frames := 1, cells := 0, slots := 0, locals := 21 }) (va_Pc [.ref (a 0), .int p_0] (PC dC dI (XW a k L) (XT k) sz)) (va_Qi (fun r (_ : Unit) => r = f_WM_stairs p_0) (fun (_ : Unit) (_ : State) => True) (va_A (XW a k L) sz)) 0 0 (va_A (XW a k L) sz) := by
  refine Met.ofW (cc := b_WM_stairs) (maxL := 2) (ret := (some .int)) (by decide) rfl ?_
  intro p e s m args below meth c s₁ B hml hv
  obtain ⟨rfl, hsz, hP, hK, hD0, hN⟩ := hv
  have hx := B.exec
  have hb := B.bytes
  have hr := B.returns
  have hts := atoms_spec (ws := (.code y_WM_stairs b_WM_stairs 2 (some .int) :: TB)) B.pre
  have htb := fun w (h : w ∈ TB) => hts w (List.mem_cons_of_mem _ h)
  have hown : s.vm.findClass R_WM = some m.cls := findClass_of_methodNamed B.named
  have hlocks := B.notSynchronized
  have hl := lv_entry ([.ref (a 0), .int p_0]) (n := 2) (Nat.le_of_ble_eq_true rfl)
  rw [lg_entry_eq]
  generalize (lg_sl ([.ref (a 0), .int p_0]) ++ List.replicate (2 - (lg_sl ([.ref (a 0), .int p_0])).length) Slot.unset).toArray = ls at hl ⊢
  have hl : lv_has ls 2 [(0, .ref (a 0)), (1, .int p_0)] := hl
  subst hsz
  have hD := hD0.self (sz := s.heap.size)
  obtain ⟨A, hAe⟩ : ∃ A, va_A (XW a k L) s.heap.size = A := ⟨_, rfl⟩
  rw [hAe] at hD
  have hA : ∀ q : Nat, s.heap.size ≤ q → A q := fun q h => by rw [← hAe]; exact Or.inr h
  have hS : va_S A s.heap s.heap [] := va_S.rf
  have hP := hP
  refine lv_iload_n hx hb d_WM_stairs_0 rfl (lv_at hl 1 rfl) ?_
  refine lv_if_lt (tgt := 21) hx hb d_WM_stairs_1 (by decide) (fun c_1 => ?_) (fun c_1 => ?_)
  · refine lv_iconst (v := (-1)) hx hb d_WM_stairs_21 (by decide +kernel) ?_
    refine W.widen (k := 0) (n := 0) (Nat.le_of_ble_eq_true rfl) (Nat.le_of_ble_eq_true rfl) ?_
    exact W.iret (v := (-1)) hx hb hr (fun t ht hW => ⟨⟨(-1), (), rfl, (by unfold f_WM_stairs; rw [if_pos c_1]), trivial⟩, by rw [hAe]; exact hS.F ht⟩) (by rw [hAe]; exact hS.2.2) d_WM_stairs_22
  · refine lv_iload_n hx hb d_WM_stairs_4 rfl (lv_at hl 1 rfl) ?_
    refine lv_bipush (v := 60) hx hb d_WM_stairs_5 (by decide +kernel) ?_
    refine lv_icmp_gt (tgt := 21) hx hb d_WM_stairs_7 (by decide) (fun c_2 => ?_) (fun c_2 => ?_)
    · refine lv_iconst (v := (-1)) hx hb d_WM_stairs_21 (by decide +kernel) ?_
      refine W.widen (k := 0) (n := 0) (Nat.le_of_ble_eq_true rfl) (Nat.le_of_ble_eq_true rfl) ?_
      exact W.iret (v := (-1)) hx hb hr (fun t ht hW => ⟨⟨(-1), (), rfl, (by unfold f_WM_stairs; rw [if_neg c_1, if_pos c_2]), trivial⟩, by rw [hAe]; exact hS.F ht⟩) (by rw [hAe]; exact hS.2.2) d_WM_stairs_22
    · refine lv_iload_n hx hb d_WM_stairs_10 rfl (lv_at hl 1 rfl) ?_
      refine lv_aload_n hx hb d_WM_stairs_11 rfl (lv_at hl 0 rfl) ?_
      refine va_get (D := (dC, dI)) (ci := 0) (v := .ref (a 1)) (C := R_WM) (T := F_WM) (N := 13) hx hb htb i_WM hown hK hP 0 rfl rfl 0 (by decide) (htb (.fieldLink R_WM 12 "WaterMen" "river" "LWaterMen$River;") tw_0) (fun _ h9 => h9) rfl d_WM_stairs_12 ?_
      refine vp_callSi (va_Run.run (va_runV (As := []) (rest := [.int p_0]) ⟨hx, hb, hml, hown, htb⟩ (c_Rv_highest l dC dI a k L hL) (cwV 0 htb (gd_V tw_4 tw_5 tw_6 tw_3 tw_2) rfl rfl rfl (by decide +kernel) ⟨Nat.le_of_ble_eq_true rfl, Nat.le_of_ble_eq_true rfl⟩) ⟨pr_blind, va_recv hK hP (ci := 1) (q0 := 1) rfl rfl, pr_pre hP hK hN⟩ rfl rfl hl.1 rfl (lv_room (Nat.le_of_ble_eq_true rfl)) d_WM_stairs_15 ⟨Nat.le_of_ble_eq_true rfl, Nat.le_of_ble_eq_true rfl⟩)) (fun r er => ?_)
      subst er
      refine hb_ti (-1) rfl ?_
      refine lv_icmp_gt (tgt := 23) hx hb d_WM_stairs_18 (by decide) (fun _ => ?_) (fun h => absurd (show (-1) < p_0 from by have e0 := c_1; rw [Int32.lt_iff_toInt_lt] at e0; have e1 := c_2; rw [Int32.lt_iff_toInt_lt] at e1; have z0 : ((-1) : Int32).toInt = -1 := by decide +kernel; have z1 : (0 : Int32).toInt = 0 := by decide +kernel; have z2 : (60 : Int32).toInt = 60 := by decide +kernel; rw [Int32.lt_iff_toInt_lt]; omega) h)
      refine lv_aload_n hx hb d_WM_stairs_23 rfl (lv_at hl 0 rfl) ?_
      refine va_get (D := (dC, dI)) (ci := 0) (v := .ref (a 1)) (C := R_WM) (T := F_WM) (N := 13) hx hb htb i_WM hown hK hP 0 rfl rfl 0 (by decide) (htb (.fieldLink R_WM 12 "WaterMen" "river" "LWaterMen$River;") tw_0) (fun _ h9 => h9) rfl d_WM_stairs_24 ?_
      refine va_get (D := (dC, dI)) (ci := 1) (v := .int 0) (C := R_Rv) (T := F_Rv) (N := 6) hx hb htb i_Rv hown hK hP 1 rfl rfl 4 (by decide) (htb (.fieldLink R_WM 64 "WaterMen$River" "stairCount" "I") tw_7) (fun _ h9 => h9) rfl d_WM_stairs_27 ?_
      refine lv_bipush (v := 12) hx hb d_WM_stairs_30 (by decide +kernel) ?_
      refine lv_icmp_lt (tgt := 40) hx hb d_WM_stairs_32 (by decide) (fun _ => ?_) (fun h => absurd (by decide +kernel) h)
      refine lv_aload_n hx hb d_WM_stairs_40 rfl (lv_at hl 0 rfl) ?_
      refine va_get (D := (dC, dI)) (ci := 0) (v := .ref (a 1)) (C := R_WM) (T := F_WM) (N := 13) hx hb htb i_WM hown hK hP 0 rfl rfl 0 (by decide) (htb (.fieldLink R_WM 12 "WaterMen" "river" "LWaterMen$River;") tw_0) (fun _ h9 => h9) rfl d_WM_stairs_41 ?_
      refine lv_iload_n hx hb d_WM_stairs_44 rfl (lv_at hl 1 rfl) ?_
      have hFc := hb_free hD hS hA
      refine va_calli (va_runV (As := [.int p_0]) (rest := []) ⟨hx, hb, hml, hown, htb⟩ (c_Rv_addStairs l dC dI a k L hL _ p_0) (cwV 1 htb (gd_V tw_10 tw_11 tw_12 tw_3 tw_9) rfl rfl rfl (by decide +kernel) ⟨Nat.le_of_ble_eq_true rfl, Nat.le_of_ble_eq_true rfl⟩) ⟨pc_blind, va_recv hK hP (ci := 1) (q0 := 1) rfl rfl, pc_pre hP hK hD hN⟩ rfl rfl hl.1 rfl (lv_room (Nat.le_of_ble_eq_true rfl)) d_WM_stairs_45 ⟨Nat.le_of_ble_eq_true rfl, Nat.le_of_ble_eq_true rfl⟩) hS (fun q _ h => hFc q h) hFc (fun r u t H1 locs ht hvm er hB hz1 hk1 hS => ?_)
      subst er
      refine hb_ti 0 rfl ?_
      refine W.widen (k := 0) (n := 0) (Nat.le_of_ble_eq_true rfl) (Nat.le_of_ble_eq_true rfl) ?_
      exact W.iret (v := 0) hx hb hr (fun t ht hW => ⟨⟨0, (), rfl, (by unfold f_WM_stairs; rw [if_neg c_1, if_neg c_2]), trivial⟩, by rw [hAe]; exact hS.F ht⟩) (by rw [hAe]; exact hS.2.2) d_WM_stairs_48
def f_WM_isHour (p_0 : Int32) : Int32 := if p_0 < 0 then (0) else (if 12 ≤ p_0 then (0) else (1))
set_option maxHeartbeats 4000000 in
set_option maxRecDepth 100000 in
theorem c_WM_isHour (l : Launch)  (p_0 : Int32)  : Met l y_WM_isHour (.code y_WM_isHour b_WM_isHour 1 (some .boolean) :: TB) ({ frames := 0, cells := 0, slots := 0, locals := 0 }) (va_Pc [.int p_0] (fun _ => True)) (vp_Si (fun r => r = f_WM_isHour p_0)) 0 0 (fun _ => False) := by
  refine Met.ofW (cc := b_WM_isHour) (maxL := 1) (ret := (some .boolean)) (by decide) rfl ?_
  intro p e s m args below meth c s₁ B hml hv
  obtain ⟨rfl, -⟩ := hv
  have hx := B.exec
  have hb := B.bytes
  have hr := B.returns
  have hts := atoms_spec (ws := (.code y_WM_isHour b_WM_isHour 1 (some .boolean) :: TB)) B.pre
  have htb := fun w (h : w ∈ TB) => hts w (List.mem_cons_of_mem _ h)
  have hown : s.vm.findClass R_WM = some m.cls := findClass_of_methodNamed B.named
  have hlocks := B.notSynchronized
  have hl := lv_entry ([.int p_0]) (n := 1) (Nat.le_of_ble_eq_true rfl)
  rw [lg_entry_eq]
  generalize (lg_sl ([.int p_0]) ++ List.replicate (1 - (lg_sl ([.int p_0])).length) Slot.unset).toArray = ls at hl ⊢
  have hl : lv_has ls 1 [(0, .int p_0)] := hl
  refine lv_iload_n hx hb d_WM_isHour_0 rfl (lv_at hl 0 rfl) ?_
  refine lv_if_lt (tgt := 14) hx hb d_WM_isHour_1 (by decide) (fun c_1 => ?_) (fun c_1 => ?_)
  · refine lv_iconst (v := 0) hx hb d_WM_isHour_14 (by decide +kernel) ?_
    exact W.zret (v := 0) hx hb hr (by decide +kernel) (fun t ht hW => ⟨0, rfl, (by unfold f_WM_isHour; rw [if_pos c_1]), ht⟩) t_nil d_WM_isHour_15
  · refine lv_iload_n hx hb d_WM_isHour_4 rfl (lv_at hl 0 rfl) ?_
    refine lv_bipush (v := 12) hx hb d_WM_isHour_5 (by decide +kernel) ?_
    refine lv_icmp_ge (tgt := 14) hx hb d_WM_isHour_7 (by decide) (fun c_2 => ?_) (fun c_2 => ?_)
    · refine lv_iconst (v := 0) hx hb d_WM_isHour_14 (by decide +kernel) ?_
      exact W.zret (v := 0) hx hb hr (by decide +kernel) (fun t ht hW => ⟨0, rfl, (by unfold f_WM_isHour; rw [if_neg c_1, if_pos c_2]), ht⟩) t_nil d_WM_isHour_15
    · refine lv_iconst (v := 1) hx hb d_WM_isHour_10 (by decide +kernel) ?_
      refine lv_goto (tgt := 15) hx hb d_WM_isHour_11 (by decide) ?_
      exact W.zret (v := 1) hx hb hr (by decide +kernel) (fun t ht hW => ⟨1, rfl, (by unfold f_WM_isHour; rw [if_neg c_1, if_neg c_2]), ht⟩) t_nil d_WM_isHour_15
def f_WM_isLevel (p_0 : Int32) : Int32 := if p_0 < (-90) then (0) else (if 90 < p_0 then (0) else (1))
set_option maxHeartbeats 4000000 in
set_option maxRecDepth 100000 in
theorem c_WM_isLevel (l : Launch)  (p_0 : Int32)  : Met l y_WM_isLevel (.code y_WM_isLevel b_WM_isLevel 1 (some .boolean) :: TB) ({ frames := 0, cells := 0, slots := 0, locals := 0 }) (va_Pc [.int p_0] (fun _ => True)) (vp_Si (fun r => r = f_WM_isLevel p_0)) 0 0 (fun _ => False) := by
  refine Met.ofW (cc := b_WM_isLevel) (maxL := 1) (ret := (some .boolean)) (by decide) rfl ?_
  intro p e s m args below meth c s₁ B hml hv
  obtain ⟨rfl, -⟩ := hv
  have hx := B.exec
  have hb := B.bytes
  have hr := B.returns
  have hts := atoms_spec (ws := (.code y_WM_isLevel b_WM_isLevel 1 (some .boolean) :: TB)) B.pre
  have htb := fun w (h : w ∈ TB) => hts w (List.mem_cons_of_mem _ h)
  have hown : s.vm.findClass R_WM = some m.cls := findClass_of_methodNamed B.named
  have hlocks := B.notSynchronized
  have hl := lv_entry ([.int p_0]) (n := 1) (Nat.le_of_ble_eq_true rfl)
  rw [lg_entry_eq]
  generalize (lg_sl ([.int p_0]) ++ List.replicate (1 - (lg_sl ([.int p_0])).length) Slot.unset).toArray = ls at hl ⊢
  have hl : lv_has ls 1 [(0, .int p_0)] := hl
  refine lv_iload_n hx hb d_WM_isLevel_0 rfl (lv_at hl 0 rfl) ?_
  refine lv_bipush (v := (-90)) hx hb d_WM_isLevel_1 (by decide +kernel) ?_
  refine lv_icmp_lt (tgt := 16) hx hb d_WM_isLevel_3 (by decide) (fun c_1 => ?_) (fun c_1 => ?_)
  · refine lv_iconst (v := 0) hx hb d_WM_isLevel_16 (by decide +kernel) ?_
    exact W.zret (v := 0) hx hb hr (by decide +kernel) (fun t ht hW => ⟨0, rfl, (by unfold f_WM_isLevel; rw [if_pos c_1]), ht⟩) t_nil d_WM_isLevel_17
  · refine lv_iload_n hx hb d_WM_isLevel_6 rfl (lv_at hl 0 rfl) ?_
    refine lv_bipush (v := 90) hx hb d_WM_isLevel_7 (by decide +kernel) ?_
    refine lv_icmp_gt (tgt := 16) hx hb d_WM_isLevel_9 (by decide) (fun c_2 => ?_) (fun c_2 => ?_)
    · refine lv_iconst (v := 0) hx hb d_WM_isLevel_16 (by decide +kernel) ?_
      exact W.zret (v := 0) hx hb hr (by decide +kernel) (fun t ht hW => ⟨0, rfl, (by unfold f_WM_isLevel; rw [if_neg c_1, if_pos c_2]), ht⟩) t_nil d_WM_isLevel_17
    · refine lv_iconst (v := 1) hx hb d_WM_isLevel_12 (by decide +kernel) ?_
      refine lv_goto (tgt := 17) hx hb d_WM_isLevel_13 (by decide) ?_
      exact W.zret (v := 1) hx hb hr (by decide +kernel) (fun t ht hW => ⟨1, rfl, (by unfold f_WM_isLevel; rw [if_neg c_1, if_neg c_2]), ht⟩) t_nil d_WM_isLevel_17
def f_WM_table (p_0 : Int32) (p_1 : Int32) : Int32 := if p_0 < 0 then ((-1000)) else (if 12 ≤ p_0 then ((-1000)) else (if p_1 < (-90) then ((-1000)) else (if 90 < p_1 then ((-1000)) else (0))))
set_option maxHeartbeats 4000000 in
set_option maxRecDepth 100000 in
theorem c_WM_table (l : Launch) (dC : Nat → ClassId) (dI : Nat → Nat → Nat) (a : Nat → Nat) (k : Nat → ClassId) (L : List Nat) (hL : L.length = 40) (sz : Nat) (p_0 : Int32) (p_1 : Int32)  : Met l y_WM_table (.code y_WM_table b_WM_table 4 (some .int) :: TB) ({ frames := 1, cells := 0, slots := 0, locals := 20 }) (va_Pc [.ref (a 0), .int p_0, .int p_1] (PC dC dI (XW a k L) (XT k) sz)) (va_Qi (fun r (_ : Unit) => r = f_WM_table p_0 p_1) (fun (_ : Unit) (_ : State) => True) (va_A (XW a k L) sz)) 0 0 (va_A (XW a k L) sz) := by
  refine Met.ofW (cc := b_WM_table) (maxL := 4) (ret := (some .int)) (by decide) rfl ?_
  intro p e s m args below meth c s₁ B hml hv
  obtain ⟨rfl, hsz, hP, hK, hD0, hN⟩ := hv
  have hx := B.exec
  have hb := B.bytes
  have hr := B.returns
  have hts := atoms_spec (ws := (.code y_WM_table b_WM_table 4 (some .int) :: TB)) B.pre
  have htb := fun w (h : w ∈ TB) => hts w (List.mem_cons_of_mem _ h)
  have hown : s.vm.findClass R_WM = some m.cls := findClass_of_methodNamed B.named
  have hlocks := B.notSynchronized
  have hl := lv_entry ([.ref (a 0), .int p_0, .int p_1]) (n := 4) (Nat.le_of_ble_eq_true rfl)
  rw [lg_entry_eq]
  generalize (lg_sl ([.ref (a 0), .int p_0, .int p_1]) ++ List.replicate (4 - (lg_sl ([.ref (a 0), .int p_0, .int p_1])).length) Slot.unset).toArray = ls at hl ⊢
  have hl : lv_has ls 4 [(0, .ref (a 0)), (1, .int p_0), (2, .int p_1)] := hl
  subst hsz
  have hD := hD0.self (sz := s.heap.size)
  obtain ⟨A, hAe⟩ : ∃ A, va_A (XW a k L) s.heap.size = A := ⟨_, rfl⟩
  rw [hAe] at hD
  have hA : ∀ q : Nat, s.heap.size ≤ q → A q := fun q h => by rw [← hAe]; exact Or.inr h
  have hS : va_S A s.heap s.heap [] := va_S.rf
  have hP := hP
  refine lv_iload_n hx hb d_WM_table_0 rfl (lv_at hl 1 rfl) ?_
  refine vp_callSi (va_Run.run (va_runS (As := [.int p_0]) (rest := []) ⟨hx, hb, hml, hown, htb⟩ (c_WM_isHour l p_0) (cwS 1 htb (gd_S tw_15 tw_16 tw_14 tw_13) rfl rfl rfl (by decide +kernel) ⟨Nat.le_of_ble_eq_true rfl, Nat.le_of_ble_eq_true rfl⟩) ⟨fun _ _ _ _ h => h, fun U _ _ => ⟨rfl, trivial⟩⟩ rfl rfl hl.1 rfl (lv_room (Nat.le_of_ble_eq_true rfl)) d_WM_table_1 ⟨Nat.le_of_ble_eq_true rfl, Nat.le_of_ble_eq_true rfl⟩)) (fun r er => ?_)
  subst er
  by_cases c_1 : p_0 < 0
  · refine hb_ti 0 (by unfold f_WM_isHour; rw [if_pos c_1]) ?_
    refine lv_if_eq (tgt := 14) hx hb d_WM_table_4 (by decide) (fun _ => ?_) (fun h => absurd (by decide +kernel) h)
    refine lv_sipush (v := (-1000)) hx hb d_WM_table_14 (by decide +kernel) ?_
    refine W.widen (k := 0) (n := 0) (Nat.le_of_ble_eq_true rfl) (Nat.le_of_ble_eq_true rfl) ?_
    exact W.iret (v := (-1000)) hx hb hr (fun t ht hW => ⟨⟨(-1000), (), rfl, (by unfold f_WM_table; rw [if_pos c_1]), trivial⟩, by rw [hAe]; exact hS.F ht⟩) (by rw [hAe]; exact hS.2.2) d_WM_table_17
  · by_cases c_2 : 12 ≤ p_0
    · refine hb_ti 0 (by unfold f_WM_isHour; rw [if_neg c_1, if_pos c_2]) ?_
      refine lv_if_eq (tgt := 14) hx hb d_WM_table_4 (by decide) (fun _ => ?_) (fun h => absurd (by decide +kernel) h)
      refine lv_sipush (v := (-1000)) hx hb d_WM_table_14 (by decide +kernel) ?_
      refine W.widen (k := 0) (n := 0) (Nat.le_of_ble_eq_true rfl) (Nat.le_of_ble_eq_true rfl) ?_
      exact W.iret (v := (-1000)) hx hb hr (fun t ht hW => ⟨⟨(-1000), (), rfl, (by unfold f_WM_table; rw [if_neg c_1, if_pos c_2]), trivial⟩, by rw [hAe]; exact hS.F ht⟩) (by rw [hAe]; exact hS.2.2) d_WM_table_17
    · refine hb_ti 1 (by unfold f_WM_isHour; rw [if_neg c_1, if_neg c_2]) ?_
      refine lv_if_eq (tgt := 14) hx hb d_WM_table_4 (by decide) (fun h => absurd h (by decide +kernel)) (fun _ => ?_)
      refine lv_iload_n hx hb d_WM_table_7 rfl (lv_at hl 2 rfl) ?_
      refine vp_callSi (va_Run.run (va_runS (As := [.int p_1]) (rest := []) ⟨hx, hb, hml, hown, htb⟩ (c_WM_isLevel l p_1) (cwS 1 htb (gd_S tw_18 tw_19 tw_14 tw_17) rfl rfl rfl (by decide +kernel) ⟨Nat.le_of_ble_eq_true rfl, Nat.le_of_ble_eq_true rfl⟩) ⟨fun _ _ _ _ h => h, fun U _ _ => ⟨rfl, trivial⟩⟩ rfl rfl hl.1 rfl (lv_room (Nat.le_of_ble_eq_true rfl)) d_WM_table_8 ⟨Nat.le_of_ble_eq_true rfl, Nat.le_of_ble_eq_true rfl⟩)) (fun r er => ?_)
      subst er
      by_cases c_3 : p_1 < (-90)
      · refine hb_ti 0 (by unfold f_WM_isLevel; rw [if_pos c_3]) ?_
        refine lv_if_ne (tgt := 18) hx hb d_WM_table_11 (by decide) (fun h => absurd (by decide +kernel) h) (fun _ => ?_)
        refine lv_sipush (v := (-1000)) hx hb d_WM_table_14 (by decide +kernel) ?_
        refine W.widen (k := 0) (n := 0) (Nat.le_of_ble_eq_true rfl) (Nat.le_of_ble_eq_true rfl) ?_
        exact W.iret (v := (-1000)) hx hb hr (fun t ht hW => ⟨⟨(-1000), (), rfl, (by unfold f_WM_table; rw [if_neg c_1, if_neg c_2, if_pos c_3]), trivial⟩, by rw [hAe]; exact hS.F ht⟩) (by rw [hAe]; exact hS.2.2) d_WM_table_17
      · by_cases c_4 : 90 < p_1
        · refine hb_ti 0 (by unfold f_WM_isLevel; rw [if_neg c_3, if_pos c_4]) ?_
          refine lv_if_ne (tgt := 18) hx hb d_WM_table_11 (by decide) (fun h => absurd (by decide +kernel) h) (fun _ => ?_)
          refine lv_sipush (v := (-1000)) hx hb d_WM_table_14 (by decide +kernel) ?_
          refine W.widen (k := 0) (n := 0) (Nat.le_of_ble_eq_true rfl) (Nat.le_of_ble_eq_true rfl) ?_
          exact W.iret (v := (-1000)) hx hb hr (fun t ht hW => ⟨⟨(-1000), (), rfl, (by unfold f_WM_table; rw [if_neg c_1, if_neg c_2, if_neg c_3, if_pos c_4]), trivial⟩, by rw [hAe]; exact hS.F ht⟩) (by rw [hAe]; exact hS.2.2) d_WM_table_17
        · refine hb_ti 1 (by unfold f_WM_isLevel; rw [if_neg c_3, if_neg c_4]) ?_
          refine lv_if_ne (tgt := 18) hx hb d_WM_table_11 (by decide) (fun _ => ?_) (fun h => absurd h (by decide +kernel))
          refine lv_aload_n hx hb d_WM_table_18 rfl (lv_at hl 0 rfl) ?_
          refine va_get (D := (dC, dI)) (ci := 0) (v := .ref (a 1)) (C := R_WM) (T := F_WM) (N := 13) hx hb htb i_WM hown hK hP 0 rfl rfl 0 (by decide) (htb (.fieldLink R_WM 12 "WaterMen" "river" "LWaterMen$River;") tw_0) (fun _ h9 => h9) rfl d_WM_table_19 ?_
          refine va_get (D := (dC, dI)) (ci := 1) (v := .ref (a 3)) (C := R_Rv) (T := F_Rv) (N := 6) hx hb htb i_Rv hown hK hP 1 rfl rfl 1 (by decide) (htb (.fieldLink R_WM 89 "WaterMen$River" "table" "[I") tw_20) (fun _ h9 => h9) rfl d_WM_table_22 ?_
          refine lv_iload_n hx hb d_WM_table_25 rfl (lv_at hl 1 rfl) ?_
          refine va_iald hx hb hK hP 3 1 rfl rfl (hb_in c_1 c_2 (by decide +kernel)) d_WM_table_26 ?_
          refine hb_ti 0 rfl ?_
          refine lv_istore_n (lv' := [(3, .int 0), (0, .ref (a 0)), (1, .int p_0), (2, .int p_1)]) hx hb d_WM_table_27 rfl hl (by decide) rfl (fun ls hl => ?_)
          refine lv_aload_n hx hb d_WM_table_28 rfl (lv_at hl 1 rfl) ?_
          refine va_get (D := (dC, dI)) (ci := 0) (v := .ref (a 1)) (C := R_WM) (T := F_WM) (N := 13) hx hb htb i_WM hown hK hP 0 rfl rfl 0 (by decide) (htb (.fieldLink R_WM 12 "WaterMen" "river" "LWaterMen$River;") tw_0) (fun _ h9 => h9) rfl d_WM_table_29 ?_
          refine va_get (D := (dC, dI)) (ci := 1) (v := .ref (a 3)) (C := R_Rv) (T := F_Rv) (N := 6) hx hb htb i_Rv hown hK hP 1 rfl rfl 1 (by decide) (htb (.fieldLink R_WM 89 "WaterMen$River" "table" "[I") tw_20) (fun _ h9 => h9) rfl d_WM_table_32 ?_
          refine lv_iload_n hx hb d_WM_table_35 rfl (lv_at hl 2 rfl) ?_
          refine lv_iload_n hx hb d_WM_table_36 rfl (lv_at hl 3 rfl) ?_
          refine va_iast hx hb hK hP hD hS 3 1 rfl rfl (hb_in c_1 c_2 (by decide +kernel)) d_WM_table_37 (fun H locs hP hD hS => ?_)
          refine lv_iload_n hx hb d_WM_table_38 rfl (lv_at hl 0 rfl) ?_
          refine W.widen (k := 0) (n := 0) (Nat.le_of_ble_eq_true rfl) (Nat.le_of_ble_eq_true rfl) ?_
          exact W.iret (v := 0) hx hb hr (fun t ht hW => ⟨⟨0, (), rfl, (by unfold f_WM_table; rw [if_neg c_1, if_neg c_2, if_neg c_3, if_neg c_4]), trivial⟩, by rw [hAe]; exact hS.F ht⟩) (by rw [hAe]; exact hS.2.2) d_WM_table_39
def f_WM_manAt (a : Nat → Nat) (k : Nat → ClassId) (L : List Nat) (p_0 : Int32) (r : Option Nat) : Prop := if p_0 < 0 then (r = none) else (if 40 ≤ p_0 then (r = none) else (∃ (q kx : Nat), r = some q ∧ (XW a k L)[kx]? = some (q, .inr (2, manF))))
set_option maxHeartbeats 4000000 in
set_option maxRecDepth 100000 in
theorem c_WM_manAt (l : Launch) (dC : Nat → ClassId) (dI : Nat → Nat → Nat) (a : Nat → Nat) (k : Nat → ClassId) (L : List Nat) (hL : L.length = 40) (p_0 : Int32) : Met l y_WM_manAt (.code y_WM_manAt b_WM_manAt 2 (some (.object "WaterMen$Man")) :: TB) ({ frames := 0, cells := 0, slots := 0, locals := 0 }) (va_Pc [.ref (a 0), .int p_0] (PR dC dI (XW a k L) (XT k))) (va_Sq (fun r => f_WM_manAt a k L p_0 r)) 0 0 (fun _ => False) := by
  refine Met.ofW (cc := b_WM_manAt) (maxL := 2) (ret := (some (.object "WaterMen$Man"))) (by decide) rfl ?_
  intro p e s m args below meth c s₁ B hml hv
  obtain ⟨rfl, hP, hK, hN⟩ := hv
  have hx := B.exec
  have hb := B.bytes
  have hr := B.returns
  have hts := atoms_spec (ws := (.code y_WM_manAt b_WM_manAt 2 (some (.object "WaterMen$Man")) :: TB)) B.pre
  have htb := fun w (h : w ∈ TB) => hts w (List.mem_cons_of_mem _ h)
  have hown : s.vm.findClass R_WM = some m.cls := findClass_of_methodNamed B.named
  have hlocks := B.notSynchronized
  have hl := lv_entry ([.ref (a 0), .int p_0]) (n := 2) (Nat.le_of_ble_eq_true rfl)
  rw [lg_entry_eq]
  generalize (lg_sl ([.ref (a 0), .int p_0]) ++ List.replicate (2 - (lg_sl ([.ref (a 0), .int p_0])).length) Slot.unset).toArray = ls at hl ⊢
  have hl : lv_has ls 2 [(0, .ref (a 0)), (1, .int p_0)] := hl
  refine lv_iload_n hx hb d_WM_manAt_0 rfl (lv_at hl 1 rfl) ?_
  refine lv_if_lt (tgt := 19) hx hb d_WM_manAt_1 (by decide) (fun c_1 => ?_) (fun c_1 => ?_)
  · refine lv_null hx hb d_WM_manAt_19 ?_
    exact W.aret (v := .null) (rt := .object "WaterMen$Man") hx hb hr (Or.inl ⟨_, rfl⟩) (Or.inl rfl) (fun t ht hW => ⟨none, rfl, (by show f_WM_manAt a k L p_0 none; unfold f_WM_manAt; rw [if_pos c_1]), ht⟩) t_nil d_WM_manAt_20
  · refine lv_iload_n hx hb d_WM_manAt_4 rfl (lv_at hl 1 rfl) ?_
    refine lv_bipush (v := 40) hx hb d_WM_manAt_5 (by decide +kernel) ?_
    refine lv_icmp_ge (tgt := 19) hx hb d_WM_manAt_7 (by decide) (fun c_2 => ?_) (fun c_2 => ?_)
    · refine lv_null hx hb d_WM_manAt_19 ?_
      exact W.aret (v := .null) (rt := .object "WaterMen$Man") hx hb hr (Or.inl ⟨_, rfl⟩) (Or.inl rfl) (fun t ht hW => ⟨none, rfl, (by show f_WM_manAt a k L p_0 none; unfold f_WM_manAt; rw [if_neg c_1, if_pos c_2]), ht⟩) t_nil d_WM_manAt_20
    · refine lv_aload_n hx hb d_WM_manAt_10 rfl (lv_at hl 0 rfl) ?_
      refine va_get (D := (dC, dI)) (ci := 0) (v := .ref (a 6)) (C := R_WM) (T := F_WM) (N := 13) hx hb htb i_WM hown hK hP 0 rfl rfl 1 (by decide) (htb (.fieldLink R_WM 18 "WaterMen" "men" "[LWaterMen$Man;") tw_21) (fun _ h9 => h9) rfl d_WM_manAt_11 ?_
      refine lv_iload_n hx hb d_WM_manAt_14 rfl (lv_at hl 1 rfl) ?_
      refine va_aldq hx hb hK hP 6 4 rfl rfl (hb_in c_1 c_2 (by decide +kernel)) d_WM_manAt_15 ?_
      obtain ⟨q_3, x_4, hq_5, hk_6⟩ := xw_man (a := a) (k := k) hL (hb_in c_1 c_2 (by decide +kernel))
      refine hb_tv (.ref q_3) (by show va_rf (L[_]?) = _; rw [hq_5]; rfl) ?_
      refine lv_goto (tgt := 20) hx hb d_WM_manAt_16 (by decide) ?_
      exact W.aret (v := .ref q_3) (rt := .object "WaterMen$Man") hx hb hr (Or.inl ⟨_, rfl⟩) (Or.inr ⟨_, rfl⟩) (fun t ht hW => ⟨some q_3, rfl, (by show f_WM_manAt a k L p_0 (some q_3); unfold f_WM_manAt; rw [if_neg c_1, if_neg c_2]; exact ⟨q_3, x_4, rfl, hk_6⟩), ht⟩) t_nil d_WM_manAt_20
def f_WM_free (p_0 : Int32) : Int32 := if p_0 < 0 then ((-1)) else (if 40 ≤ p_0 then ((-1)) else (1))
set_option maxHeartbeats 4000000 in
set_option maxRecDepth 100000 in
theorem c_WM_free (l : Launch) (dC : Nat → ClassId) (dI : Nat → Nat → Nat) (a : Nat → Nat) (k : Nat → ClassId) (L : List Nat) (hL : L.length = 40) (sz : Nat) (p_0 : Int32)  : Met l y_WM_free (.code y_WM_free b_WM_free 3 (some .int) :: TB) ({ frames := 1, cells := 0, slots := 0, locals := 21 }) (va_Pc [.ref (a 0), .int p_0] (PC dC dI (XW a k L) (XT k) sz)) (va_Qi (fun r (_ : Unit) => r = f_WM_free p_0) (fun (_ : Unit) (_ : State) => True) (va_A (XW a k L) sz)) 0 0 (va_A (XW a k L) sz) := by
  refine Met.ofW (cc := b_WM_free) (maxL := 3) (ret := (some .int)) (by decide) rfl ?_
  intro p e s m args below meth c s₁ B hml hv
  obtain ⟨rfl, hsz, hP, hK, hD0, hN⟩ := hv
  have hx := B.exec
  have hb := B.bytes
  have hr := B.returns
  have hts := atoms_spec (ws := (.code y_WM_free b_WM_free 3 (some .int) :: TB)) B.pre
  have htb := fun w (h : w ∈ TB) => hts w (List.mem_cons_of_mem _ h)
  have hown : s.vm.findClass R_WM = some m.cls := findClass_of_methodNamed B.named
  have hlocks := B.notSynchronized
  have hl := lv_entry ([.ref (a 0), .int p_0]) (n := 3) (Nat.le_of_ble_eq_true rfl)
  rw [lg_entry_eq]
  generalize (lg_sl ([.ref (a 0), .int p_0]) ++ List.replicate (3 - (lg_sl ([.ref (a 0), .int p_0])).length) Slot.unset).toArray = ls at hl ⊢
  have hl : lv_has ls 3 [(0, .ref (a 0)), (1, .int p_0)] := hl
  subst hsz
  have hD := hD0.self (sz := s.heap.size)
  obtain ⟨A, hAe⟩ : ∃ A, va_A (XW a k L) s.heap.size = A := ⟨_, rfl⟩
  rw [hAe] at hD
  have hA : ∀ q : Nat, s.heap.size ≤ q → A q := fun q h => by rw [← hAe]; exact Or.inr h
  have hS : va_S A s.heap s.heap [] := va_S.rf
  have hP := hP
  refine lv_aload_n hx hb d_WM_free_0 rfl (lv_at hl 0 rfl) ?_
  refine lv_iload_n hx hb d_WM_free_1 rfl (lv_at hl 1 rfl) ?_
  refine va_csq (va_Run.run (va_runV (As := [.int p_0]) (rest := []) ⟨hx, hb, hml, hown, htb⟩ (c_WM_manAt l dC dI a k L hL p_0) (cwV 1 htb (gd_V tw_23 tw_24 tw_25 tw_14 tw_22) rfl rfl rfl (by decide +kernel) ⟨Nat.le_of_ble_eq_true rfl, Nat.le_of_ble_eq_true rfl⟩) ⟨pr_blind, va_recv hK hP (ci := 0) (q0 := 0) rfl rfl, pr_pre hP hK hN⟩ rfl rfl hl.1 rfl (lv_room (Nat.le_of_ble_eq_true rfl)) d_WM_free_2 ⟨Nat.le_of_ble_eq_true rfl, Nat.le_of_ble_eq_true rfl⟩)) (fun rr_2 hq_1 => ?_)
  unfold f_WM_manAt at hq_1
  by_cases c_3 : p_0 < 0
  · rw [if_pos c_3] at hq_1
    subst hq_1
    refine hb_tv .null rfl ?_
    refine lv_astore_nN (lv' := [(2, .null), (0, .ref (a 0)), (1, .int p_0)]) hx hb d_WM_free_5 rfl hl (by decide) rfl (fun ls hl => ?_)
    refine lv_aload_nN hx hb d_WM_free_6 rfl (lv_at hl 0 rfl) ?_
    refine lv_ifnonnullN hx hb d_WM_free_7 ?_
    refine lv_iconst (v := (-1)) hx hb d_WM_free_10 (by decide +kernel) ?_
    refine W.widen (k := 0) (n := 0) (Nat.le_of_ble_eq_true rfl) (Nat.le_of_ble_eq_true rfl) ?_
    exact W.iret (v := (-1)) hx hb hr (fun t ht hW => ⟨⟨(-1), (), rfl, (by unfold f_WM_free; rw [if_pos c_3]), trivial⟩, by rw [hAe]; exact hS.F ht⟩) (by rw [hAe]; exact hS.2.2) d_WM_free_11
  · by_cases c_4 : 40 ≤ p_0
    · rw [if_neg c_3, if_pos c_4] at hq_1
      subst hq_1
      refine hb_tv .null rfl ?_
      refine lv_astore_nN (lv' := [(2, .null), (0, .ref (a 0)), (1, .int p_0)]) hx hb d_WM_free_5 rfl hl (by decide) rfl (fun ls hl => ?_)
      refine lv_aload_nN hx hb d_WM_free_6 rfl (lv_at hl 0 rfl) ?_
      refine lv_ifnonnullN hx hb d_WM_free_7 ?_
      refine lv_iconst (v := (-1)) hx hb d_WM_free_10 (by decide +kernel) ?_
      refine W.widen (k := 0) (n := 0) (Nat.le_of_ble_eq_true rfl) (Nat.le_of_ble_eq_true rfl) ?_
      exact W.iret (v := (-1)) hx hb hr (fun t ht hW => ⟨⟨(-1), (), rfl, (by unfold f_WM_free; rw [if_neg c_3, if_pos c_4]), trivial⟩, by rw [hAe]; exact hS.F ht⟩) (by rw [hAe]; exact hS.2.2) d_WM_free_11
    · rw [if_neg c_3, if_neg c_4] at hq_1
      obtain ⟨q_5, x_6, rfl, hk_7⟩ := hq_1
      refine hb_tv (.ref q_5) rfl ?_
      refine lv_astore_n (lv' := [(2, .ref q_5), (0, .ref (a 0)), (1, .int p_0)]) hx hb d_WM_free_5 rfl hl (by decide) rfl (fun ls hl => ?_)
      refine lv_aload_n hx hb d_WM_free_6 rfl (lv_at hl 0 rfl) ?_
      refine lv_ifnonnull (tgt := 12) hx hb d_WM_free_7 (by decide) ?_
      refine lv_aload_n hx hb d_WM_free_12 rfl (lv_at hl 0 rfl) ?_
      refine va_get (D := (dC, dI)) (ci := 2) (v := .int 0) (C := R_Mn) (T := F_Mn) (N := 8) hx hb htb i_Mn hown hK hP x_6 hk_7 rfl 0 (by decide) (htb (.fieldLink R_WM 111 "WaterMen$Man" "state" "I") tw_26) (fun _ h9 => h9) rfl d_WM_free_13 ?_
      refine lv_if_eq (tgt := 22) hx hb d_WM_free_16 (by decide) (fun _ => ?_) (fun h => absurd (by decide +kernel) h)
      refine lv_aload_n hx hb d_WM_free_22 rfl (lv_at hl 0 rfl) ?_
      refine lv_iconst (v := 2) hx hb d_WM_free_23 (by decide +kernel) ?_
      refine va_put (D := (dC, dI)) (ci := 2) (v := .int 2) (ty := .int) (C := R_Mn) (T := F_Mn) (N := 8) hx hb htb i_Mn t_Mn t_Mn_ok n_Mn hown hK hP hD hS x_6 hk_7 rfl 0 (by decide) (htb (.fieldLink R_WM 111 "WaterMen$Man" "state" "I") tw_26) (fun _ h9 => h9) rfl (by decide +kernel) rfl rfl (Nat.le_of_ble_eq_true rfl) d_WM_free_24 (fun H locs hP hD hS => ?_)
      refine lv_iconst (v := 1) hx hb d_WM_free_27 (by decide +kernel) ?_
      refine W.widen (k := 0) (n := 0) (Nat.le_of_ble_eq_true rfl) (Nat.le_of_ble_eq_true rfl) ?_
      exact W.iret (v := 1) hx hb hr (fun t ht hW => ⟨⟨1, (), rfl, (by unfold f_WM_free; rw [if_neg c_3, if_neg c_4]), trivial⟩, by rw [hAe]; exact hS.F ht⟩) (by rw [hAe]; exact hS.2.2) d_WM_free_28
def f_WM_bind (p_0 : Int32) (p_1 : Int32) : Int32 := if p_0 < 0 then (if p_1 < 0 then ((-1)) else (if 40 ≤ p_1 then ((-1)) else ((-1)))) else (if 40 ≤ p_0 then (if p_1 < 0 then ((-1)) else (if 40 ≤ p_1 then ((-1)) else ((-1)))) else (if p_1 < 0 then ((-1)) else (if 40 ≤ p_1 then ((-1)) else ((-2)))))
set_option maxHeartbeats 4000000 in
set_option maxRecDepth 100000 in
theorem c_WM_bind (l : Launch) (dC : Nat → ClassId) (dI : Nat → Nat → Nat) (a : Nat → Nat) (k : Nat → ClassId) (L : List Nat) (hL : L.length = 40)  (p_0 : Int32) (p_1 : Int32)  : Met l y_WM_bind (.code y_WM_bind b_WM_bind 5 (some .int) :: TB) ({ frames := 1, cells := 0, slots := 0, locals := 21 }) (va_Pc [.ref (a 0), .int p_0, .int p_1] (PR dC dI (XW a k L) (XT k))) (vp_Si (fun r => r = f_WM_bind p_0 p_1)) 0 0 (fun _ => False) := by
  refine Met.ofW (cc := b_WM_bind) (maxL := 5) (ret := (some .int)) (by decide) rfl ?_
  intro p e s m args below meth c s₁ B hml hv
  obtain ⟨rfl, hP, hK, hN⟩ := hv
  have hx := B.exec
  have hb := B.bytes
  have hr := B.returns
  have hts := atoms_spec (ws := (.code y_WM_bind b_WM_bind 5 (some .int) :: TB)) B.pre
  have htb := fun w (h : w ∈ TB) => hts w (List.mem_cons_of_mem _ h)
  have hown : s.vm.findClass R_WM = some m.cls := findClass_of_methodNamed B.named
  have hlocks := B.notSynchronized
  have hl := lv_entry ([.ref (a 0), .int p_0, .int p_1]) (n := 5) (Nat.le_of_ble_eq_true rfl)
  rw [lg_entry_eq]
  generalize (lg_sl ([.ref (a 0), .int p_0, .int p_1]) ++ List.replicate (5 - (lg_sl ([.ref (a 0), .int p_0, .int p_1])).length) Slot.unset).toArray = ls at hl ⊢
  have hl : lv_has ls 5 [(0, .ref (a 0)), (1, .int p_0), (2, .int p_1)] := hl
  refine lv_aload_n hx hb d_WM_bind_0 rfl (lv_at hl 0 rfl) ?_
  refine lv_iload_n hx hb d_WM_bind_1 rfl (lv_at hl 1 rfl) ?_
  refine va_csq (va_Run.run (va_runV (As := [.int p_0]) (rest := []) ⟨hx, hb, hml, hown, htb⟩ (c_WM_manAt l dC dI a k L hL p_0) (cwV 1 htb (gd_V tw_23 tw_24 tw_25 tw_14 tw_22) rfl rfl rfl (by decide +kernel) ⟨Nat.le_of_ble_eq_true rfl, Nat.le_of_ble_eq_true rfl⟩) ⟨pr_blind, va_recv hK hP (ci := 0) (q0 := 0) rfl rfl, pr_pre hP hK hN⟩ rfl rfl hl.1 rfl (lv_room (Nat.le_of_ble_eq_true rfl)) d_WM_bind_2 ⟨Nat.le_of_ble_eq_true rfl, Nat.le_of_ble_eq_true rfl⟩)) (fun rr_2 hq_1 => ?_)
  unfold f_WM_manAt at hq_1
  by_cases c_3 : p_0 < 0
  · rw [if_pos c_3] at hq_1
    subst hq_1
    refine hb_tv .null rfl ?_
    refine lv_astore_nN (lv' := [(3, .null), (0, .ref (a 0)), (1, .int p_0), (2, .int p_1)]) hx hb d_WM_bind_5 rfl hl (by decide) rfl (fun ls hl => ?_)
    refine lv_aload_n hx hb d_WM_bind_6 rfl (lv_at hl 1 rfl) ?_
    refine lv_iload_n hx hb d_WM_bind_7 rfl (lv_at hl 3 rfl) ?_
    refine va_csq (va_Run.run (va_runV (As := [.int p_1]) (rest := []) ⟨hx, hb, hml, hown, htb⟩ (c_WM_manAt l dC dI a k L hL p_1) (cwV 1 htb (gd_V tw_23 tw_24 tw_25 tw_14 tw_22) rfl rfl rfl (by decide +kernel) ⟨Nat.le_of_ble_eq_true rfl, Nat.le_of_ble_eq_true rfl⟩) ⟨pr_blind, va_recv hK hP (ci := 0) (q0 := 0) rfl rfl, pr_pre hP hK hN⟩ rfl rfl hl.1 rfl (lv_room (Nat.le_of_ble_eq_true rfl)) d_WM_bind_8 ⟨Nat.le_of_ble_eq_true rfl, Nat.le_of_ble_eq_true rfl⟩)) (fun rr_5 hq_4 => ?_)
    unfold f_WM_manAt at hq_4
    by_cases c_6 : p_1 < 0
    · rw [if_pos c_6] at hq_4
      subst hq_4
      refine hb_tv .null rfl ?_
      refine lv_astoreN (lv' := [(4, .null), (3, .null), (0, .ref (a 0)), (1, .int p_0), (2, .int p_1)]) hx hb d_WM_bind_11 hl (by decide) rfl (fun ls hl => ?_)
      refine lv_aload_nN hx hb d_WM_bind_13 rfl (lv_at hl 1 rfl) ?_
      refine lv_ifnullN (tgt := 22) hx hb d_WM_bind_14 (by decide) ?_
      refine lv_iconst (v := (-1)) hx hb d_WM_bind_22 (by decide +kernel) ?_
      exact W.iret (v := (-1)) hx hb hr (fun t ht hW => ⟨(-1), rfl, (by unfold f_WM_bind; rw [if_pos c_3, if_pos c_6]), ht⟩) t_nil d_WM_bind_23
    · by_cases c_7 : 40 ≤ p_1
      · rw [if_neg c_6, if_pos c_7] at hq_4
        subst hq_4
        refine hb_tv .null rfl ?_
        refine lv_astoreN (lv' := [(4, .null), (3, .null), (0, .ref (a 0)), (1, .int p_0), (2, .int p_1)]) hx hb d_WM_bind_11 hl (by decide) rfl (fun ls hl => ?_)
        refine lv_aload_nN hx hb d_WM_bind_13 rfl (lv_at hl 1 rfl) ?_
        refine lv_ifnullN (tgt := 22) hx hb d_WM_bind_14 (by decide) ?_
        refine lv_iconst (v := (-1)) hx hb d_WM_bind_22 (by decide +kernel) ?_
        exact W.iret (v := (-1)) hx hb hr (fun t ht hW => ⟨(-1), rfl, (by unfold f_WM_bind; rw [if_pos c_3, if_neg c_6, if_pos c_7]), ht⟩) t_nil d_WM_bind_23
      · rw [if_neg c_6, if_neg c_7] at hq_4
        obtain ⟨q_8, x_9, rfl, hk_10⟩ := hq_4
        refine hb_tv (.ref q_8) rfl ?_
        refine lv_astore (lv' := [(4, .ref q_8), (3, .null), (0, .ref (a 0)), (1, .int p_0), (2, .int p_1)]) hx hb d_WM_bind_11 hl (by decide) rfl (fun ls hl => ?_)
        refine lv_aload_nN hx hb d_WM_bind_13 rfl (lv_at hl 1 rfl) ?_
        refine lv_ifnullN (tgt := 22) hx hb d_WM_bind_14 (by decide) ?_
        refine lv_iconst (v := (-1)) hx hb d_WM_bind_22 (by decide +kernel) ?_
        exact W.iret (v := (-1)) hx hb hr (fun t ht hW => ⟨(-1), rfl, (by unfold f_WM_bind; rw [if_pos c_3, if_neg c_6, if_neg c_7]), ht⟩) t_nil d_WM_bind_23
  · by_cases c_11 : 40 ≤ p_0
    · rw [if_neg c_3, if_pos c_11] at hq_1
      subst hq_1
      refine hb_tv .null rfl ?_
      refine lv_astore_nN (lv' := [(3, .null), (0, .ref (a 0)), (1, .int p_0), (2, .int p_1)]) hx hb d_WM_bind_5 rfl hl (by decide) rfl (fun ls hl => ?_)
      refine lv_aload_n hx hb d_WM_bind_6 rfl (lv_at hl 1 rfl) ?_
      refine lv_iload_n hx hb d_WM_bind_7 rfl (lv_at hl 3 rfl) ?_
      refine va_csq (va_Run.run (va_runV (As := [.int p_1]) (rest := []) ⟨hx, hb, hml, hown, htb⟩ (c_WM_manAt l dC dI a k L hL p_1) (cwV 1 htb (gd_V tw_23 tw_24 tw_25 tw_14 tw_22) rfl rfl rfl (by decide +kernel) ⟨Nat.le_of_ble_eq_true rfl, Nat.le_of_ble_eq_true rfl⟩) ⟨pr_blind, va_recv hK hP (ci := 0) (q0 := 0) rfl rfl, pr_pre hP hK hN⟩ rfl rfl hl.1 rfl (lv_room (Nat.le_of_ble_eq_true rfl)) d_WM_bind_8 ⟨Nat.le_of_ble_eq_true rfl, Nat.le_of_ble_eq_true rfl⟩)) (fun rr_13 hq_12 => ?_)
      unfold f_WM_manAt at hq_12
      by_cases c_14 : p_1 < 0
      · rw [if_pos c_14] at hq_12
        subst hq_12
        refine hb_tv .null rfl ?_
        refine lv_astoreN (lv' := [(4, .null), (3, .null), (0, .ref (a 0)), (1, .int p_0), (2, .int p_1)]) hx hb d_WM_bind_11 hl (by decide) rfl (fun ls hl => ?_)
        refine lv_aload_nN hx hb d_WM_bind_13 rfl (lv_at hl 1 rfl) ?_
        refine lv_ifnullN (tgt := 22) hx hb d_WM_bind_14 (by decide) ?_
        refine lv_iconst (v := (-1)) hx hb d_WM_bind_22 (by decide +kernel) ?_
        exact W.iret (v := (-1)) hx hb hr (fun t ht hW => ⟨(-1), rfl, (by unfold f_WM_bind; rw [if_neg c_3, if_pos c_11, if_pos c_14]), ht⟩) t_nil d_WM_bind_23
      · by_cases c_15 : 40 ≤ p_1
        · rw [if_neg c_14, if_pos c_15] at hq_12
          subst hq_12
          refine hb_tv .null rfl ?_
          refine lv_astoreN (lv' := [(4, .null), (3, .null), (0, .ref (a 0)), (1, .int p_0), (2, .int p_1)]) hx hb d_WM_bind_11 hl (by decide) rfl (fun ls hl => ?_)
          refine lv_aload_nN hx hb d_WM_bind_13 rfl (lv_at hl 1 rfl) ?_
          refine lv_ifnullN (tgt := 22) hx hb d_WM_bind_14 (by decide) ?_
          refine lv_iconst (v := (-1)) hx hb d_WM_bind_22 (by decide +kernel) ?_
          exact W.iret (v := (-1)) hx hb hr (fun t ht hW => ⟨(-1), rfl, (by unfold f_WM_bind; rw [if_neg c_3, if_pos c_11, if_neg c_14, if_pos c_15]), ht⟩) t_nil d_WM_bind_23
        · rw [if_neg c_14, if_neg c_15] at hq_12
          obtain ⟨q_16, x_17, rfl, hk_18⟩ := hq_12
          refine hb_tv (.ref q_16) rfl ?_
          refine lv_astore (lv' := [(4, .ref q_16), (3, .null), (0, .ref (a 0)), (1, .int p_0), (2, .int p_1)]) hx hb d_WM_bind_11 hl (by decide) rfl (fun ls hl => ?_)
          refine lv_aload_nN hx hb d_WM_bind_13 rfl (lv_at hl 1 rfl) ?_
          refine lv_ifnullN (tgt := 22) hx hb d_WM_bind_14 (by decide) ?_
          refine lv_iconst (v := (-1)) hx hb d_WM_bind_22 (by decide +kernel) ?_
          exact W.iret (v := (-1)) hx hb hr (fun t ht hW => ⟨(-1), rfl, (by unfold f_WM_bind; rw [if_neg c_3, if_pos c_11, if_neg c_14, if_neg c_15]), ht⟩) t_nil d_WM_bind_23
    · rw [if_neg c_3, if_neg c_11] at hq_1
      obtain ⟨q_19, x_20, rfl, hk_21⟩ := hq_1
      refine hb_tv (.ref q_19) rfl ?_
      refine lv_astore_n (lv' := [(3, .ref q_19), (0, .ref (a 0)), (1, .int p_0), (2, .int p_1)]) hx hb d_WM_bind_5 rfl hl (by decide) rfl (fun ls hl => ?_)
      refine lv_aload_n hx hb d_WM_bind_6 rfl (lv_at hl 1 rfl) ?_
      refine lv_iload_n hx hb d_WM_bind_7 rfl (lv_at hl 3 rfl) ?_
      refine va_csq (va_Run.run (va_runV (As := [.int p_1]) (rest := []) ⟨hx, hb, hml, hown, htb⟩ (c_WM_manAt l dC dI a k L hL p_1) (cwV 1 htb (gd_V tw_23 tw_24 tw_25 tw_14 tw_22) rfl rfl rfl (by decide +kernel) ⟨Nat.le_of_ble_eq_true rfl, Nat.le_of_ble_eq_true rfl⟩) ⟨pr_blind, va_recv hK hP (ci := 0) (q0 := 0) rfl rfl, pr_pre hP hK hN⟩ rfl rfl hl.1 rfl (lv_room (Nat.le_of_ble_eq_true rfl)) d_WM_bind_8 ⟨Nat.le_of_ble_eq_true rfl, Nat.le_of_ble_eq_true rfl⟩)) (fun rr_23 hq_22 => ?_)
      unfold f_WM_manAt at hq_22
      by_cases c_24 : p_1 < 0
      · rw [if_pos c_24] at hq_22
        subst hq_22
        refine hb_tv .null rfl ?_
        refine lv_astoreN (lv' := [(4, .null), (3, .ref q_19), (0, .ref (a 0)), (1, .int p_0), (2, .int p_1)]) hx hb d_WM_bind_11 hl (by decide) rfl (fun ls hl => ?_)
        refine lv_aload_n hx hb d_WM_bind_13 rfl (lv_at hl 1 rfl) ?_
        refine lv_ifnull hx hb d_WM_bind_14 ?_
        refine lv_aloadN hx hb d_WM_bind_17 (lv_at hl 0 rfl) ?_
        refine lv_ifnonnullN hx hb d_WM_bind_19 ?_
        refine lv_iconst (v := (-1)) hx hb d_WM_bind_22 (by decide +kernel) ?_
        exact W.iret (v := (-1)) hx hb hr (fun t ht hW => ⟨(-1), rfl, (by unfold f_WM_bind; rw [if_neg c_3, if_neg c_11, if_pos c_24]), ht⟩) t_nil d_WM_bind_23
      · by_cases c_25 : 40 ≤ p_1
        · rw [if_neg c_24, if_pos c_25] at hq_22
          subst hq_22
          refine hb_tv .null rfl ?_
          refine lv_astoreN (lv' := [(4, .null), (3, .ref q_19), (0, .ref (a 0)), (1, .int p_0), (2, .int p_1)]) hx hb d_WM_bind_11 hl (by decide) rfl (fun ls hl => ?_)
          refine lv_aload_n hx hb d_WM_bind_13 rfl (lv_at hl 1 rfl) ?_
          refine lv_ifnull hx hb d_WM_bind_14 ?_
          refine lv_aloadN hx hb d_WM_bind_17 (lv_at hl 0 rfl) ?_
          refine lv_ifnonnullN hx hb d_WM_bind_19 ?_
          refine lv_iconst (v := (-1)) hx hb d_WM_bind_22 (by decide +kernel) ?_
          exact W.iret (v := (-1)) hx hb hr (fun t ht hW => ⟨(-1), rfl, (by unfold f_WM_bind; rw [if_neg c_3, if_neg c_11, if_neg c_24, if_pos c_25]), ht⟩) t_nil d_WM_bind_23
        · rw [if_neg c_24, if_neg c_25] at hq_22
          obtain ⟨q_26, x_27, rfl, hk_28⟩ := hq_22
          refine hb_tv (.ref q_26) rfl ?_
          refine lv_astore (lv' := [(4, .ref q_26), (3, .ref q_19), (0, .ref (a 0)), (1, .int p_0), (2, .int p_1)]) hx hb d_WM_bind_11 hl (by decide) rfl (fun ls hl => ?_)
          refine lv_aload_n hx hb d_WM_bind_13 rfl (lv_at hl 1 rfl) ?_
          refine lv_ifnull hx hb d_WM_bind_14 ?_
          refine lv_aload hx hb d_WM_bind_17 (lv_at hl 0 rfl) ?_
          refine lv_ifnonnull (tgt := 24) hx hb d_WM_bind_19 (by decide) ?_
          refine lv_aload_n hx hb d_WM_bind_24 rfl (lv_at hl 1 rfl) ?_
          refine va_get (D := (dC, dI)) (ci := 2) (v := .int 0) (C := R_Mn) (T := F_Mn) (N := 8) hx hb htb i_Mn hown hK hP x_20 hk_21 rfl 0 (by decide) (htb (.fieldLink R_WM 111 "WaterMen$Man" "state" "I") tw_26) (fun _ h9 => h9) rfl d_WM_bind_25 ?_
          refine lv_if_ne (tgt := 40) hx hb d_WM_bind_28 (by decide) (fun h => absurd (by decide +kernel) h) (fun _ => ?_)
          refine lv_aload hx hb d_WM_bind_31 (lv_at hl 0 rfl) ?_
          refine va_get (D := (dC, dI)) (ci := 2) (v := .int 0) (C := R_Mn) (T := F_Mn) (N := 8) hx hb htb i_Mn hown hK hP x_27 hk_28 rfl 0 (by decide) (htb (.fieldLink R_WM 111 "WaterMen$Man" "state" "I") tw_26) (fun _ h9 => h9) rfl d_WM_bind_33 ?_
          refine lv_iconst (v := 2) hx hb d_WM_bind_36 (by decide +kernel) ?_
          refine lv_icmp_eq (tgt := 43) hx hb d_WM_bind_37 (by decide) (fun h => absurd h (by decide +kernel)) (fun _ => ?_)
          refine lv_bipush (v := (-2)) hx hb d_WM_bind_40 (by decide +kernel) ?_
          exact W.iret (v := (-2)) hx hb hr (fun t ht hW => ⟨(-2), rfl, (by unfold f_WM_bind; rw [if_neg c_3, if_neg c_11, if_neg c_24, if_neg c_25]), ht⟩) t_nil d_WM_bind_42
def f_Md_in (p_0 : Int32) (p_1 : Int32) (p_2 : Int32) : Int32 := if p_0 < p_1 then (0) else (if p_2 < p_0 then (0) else (1))
set_option maxHeartbeats 4000000 in
set_option maxRecDepth 100000 in
theorem c_Md_in (l : Launch)  (p_0 : Int32) (p_1 : Int32) (p_2 : Int32)  : Met l y_Md_in (.code y_Md_in b_Md_in 3 (some .boolean) :: TB) ({ frames := 0, cells := 0, slots := 0, locals := 0 }) (va_Pc [.int p_0, .int p_1, .int p_2] (fun _ => True)) (vp_Si (fun r => r = f_Md_in p_0 p_1 p_2)) 0 0 (fun _ => False) := by
  refine Met.ofW (cc := b_Md_in) (maxL := 3) (ret := (some .boolean)) (by decide) rfl ?_
  intro p e s m args below meth c s₁ B hml hv
  obtain ⟨rfl, -⟩ := hv
  have hx := B.exec
  have hb := B.bytes
  have hr := B.returns
  have hts := atoms_spec (ws := (.code y_Md_in b_Md_in 3 (some .boolean) :: TB)) B.pre
  have htb := fun w (h : w ∈ TB) => hts w (List.mem_cons_of_mem _ h)
  have hown : s.vm.findClass R_Md = some m.cls := findClass_of_methodNamed B.named
  have hlocks := B.notSynchronized
  have hl := lv_entry ([.int p_0, .int p_1, .int p_2]) (n := 3) (Nat.le_of_ble_eq_true rfl)
  rw [lg_entry_eq]
  generalize (lg_sl ([.int p_0, .int p_1, .int p_2]) ++ List.replicate (3 - (lg_sl ([.int p_0, .int p_1, .int p_2])).length) Slot.unset).toArray = ls at hl ⊢
  have hl : lv_has ls 3 [(0, .int p_0), (1, .int p_1), (2, .int p_2)] := hl
  refine lv_iload_n hx hb d_Md_in_0 rfl (lv_at hl 0 rfl) ?_
  refine lv_iload_n hx hb d_Md_in_1 rfl (lv_at hl 1 rfl) ?_
  refine lv_icmp_lt (tgt := 14) hx hb d_Md_in_2 (by decide) (fun c_1 => ?_) (fun c_1 => ?_)
  · refine lv_iconst (v := 0) hx hb d_Md_in_14 (by decide +kernel) ?_
    exact W.zret (v := 0) hx hb hr (by decide +kernel) (fun t ht hW => ⟨0, rfl, (by unfold f_Md_in; rw [if_pos c_1]), ht⟩) t_nil d_Md_in_15
  · refine lv_iload_n hx hb d_Md_in_5 rfl (lv_at hl 0 rfl) ?_
    refine lv_iload_n hx hb d_Md_in_6 rfl (lv_at hl 2 rfl) ?_
    refine lv_icmp_gt (tgt := 14) hx hb d_Md_in_7 (by decide) (fun c_2 => ?_) (fun c_2 => ?_)
    · refine lv_iconst (v := 0) hx hb d_Md_in_14 (by decide +kernel) ?_
      exact W.zret (v := 0) hx hb hr (by decide +kernel) (fun t ht hW => ⟨0, rfl, (by unfold f_Md_in; rw [if_neg c_1, if_pos c_2]), ht⟩) t_nil d_Md_in_15
    · refine lv_iconst (v := 1) hx hb d_Md_in_10 (by decide +kernel) ?_
      refine lv_goto (tgt := 15) hx hb d_Md_in_11 (by decide) ?_
      exact W.zret (v := 1) hx hb hr (by decide +kernel) (fun t ht hW => ⟨1, rfl, (by unfold f_Md_in; rw [if_neg c_1, if_neg c_2]), ht⟩) t_nil d_Md_in_15
def f_Md_stairs (p_0 : Int32) : Int32 := if p_0 < 0 then ((-1)) else (if 60 < p_0 then ((-1)) else (0))
set_option maxHeartbeats 4000000 in
set_option maxRecDepth 100000 in
theorem c_Md_stairs (l : Launch) (dC : Nat → ClassId) (dI : Nat → Nat → Nat) (a : Nat → Nat) (k : Nat → ClassId) (sz : Nat) (p_0 : Int32)  : Met l y_Md_stairs (.code y_Md_stairs b_Md_stairs 2 (some .int) :: TB) ({ frames := 1, cells := 0, slots := 0, locals := 22 }) (va_Pc [.ref (a 0), .int p_0] (PC dC dI (MW a k) (MT k) sz)) (va_Qi (fun r (_ : Unit) => r = f_Md_stairs p_0) (fun (_ : Unit) (_ : State) => True) (va_A (MW a k) sz)) 0 0 (va_A (MW a k) sz) := by
  refine Met.ofW (cc := b_Md_stairs) (maxL := 2) (ret := (some .int)) (by decide) rfl ?_
  intro p e s m args below meth c s₁ B hml hv
  obtain ⟨rfl, hsz, hP, hK, hD0, hN⟩ := hv
  have hx := B.exec
  have hb := B.bytes
  have hr := B.returns
  have hts := atoms_spec (ws := (.code y_Md_stairs b_Md_stairs 2 (some .int) :: TB)) B.pre
  have htb := fun w (h : w ∈ TB) => hts w (List.mem_cons_of_mem _ h)
  have hown : s.vm.findClass R_Md = some m.cls := findClass_of_methodNamed B.named
  have hlocks := B.notSynchronized
  have hl := lv_entry ([.ref (a 0), .int p_0]) (n := 2) (Nat.le_of_ble_eq_true rfl)
  rw [lg_entry_eq]
  generalize (lg_sl ([.ref (a 0), .int p_0]) ++ List.replicate (2 - (lg_sl ([.ref (a 0), .int p_0])).length) Slot.unset).toArray = ls at hl ⊢
  have hl : lv_has ls 2 [(0, .ref (a 0)), (1, .int p_0)] := hl
  subst hsz
  have hD := hD0.self (sz := s.heap.size)
  obtain ⟨A, hAe⟩ : ∃ A, va_A (MW a k) s.heap.size = A := ⟨_, rfl⟩
  rw [hAe] at hD
  have hA : ∀ q : Nat, s.heap.size ≤ q → A q := fun q h => by rw [← hAe]; exact Or.inr h
  have hS : va_S A s.heap s.heap [] := va_S.rf
  have hP := hP
  refine lv_iload_n hx hb d_Md_stairs_0 rfl (lv_at hl 1 rfl) ?_
  refine lv_iconst (v := 0) hx hb d_Md_stairs_1 (by decide +kernel) ?_
  refine lv_bipush (v := 60) hx hb d_Md_stairs_2 (by decide +kernel) ?_
  refine vp_callSi (va_Run.run (va_runS (As := [.int p_0, .int 0, .int 60]) (rest := []) ⟨hx, hb, hml, hown, htb⟩ (c_Md_in l p_0 0 60) (cwS 3 htb (gd_S tw_29 tw_30 tw_28 tw_27) rfl rfl rfl (by decide +kernel) ⟨Nat.le_of_ble_eq_true rfl, Nat.le_of_ble_eq_true rfl⟩) ⟨fun _ _ _ _ h => h, fun U _ _ => ⟨rfl, trivial⟩⟩ rfl rfl hl.1 rfl (lv_room (Nat.le_of_ble_eq_true rfl)) d_Md_stairs_4 ⟨Nat.le_of_ble_eq_true rfl, Nat.le_of_ble_eq_true rfl⟩)) (fun r er => ?_)
  subst er
  by_cases c_1 : p_0 < 0
  · refine hb_ti 0 (by unfold f_Md_in; rw [if_pos c_1]) ?_
    refine lv_if_eq (tgt := 32) hx hb d_Md_stairs_7 (by decide) (fun _ => ?_) (fun h => absurd (by decide +kernel) h)
    refine lv_iconst (v := (-1)) hx hb d_Md_stairs_32 (by decide +kernel) ?_
    refine W.widen (k := 0) (n := 0) (Nat.le_of_ble_eq_true rfl) (Nat.le_of_ble_eq_true rfl) ?_
    exact W.iret (v := (-1)) hx hb hr (fun t ht hW => ⟨⟨(-1), (), rfl, (by unfold f_Md_stairs; rw [if_pos c_1]), trivial⟩, by rw [hAe]; exact hS.F ht⟩) (by rw [hAe]; exact hS.2.2) d_Md_stairs_33
  · by_cases c_2 : 60 < p_0
    · refine hb_ti 0 (by unfold f_Md_in; rw [if_neg c_1, if_pos c_2]) ?_
      refine lv_if_eq (tgt := 32) hx hb d_Md_stairs_7 (by decide) (fun _ => ?_) (fun h => absurd (by decide +kernel) h)
      refine lv_iconst (v := (-1)) hx hb d_Md_stairs_32 (by decide +kernel) ?_
      refine W.widen (k := 0) (n := 0) (Nat.le_of_ble_eq_true rfl) (Nat.le_of_ble_eq_true rfl) ?_
      exact W.iret (v := (-1)) hx hb hr (fun t ht hW => ⟨⟨(-1), (), rfl, (by unfold f_Md_stairs; rw [if_neg c_1, if_pos c_2]), trivial⟩, by rw [hAe]; exact hS.F ht⟩) (by rw [hAe]; exact hS.2.2) d_Md_stairs_33
    · refine hb_ti 1 (by unfold f_Md_in; rw [if_neg c_1, if_neg c_2]) ?_
      refine lv_if_eq (tgt := 32) hx hb d_Md_stairs_7 (by decide) (fun h => absurd h (by decide +kernel)) (fun _ => ?_)
      refine lv_aload_n hx hb d_Md_stairs_10 rfl (lv_at hl 0 rfl) ?_
      refine va_get (D := (dC, dI)) (ci := 7) (v := .int 0) (C := R_Md) (T := F_Md) (N := 64) hx hb htb i_Md hown hK hP 0 rfl rfl 2 (by decide) (htb (.fieldLink R_Md 14 "WaterMenModel" "stairs" "I") tw_31) (fun _ h9 => h9) rfl d_Md_stairs_11 ?_
      refine lv_if_le (tgt := 34) hx hb d_Md_stairs_14 (by decide) (fun _ => ?_) (fun h => absurd (by decide +kernel) h)
      refine lv_aload_n hx hb d_Md_stairs_34 rfl (lv_at hl 0 rfl) ?_
      refine va_get (D := (dC, dI)) (ci := 7) (v := .int 0) (C := R_Md) (T := F_Md) (N := 64) hx hb htb i_Md hown hK hP 0 rfl rfl 2 (by decide) (htb (.fieldLink R_Md 14 "WaterMenModel" "stairs" "I") tw_31) (fun _ h9 => h9) rfl d_Md_stairs_35 ?_
      refine lv_bipush (v := 12) hx hb d_Md_stairs_38 (by decide +kernel) ?_
      refine lv_icmp_ne (tgt := 46) hx hb d_Md_stairs_40 (by decide) (fun _ => ?_) (fun h => absurd h (by decide +kernel))
      refine lv_aload_n hx hb d_Md_stairs_46 rfl (lv_at hl 0 rfl) ?_
      refine va_get (D := (dC, dI)) (ci := 7) (v := .ref (a 1)) (C := R_Md) (T := F_Md) (N := 64) hx hb htb i_Md hown hK hP 0 rfl rfl 3 (by decide) (htb (.fieldLink R_Md 32 "WaterMenModel" "miles" "[I") tw_32) (fun _ h9 => h9) rfl d_Md_stairs_47 ?_
      refine lv_aload_n hx hb d_Md_stairs_50 rfl (lv_at hl 0 rfl) ?_
      refine va_get (D := (dC, dI)) (ci := 7) (v := .int 0) (C := R_Md) (T := F_Md) (N := 64) hx hb htb i_Md hown hK hP 0 rfl rfl 2 (by decide) (htb (.fieldLink R_Md 14 "WaterMenModel" "stairs" "I") tw_31) (fun _ h9 => h9) rfl d_Md_stairs_51 ?_
      refine lv_iload_n hx hb d_Md_stairs_54 rfl (lv_at hl 1 rfl) ?_
      refine va_iast hx hb hK hP hD hS 1 0 rfl rfl (by unfold vp_in; decide +kernel) d_Md_stairs_55 (fun H locs hP hD hS => ?_)
      refine lv_aload_n hx hb d_Md_stairs_56 rfl (lv_at hl 0 rfl) ?_
      refine lv_dup hx hb d_Md_stairs_57 rfl ?_
      refine va_get (D := (dC, dI)) (ci := 7) (v := .int 0) (C := R_Md) (T := F_Md) (N := 64) hx hb htb i_Md hown hK hP 0 rfl rfl 2 (by decide) (htb (.fieldLink R_Md 14 "WaterMenModel" "stairs" "I") tw_31) (fun _ h9 => h9) rfl d_Md_stairs_58 ?_
      refine lv_iconst (v := 1) hx hb d_Md_stairs_61 (by decide +kernel) ?_
      refine lv_iadd hx hb d_Md_stairs_62 ?_
      refine hb_ti 1 (by decide +kernel) ?_
      refine va_put (D := (dC, dI)) (ci := 7) (v := .int 1) (ty := .int) (C := R_Md) (T := F_Md) (N := 64) hx hb htb i_Md t_Md t_Md_ok n_Md hown hK hP hD hS 0 rfl rfl 2 (by decide) (htb (.fieldLink R_Md 14 "WaterMenModel" "stairs" "I") tw_31) (fun _ h9 => h9) rfl (by decide +kernel) rfl rfl (Nat.le_of_ble_eq_true rfl) d_Md_stairs_63 (fun H locs hP hD hS => ?_)
      refine lv_aload_n hx hb d_Md_stairs_66 rfl (lv_at hl 0 rfl) ?_
      refine va_get (D := (dC, dI)) (ci := 7) (v := .int 1) (C := R_Md) (T := F_Md) (N := 64) hx hb htb i_Md hown hK hP 0 rfl rfl 2 (by decide) (htb (.fieldLink R_Md 14 "WaterMenModel" "stairs" "I") tw_31) (fun _ h9 => h9) rfl d_Md_stairs_67 ?_
      refine lv_iconst (v := 1) hx hb d_Md_stairs_70 (by decide +kernel) ?_
      refine lv_isub hx hb d_Md_stairs_71 ?_
      refine hb_ti 0 (by decide +kernel) ?_
      refine W.widen (k := 0) (n := 0) (Nat.le_of_ble_eq_true rfl) (Nat.le_of_ble_eq_true rfl) ?_
      exact W.iret (v := 0) hx hb hr (fun t ht hW => ⟨⟨0, (), rfl, (by unfold f_Md_stairs; rw [if_neg c_1, if_neg c_2]), trivial⟩, by rw [hAe]; exact hS.F ht⟩) (by rw [hAe]; exact hS.2.2) d_Md_stairs_72
def f_Md_table (p_0 : Int32) (p_1 : Int32) : Int32 := if p_0 < 0 then ((-1000)) else (if 11 < p_0 then ((-1000)) else (if p_1 < (-90) then ((-1000)) else (if 90 < p_1 then ((-1000)) else (0))))
set_option maxHeartbeats 4000000 in
set_option maxRecDepth 100000 in
theorem c_Md_table (l : Launch) (dC : Nat → ClassId) (dI : Nat → Nat → Nat) (a : Nat → Nat) (k : Nat → ClassId) (sz : Nat) (p_0 : Int32) (p_1 : Int32)  : Met l y_Md_table (.code y_Md_table b_Md_table 4 (some .int) :: TB) ({ frames := 1, cells := 0, slots := 0, locals := 22 }) (va_Pc [.ref (a 0), .int p_0, .int p_1] (PC dC dI (MW a k) (MT k) sz)) (va_Qi (fun r (_ : Unit) => r = f_Md_table p_0 p_1) (fun (_ : Unit) (_ : State) => True) (va_A (MW a k) sz)) 0 0 (va_A (MW a k) sz) := by
  refine Met.ofW (cc := b_Md_table) (maxL := 4) (ret := (some .int)) (by decide) rfl ?_
  intro p e s m args below meth c s₁ B hml hv
  obtain ⟨rfl, hsz, hP, hK, hD0, hN⟩ := hv
  have hx := B.exec
  have hb := B.bytes
  have hr := B.returns
  have hts := atoms_spec (ws := (.code y_Md_table b_Md_table 4 (some .int) :: TB)) B.pre
  have htb := fun w (h : w ∈ TB) => hts w (List.mem_cons_of_mem _ h)
  have hown : s.vm.findClass R_Md = some m.cls := findClass_of_methodNamed B.named
  have hlocks := B.notSynchronized
  have hl := lv_entry ([.ref (a 0), .int p_0, .int p_1]) (n := 4) (Nat.le_of_ble_eq_true rfl)
  rw [lg_entry_eq]
  generalize (lg_sl ([.ref (a 0), .int p_0, .int p_1]) ++ List.replicate (4 - (lg_sl ([.ref (a 0), .int p_0, .int p_1])).length) Slot.unset).toArray = ls at hl ⊢
  have hl : lv_has ls 4 [(0, .ref (a 0)), (1, .int p_0), (2, .int p_1)] := hl
  subst hsz
  have hD := hD0.self (sz := s.heap.size)
  obtain ⟨A, hAe⟩ : ∃ A, va_A (MW a k) s.heap.size = A := ⟨_, rfl⟩
  rw [hAe] at hD
  have hA : ∀ q : Nat, s.heap.size ≤ q → A q := fun q h => by rw [← hAe]; exact Or.inr h
  have hS : va_S A s.heap s.heap [] := va_S.rf
  have hP := hP
  refine lv_iload_n hx hb d_Md_table_0 rfl (lv_at hl 1 rfl) ?_
  refine lv_iconst (v := 0) hx hb d_Md_table_1 (by decide +kernel) ?_
  refine lv_bipush (v := 11) hx hb d_Md_table_2 (by decide +kernel) ?_
  refine vp_callSi (va_Run.run (va_runS (As := [.int p_0, .int 0, .int 11]) (rest := []) ⟨hx, hb, hml, hown, htb⟩ (c_Md_in l p_0 0 11) (cwS 3 htb (gd_S tw_29 tw_30 tw_28 tw_27) rfl rfl rfl (by decide +kernel) ⟨Nat.le_of_ble_eq_true rfl, Nat.le_of_ble_eq_true rfl⟩) ⟨fun _ _ _ _ h => h, fun U _ _ => ⟨rfl, trivial⟩⟩ rfl rfl hl.1 rfl (lv_room (Nat.le_of_ble_eq_true rfl)) d_Md_table_4 ⟨Nat.le_of_ble_eq_true rfl, Nat.le_of_ble_eq_true rfl⟩)) (fun r er => ?_)
  subst er
  by_cases c_1 : p_0 < 0
  · refine hb_ti 0 (by unfold f_Md_in; rw [if_pos c_1]) ?_
    refine lv_if_eq (tgt := 21) hx hb d_Md_table_7 (by decide) (fun _ => ?_) (fun h => absurd (by decide +kernel) h)
    refine lv_sipush (v := (-1000)) hx hb d_Md_table_21 (by decide +kernel) ?_
    refine W.widen (k := 0) (n := 0) (Nat.le_of_ble_eq_true rfl) (Nat.le_of_ble_eq_true rfl) ?_
    exact W.iret (v := (-1000)) hx hb hr (fun t ht hW => ⟨⟨(-1000), (), rfl, (by unfold f_Md_table; rw [if_pos c_1]), trivial⟩, by rw [hAe]; exact hS.F ht⟩) (by rw [hAe]; exact hS.2.2) d_Md_table_24
  · by_cases c_2 : 11 < p_0
    · refine hb_ti 0 (by unfold f_Md_in; rw [if_neg c_1, if_pos c_2]) ?_
      refine lv_if_eq (tgt := 21) hx hb d_Md_table_7 (by decide) (fun _ => ?_) (fun h => absurd (by decide +kernel) h)
      refine lv_sipush (v := (-1000)) hx hb d_Md_table_21 (by decide +kernel) ?_
      refine W.widen (k := 0) (n := 0) (Nat.le_of_ble_eq_true rfl) (Nat.le_of_ble_eq_true rfl) ?_
      exact W.iret (v := (-1000)) hx hb hr (fun t ht hW => ⟨⟨(-1000), (), rfl, (by unfold f_Md_table; rw [if_neg c_1, if_pos c_2]), trivial⟩, by rw [hAe]; exact hS.F ht⟩) (by rw [hAe]; exact hS.2.2) d_Md_table_24
    · refine hb_ti 1 (by unfold f_Md_in; rw [if_neg c_1, if_neg c_2]) ?_
      refine lv_if_eq (tgt := 21) hx hb d_Md_table_7 (by decide) (fun h => absurd h (by decide +kernel)) (fun _ => ?_)
      refine lv_iload_n hx hb d_Md_table_10 rfl (lv_at hl 2 rfl) ?_
      refine lv_bipush (v := (-90)) hx hb d_Md_table_11 (by decide +kernel) ?_
      refine lv_bipush (v := 90) hx hb d_Md_table_13 (by decide +kernel) ?_
      refine vp_callSi (va_Run.run (va_runS (As := [.int p_1, .int (-90), .int 90]) (rest := []) ⟨hx, hb, hml, hown, htb⟩ (c_Md_in l p_1 (-90) 90) (cwS 3 htb (gd_S tw_29 tw_30 tw_28 tw_27) rfl rfl rfl (by decide +kernel) ⟨Nat.le_of_ble_eq_true rfl, Nat.le_of_ble_eq_true rfl⟩) ⟨fun _ _ _ _ h => h, fun U _ _ => ⟨rfl, trivial⟩⟩ rfl rfl hl.1 rfl (lv_room (Nat.le_of_ble_eq_true rfl)) d_Md_table_15 ⟨Nat.le_of_ble_eq_true rfl, Nat.le_of_ble_eq_true rfl⟩)) (fun r er => ?_)
      subst er
      by_cases c_3 : p_1 < (-90)
      · refine hb_ti 0 (by unfold f_Md_in; rw [if_pos c_3]) ?_
        refine lv_if_ne (tgt := 25) hx hb d_Md_table_18 (by decide) (fun h => absurd (by decide +kernel) h) (fun _ => ?_)
        refine lv_sipush (v := (-1000)) hx hb d_Md_table_21 (by decide +kernel) ?_
        refine W.widen (k := 0) (n := 0) (Nat.le_of_ble_eq_true rfl) (Nat.le_of_ble_eq_true rfl) ?_
        exact W.iret (v := (-1000)) hx hb hr (fun t ht hW => ⟨⟨(-1000), (), rfl, (by unfold f_Md_table; rw [if_neg c_1, if_neg c_2, if_pos c_3]), trivial⟩, by rw [hAe]; exact hS.F ht⟩) (by rw [hAe]; exact hS.2.2) d_Md_table_24
      · by_cases c_4 : 90 < p_1
        · refine hb_ti 0 (by unfold f_Md_in; rw [if_neg c_3, if_pos c_4]) ?_
          refine lv_if_ne (tgt := 25) hx hb d_Md_table_18 (by decide) (fun h => absurd (by decide +kernel) h) (fun _ => ?_)
          refine lv_sipush (v := (-1000)) hx hb d_Md_table_21 (by decide +kernel) ?_
          refine W.widen (k := 0) (n := 0) (Nat.le_of_ble_eq_true rfl) (Nat.le_of_ble_eq_true rfl) ?_
          exact W.iret (v := (-1000)) hx hb hr (fun t ht hW => ⟨⟨(-1000), (), rfl, (by unfold f_Md_table; rw [if_neg c_1, if_neg c_2, if_neg c_3, if_pos c_4]), trivial⟩, by rw [hAe]; exact hS.F ht⟩) (by rw [hAe]; exact hS.2.2) d_Md_table_24
        · refine hb_ti 1 (by unfold f_Md_in; rw [if_neg c_3, if_neg c_4]) ?_
          refine lv_if_ne (tgt := 25) hx hb d_Md_table_18 (by decide) (fun _ => ?_) (fun h => absurd h (by decide +kernel))
          refine lv_aload_n hx hb d_Md_table_25 rfl (lv_at hl 0 rfl) ?_
          refine va_get (D := (dC, dI)) (ci := 7) (v := .ref (a 2)) (C := R_Md) (T := F_Md) (N := 64) hx hb htb i_Md hown hK hP 0 rfl rfl 5 (by decide) (htb (.fieldLink R_Md 25 "WaterMenModel" "table" "[I") tw_33) (fun _ h9 => h9) rfl d_Md_table_26 ?_
          refine lv_iload_n hx hb d_Md_table_29 rfl (lv_at hl 1 rfl) ?_
          refine va_iald hx hb hK hP 2 1 rfl rfl (hb_inl c_1 c_2 (by decide +kernel)) d_Md_table_30 ?_
          refine hb_ti 0 rfl ?_
          refine lv_istore_n (lv' := [(3, .int 0), (0, .ref (a 0)), (1, .int p_0), (2, .int p_1)]) hx hb d_Md_table_31 rfl hl (by decide) rfl (fun ls hl => ?_)
          refine lv_aload_n hx hb d_Md_table_32 rfl (lv_at hl 1 rfl) ?_
          refine va_get (D := (dC, dI)) (ci := 7) (v := .ref (a 2)) (C := R_Md) (T := F_Md) (N := 64) hx hb htb i_Md hown hK hP 0 rfl rfl 5 (by decide) (htb (.fieldLink R_Md 25 "WaterMenModel" "table" "[I") tw_33) (fun _ h9 => h9) rfl d_Md_table_33 ?_
          refine lv_iload_n hx hb d_Md_table_36 rfl (lv_at hl 2 rfl) ?_
          refine lv_iload_n hx hb d_Md_table_37 rfl (lv_at hl 3 rfl) ?_
          refine va_iast hx hb hK hP hD hS 2 1 rfl rfl (hb_inl c_1 c_2 (by decide +kernel)) d_Md_table_38 (fun H locs hP hD hS => ?_)
          refine lv_iload_n hx hb d_Md_table_39 rfl (lv_at hl 0 rfl) ?_
          refine W.widen (k := 0) (n := 0) (Nat.le_of_ble_eq_true rfl) (Nat.le_of_ble_eq_true rfl) ?_
          exact W.iret (v := 0) hx hb hr (fun t ht hW => ⟨⟨0, (), rfl, (by unfold f_Md_table; rw [if_neg c_1, if_neg c_2, if_neg c_3, if_neg c_4]), trivial⟩, by rw [hAe]; exact hS.F ht⟩) (by rw [hAe]; exact hS.2.2) d_Md_table_40
def f_Md_isMan (p_0 : Int32) : Int32 := if p_0 < 0 then (0) else (if 39 < p_0 then (0) else (1))
set_option maxHeartbeats 4000000 in
set_option maxRecDepth 100000 in
theorem c_Md_isMan (l : Launch)  (p_0 : Int32)  : Met l y_Md_isMan (.code y_Md_isMan b_Md_isMan 1 (some .boolean) :: TB) ({ frames := 1, cells := 0, slots := 0, locals := 22 }) (va_Pc [.int p_0] (fun _ => True)) (vp_Si (fun r => r = f_Md_isMan p_0)) 0 0 (fun _ => False) := by
  refine Met.ofW (cc := b_Md_isMan) (maxL := 1) (ret := (some .boolean)) (by decide) rfl ?_
  intro p e s m args below meth c s₁ B hml hv
  obtain ⟨rfl, -⟩ := hv
  have hx := B.exec
  have hb := B.bytes
  have hr := B.returns
  have hts := atoms_spec (ws := (.code y_Md_isMan b_Md_isMan 1 (some .boolean) :: TB)) B.pre
  have htb := fun w (h : w ∈ TB) => hts w (List.mem_cons_of_mem _ h)
  have hown : s.vm.findClass R_Md = some m.cls := findClass_of_methodNamed B.named
  have hlocks := B.notSynchronized
  have hl := lv_entry ([.int p_0]) (n := 1) (Nat.le_of_ble_eq_true rfl)
  rw [lg_entry_eq]
  generalize (lg_sl ([.int p_0]) ++ List.replicate (1 - (lg_sl ([.int p_0])).length) Slot.unset).toArray = ls at hl ⊢
  have hl : lv_has ls 1 [(0, .int p_0)] := hl
  refine lv_iload_n hx hb d_Md_isMan_0 rfl (lv_at hl 0 rfl) ?_
  refine lv_iconst (v := 0) hx hb d_Md_isMan_1 (by decide +kernel) ?_
  refine lv_bipush (v := 39) hx hb d_Md_isMan_2 (by decide +kernel) ?_
  refine vp_callSi (va_Run.run (va_runS (As := [.int p_0, .int 0, .int 39]) (rest := []) ⟨hx, hb, hml, hown, htb⟩ (c_Md_in l p_0 0 39) (cwS 3 htb (gd_S tw_29 tw_30 tw_28 tw_27) rfl rfl rfl (by decide +kernel) ⟨Nat.le_of_ble_eq_true rfl, Nat.le_of_ble_eq_true rfl⟩) ⟨fun _ _ _ _ h => h, fun U _ _ => ⟨rfl, trivial⟩⟩ rfl rfl hl.1 rfl (lv_room (Nat.le_of_ble_eq_true rfl)) d_Md_isMan_4 ⟨Nat.le_of_ble_eq_true rfl, Nat.le_of_ble_eq_true rfl⟩)) (fun r er => ?_)
  subst er
  by_cases c_1 : p_0 < 0
  · refine hb_ti 0 (by unfold f_Md_in; rw [if_pos c_1]) ?_
    exact W.zret (v := 0) hx hb hr (by decide +kernel) (fun t ht hW => ⟨0, rfl, (by unfold f_Md_isMan; rw [if_pos c_1]), ht⟩) t_nil d_Md_isMan_7
  · by_cases c_2 : 39 < p_0
    · refine hb_ti 0 (by unfold f_Md_in; rw [if_neg c_1, if_pos c_2]) ?_
      exact W.zret (v := 0) hx hb hr (by decide +kernel) (fun t ht hW => ⟨0, rfl, (by unfold f_Md_isMan; rw [if_neg c_1, if_pos c_2]), ht⟩) t_nil d_Md_isMan_7
    · refine hb_ti 1 (by unfold f_Md_in; rw [if_neg c_1, if_neg c_2]) ?_
      exact W.zret (v := 1) hx hb hr (by decide +kernel) (fun t ht hW => ⟨1, rfl, (by unfold f_Md_isMan; rw [if_neg c_1, if_neg c_2]), ht⟩) t_nil d_Md_isMan_7
def f_Md_free (p_0 : Int32) : Int32 := if p_0 < 0 then ((-1)) else (if 39 < p_0 then ((-1)) else (1))
set_option maxHeartbeats 4000000 in
set_option maxRecDepth 100000 in
theorem c_Md_free (l : Launch) (dC : Nat → ClassId) (dI : Nat → Nat → Nat) (a : Nat → Nat) (k : Nat → ClassId) (sz : Nat) (p_0 : Int32)  : Met l y_Md_free (.code y_Md_free b_Md_free 2 (some .int) :: TB) ({ frames := 2, cells := 0, slots := 0, locals := 42 }) (va_Pc [.ref (a 0), .int p_0] (PC dC dI (MW a k) (MT k) sz)) (va_Qi (fun r (_ : Unit) => r = f_Md_free p_0) (fun (_ : Unit) (_ : State) => True) (va_A (MW a k) sz)) 0 0 (va_A (MW a k) sz) := by
  refine Met.ofW (cc := b_Md_free) (maxL := 2) (ret := (some .int)) (by decide) rfl ?_
  intro p e s m args below meth c s₁ B hml hv
  obtain ⟨rfl, hsz, hP, hK, hD0, hN⟩ := hv
  have hx := B.exec
  have hb := B.bytes
  have hr := B.returns
  have hts := atoms_spec (ws := (.code y_Md_free b_Md_free 2 (some .int) :: TB)) B.pre
  have htb := fun w (h : w ∈ TB) => hts w (List.mem_cons_of_mem _ h)
  have hown : s.vm.findClass R_Md = some m.cls := findClass_of_methodNamed B.named
  have hlocks := B.notSynchronized
  have hl := lv_entry ([.ref (a 0), .int p_0]) (n := 2) (Nat.le_of_ble_eq_true rfl)
  rw [lg_entry_eq]
  generalize (lg_sl ([.ref (a 0), .int p_0]) ++ List.replicate (2 - (lg_sl ([.ref (a 0), .int p_0])).length) Slot.unset).toArray = ls at hl ⊢
  have hl : lv_has ls 2 [(0, .ref (a 0)), (1, .int p_0)] := hl
  subst hsz
  have hD := hD0.self (sz := s.heap.size)
  obtain ⟨A, hAe⟩ : ∃ A, va_A (MW a k) s.heap.size = A := ⟨_, rfl⟩
  rw [hAe] at hD
  have hA : ∀ q : Nat, s.heap.size ≤ q → A q := fun q h => by rw [← hAe]; exact Or.inr h
  have hS : va_S A s.heap s.heap [] := va_S.rf
  have hP := hP
  refine lv_iload_n hx hb d_Md_free_0 rfl (lv_at hl 1 rfl) ?_
  refine vp_callSi (va_Run.run (va_runS (As := [.int p_0]) (rest := []) ⟨hx, hb, hml, hown, htb⟩ (c_Md_isMan l p_0) (cwS 1 htb (gd_S tw_35 tw_36 tw_28 tw_34) rfl rfl rfl (by decide +kernel) ⟨Nat.le_of_ble_eq_true rfl, Nat.le_of_ble_eq_true rfl⟩) ⟨fun _ _ _ _ h => h, fun U _ _ => ⟨rfl, trivial⟩⟩ rfl rfl hl.1 rfl (lv_room (Nat.le_of_ble_eq_true rfl)) d_Md_free_1 ⟨Nat.le_of_ble_eq_true rfl, Nat.le_of_ble_eq_true rfl⟩)) (fun r er => ?_)
  subst er
  by_cases c_1 : p_0 < 0
  · refine hb_ti 0 (by unfold f_Md_isMan; rw [if_pos c_1]) ?_
    refine lv_if_ne (tgt := 9) hx hb d_Md_free_4 (by decide) (fun h => absurd (by decide +kernel) h) (fun _ => ?_)
    refine lv_iconst (v := (-1)) hx hb d_Md_free_7 (by decide +kernel) ?_
    refine W.widen (k := 0) (n := 0) (Nat.le_of_ble_eq_true rfl) (Nat.le_of_ble_eq_true rfl) ?_
    exact W.iret (v := (-1)) hx hb hr (fun t ht hW => ⟨⟨(-1), (), rfl, (by unfold f_Md_free; rw [if_pos c_1]), trivial⟩, by rw [hAe]; exact hS.F ht⟩) (by rw [hAe]; exact hS.2.2) d_Md_free_8
  · by_cases c_2 : 39 < p_0
    · refine hb_ti 0 (by unfold f_Md_isMan; rw [if_neg c_1, if_pos c_2]) ?_
      refine lv_if_ne (tgt := 9) hx hb d_Md_free_4 (by decide) (fun h => absurd (by decide +kernel) h) (fun _ => ?_)
      refine lv_iconst (v := (-1)) hx hb d_Md_free_7 (by decide +kernel) ?_
      refine W.widen (k := 0) (n := 0) (Nat.le_of_ble_eq_true rfl) (Nat.le_of_ble_eq_true rfl) ?_
      exact W.iret (v := (-1)) hx hb hr (fun t ht hW => ⟨⟨(-1), (), rfl, (by unfold f_Md_free; rw [if_neg c_1, if_pos c_2]), trivial⟩, by rw [hAe]; exact hS.F ht⟩) (by rw [hAe]; exact hS.2.2) d_Md_free_8
    · refine hb_ti 1 (by unfold f_Md_isMan; rw [if_neg c_1, if_neg c_2]) ?_
      refine lv_if_ne (tgt := 9) hx hb d_Md_free_4 (by decide) (fun _ => ?_) (fun h => absurd h (by decide +kernel))
      refine lv_aload_n hx hb d_Md_free_9 rfl (lv_at hl 0 rfl) ?_
      refine va_get (D := (dC, dI)) (ci := 7) (v := .ref (a 6)) (C := R_Md) (T := F_Md) (N := 64) hx hb htb i_Md hown hK hP 0 rfl rfl 9 (by decide) (htb (.fieldLink R_Md 58 "WaterMenModel" "state" "[I") tw_37) (fun _ h9 => h9) rfl d_Md_free_10 ?_
      refine lv_iload_n hx hb d_Md_free_13 rfl (lv_at hl 1 rfl) ?_
      refine va_iald hx hb hK hP 6 5 rfl rfl (hb_inl c_1 c_2 (by decide +kernel)) d_Md_free_14 ?_
      refine hb_ti 0 rfl ?_
      refine lv_if_eq (tgt := 21) hx hb d_Md_free_15 (by decide) (fun _ => ?_) (fun h => absurd (by decide +kernel) h)
      refine lv_aload_n hx hb d_Md_free_21 rfl (lv_at hl 0 rfl) ?_
      refine va_get (D := (dC, dI)) (ci := 7) (v := .ref (a 6)) (C := R_Md) (T := F_Md) (N := 64) hx hb htb i_Md hown hK hP 0 rfl rfl 9 (by decide) (htb (.fieldLink R_Md 58 "WaterMenModel" "state" "[I") tw_37) (fun _ h9 => h9) rfl d_Md_free_22 ?_
      refine lv_iload_n hx hb d_Md_free_25 rfl (lv_at hl 1 rfl) ?_
      refine lv_iconst (v := 2) hx hb d_Md_free_26 (by decide +kernel) ?_
      refine va_iast hx hb hK hP hD hS 6 5 rfl rfl (hb_inl c_1 c_2 (by decide +kernel)) d_Md_free_27 (fun H locs hP hD hS => ?_)
      refine lv_iconst (v := 1) hx hb d_Md_free_28 (by decide +kernel) ?_
      refine W.widen (k := 0) (n := 0) (Nat.le_of_ble_eq_true rfl) (Nat.le_of_ble_eq_true rfl) ?_
      exact W.iret (v := 1) hx hb hr (fun t ht hW => ⟨⟨1, (), rfl, (by unfold f_Md_free; rw [if_neg c_1, if_neg c_2]), trivial⟩, by rw [hAe]; exact hS.F ht⟩) (by rw [hAe]; exact hS.2.2) d_Md_free_29
def f_Md_bind (p_0 : Int32) (p_1 : Int32) : Int32 := if p_0 < 0 then ((-1)) else (if 39 < p_0 then ((-1)) else (if p_1 < 0 then ((-1)) else (if 39 < p_1 then ((-1)) else ((-2)))))
set_option maxHeartbeats 4000000 in
set_option maxRecDepth 100000 in
theorem c_Md_bind (l : Launch) (dC : Nat → ClassId) (dI : Nat → Nat → Nat) (a : Nat → Nat) (k : Nat → ClassId)  (p_0 : Int32) (p_1 : Int32)  : Met l y_Md_bind (.code y_Md_bind b_Md_bind 3 (some .int) :: TB) ({ frames := 2, cells := 0, slots := 0, locals := 42 }) (va_Pc [.ref (a 0), .int p_0, .int p_1] (PR dC dI (MW a k) (MT k))) (vp_Si (fun r => r = f_Md_bind p_0 p_1)) 0 0 (fun _ => False) := by
  refine Met.ofW (cc := b_Md_bind) (maxL := 3) (ret := (some .int)) (by decide) rfl ?_
  intro p e s m args below meth c s₁ B hml hv
  obtain ⟨rfl, hP, hK, hN⟩ := hv
  have hx := B.exec
  have hb := B.bytes
  have hr := B.returns
  have hts := atoms_spec (ws := (.code y_Md_bind b_Md_bind 3 (some .int) :: TB)) B.pre
  have htb := fun w (h : w ∈ TB) => hts w (List.mem_cons_of_mem _ h)
  have hown : s.vm.findClass R_Md = some m.cls := findClass_of_methodNamed B.named
  have hlocks := B.notSynchronized
  have hl := lv_entry ([.ref (a 0), .int p_0, .int p_1]) (n := 3) (Nat.le_of_ble_eq_true rfl)
  rw [lg_entry_eq]
  generalize (lg_sl ([.ref (a 0), .int p_0, .int p_1]) ++ List.replicate (3 - (lg_sl ([.ref (a 0), .int p_0, .int p_1])).length) Slot.unset).toArray = ls at hl ⊢
  have hl : lv_has ls 3 [(0, .ref (a 0)), (1, .int p_0), (2, .int p_1)] := hl
  refine lv_iload_n hx hb d_Md_bind_0 rfl (lv_at hl 1 rfl) ?_
  refine vp_callSi (va_Run.run (va_runS (As := [.int p_0]) (rest := []) ⟨hx, hb, hml, hown, htb⟩ (c_Md_isMan l p_0) (cwS 1 htb (gd_S tw_35 tw_36 tw_28 tw_34) rfl rfl rfl (by decide +kernel) ⟨Nat.le_of_ble_eq_true rfl, Nat.le_of_ble_eq_true rfl⟩) ⟨fun _ _ _ _ h => h, fun U _ _ => ⟨rfl, trivial⟩⟩ rfl rfl hl.1 rfl (lv_room (Nat.le_of_ble_eq_true rfl)) d_Md_bind_1 ⟨Nat.le_of_ble_eq_true rfl, Nat.le_of_ble_eq_true rfl⟩)) (fun r er => ?_)
  subst er
  by_cases c_1 : p_0 < 0
  · refine hb_ti 0 (by unfold f_Md_isMan; rw [if_pos c_1]) ?_
    refine lv_if_eq (tgt := 14) hx hb d_Md_bind_4 (by decide) (fun _ => ?_) (fun h => absurd (by decide +kernel) h)
    refine lv_iconst (v := (-1)) hx hb d_Md_bind_14 (by decide +kernel) ?_
    exact W.iret (v := (-1)) hx hb hr (fun t ht hW => ⟨(-1), rfl, (by unfold f_Md_bind; rw [if_pos c_1]), ht⟩) t_nil d_Md_bind_15
  · by_cases c_2 : 39 < p_0
    · refine hb_ti 0 (by unfold f_Md_isMan; rw [if_neg c_1, if_pos c_2]) ?_
      refine lv_if_eq (tgt := 14) hx hb d_Md_bind_4 (by decide) (fun _ => ?_) (fun h => absurd (by decide +kernel) h)
      refine lv_iconst (v := (-1)) hx hb d_Md_bind_14 (by decide +kernel) ?_
      exact W.iret (v := (-1)) hx hb hr (fun t ht hW => ⟨(-1), rfl, (by unfold f_Md_bind; rw [if_neg c_1, if_pos c_2]), ht⟩) t_nil d_Md_bind_15
    · refine hb_ti 1 (by unfold f_Md_isMan; rw [if_neg c_1, if_neg c_2]) ?_
      refine lv_if_eq (tgt := 14) hx hb d_Md_bind_4 (by decide) (fun h => absurd h (by decide +kernel)) (fun _ => ?_)
      refine lv_iload_n hx hb d_Md_bind_7 rfl (lv_at hl 2 rfl) ?_
      refine vp_callSi (va_Run.run (va_runS (As := [.int p_1]) (rest := []) ⟨hx, hb, hml, hown, htb⟩ (c_Md_isMan l p_1) (cwS 1 htb (gd_S tw_35 tw_36 tw_28 tw_34) rfl rfl rfl (by decide +kernel) ⟨Nat.le_of_ble_eq_true rfl, Nat.le_of_ble_eq_true rfl⟩) ⟨fun _ _ _ _ h => h, fun U _ _ => ⟨rfl, trivial⟩⟩ rfl rfl hl.1 rfl (lv_room (Nat.le_of_ble_eq_true rfl)) d_Md_bind_8 ⟨Nat.le_of_ble_eq_true rfl, Nat.le_of_ble_eq_true rfl⟩)) (fun r er => ?_)
      subst er
      by_cases c_3 : p_1 < 0
      · refine hb_ti 0 (by unfold f_Md_isMan; rw [if_pos c_3]) ?_
        refine lv_if_ne (tgt := 16) hx hb d_Md_bind_11 (by decide) (fun h => absurd (by decide +kernel) h) (fun _ => ?_)
        refine lv_iconst (v := (-1)) hx hb d_Md_bind_14 (by decide +kernel) ?_
        exact W.iret (v := (-1)) hx hb hr (fun t ht hW => ⟨(-1), rfl, (by unfold f_Md_bind; rw [if_neg c_1, if_neg c_2, if_pos c_3]), ht⟩) t_nil d_Md_bind_15
      · by_cases c_4 : 39 < p_1
        · refine hb_ti 0 (by unfold f_Md_isMan; rw [if_neg c_3, if_pos c_4]) ?_
          refine lv_if_ne (tgt := 16) hx hb d_Md_bind_11 (by decide) (fun h => absurd (by decide +kernel) h) (fun _ => ?_)
          refine lv_iconst (v := (-1)) hx hb d_Md_bind_14 (by decide +kernel) ?_
          exact W.iret (v := (-1)) hx hb hr (fun t ht hW => ⟨(-1), rfl, (by unfold f_Md_bind; rw [if_neg c_1, if_neg c_2, if_neg c_3, if_pos c_4]), ht⟩) t_nil d_Md_bind_15
        · refine hb_ti 1 (by unfold f_Md_isMan; rw [if_neg c_3, if_neg c_4]) ?_
          refine lv_if_ne (tgt := 16) hx hb d_Md_bind_11 (by decide) (fun _ => ?_) (fun h => absurd h (by decide +kernel))
          refine lv_aload_n hx hb d_Md_bind_16 rfl (lv_at hl 0 rfl) ?_
          refine va_get (D := (dC, dI)) (ci := 7) (v := .ref (a 6)) (C := R_Md) (T := F_Md) (N := 64) hx hb htb i_Md hown hK hP 0 rfl rfl 9 (by decide) (htb (.fieldLink R_Md 58 "WaterMenModel" "state" "[I") tw_37) (fun _ h9 => h9) rfl d_Md_bind_17 ?_
          refine lv_iload_n hx hb d_Md_bind_20 rfl (lv_at hl 1 rfl) ?_
          refine va_iald hx hb hK hP 6 5 rfl rfl (hb_inl c_1 c_2 (by decide +kernel)) d_Md_bind_21 ?_
          refine hb_ti 0 rfl ?_
          refine lv_if_ne (tgt := 35) hx hb d_Md_bind_22 (by decide) (fun h => absurd (by decide +kernel) h) (fun _ => ?_)
          refine lv_aload_n hx hb d_Md_bind_25 rfl (lv_at hl 0 rfl) ?_
          refine va_get (D := (dC, dI)) (ci := 7) (v := .ref (a 6)) (C := R_Md) (T := F_Md) (N := 64) hx hb htb i_Md hown hK hP 0 rfl rfl 9 (by decide) (htb (.fieldLink R_Md 58 "WaterMenModel" "state" "[I") tw_37) (fun _ h9 => h9) rfl d_Md_bind_26 ?_
          refine lv_iload_n hx hb d_Md_bind_29 rfl (lv_at hl 2 rfl) ?_
          refine va_iald hx hb hK hP 6 5 rfl rfl (hb_inl c_3 c_4 (by decide +kernel)) d_Md_bind_30 ?_
          refine hb_ti 0 rfl ?_
          refine lv_iconst (v := 2) hx hb d_Md_bind_31 (by decide +kernel) ?_
          refine lv_icmp_eq (tgt := 38) hx hb d_Md_bind_32 (by decide) (fun h => absurd h (by decide +kernel)) (fun _ => ?_)
          refine lv_bipush (v := (-2)) hx hb d_Md_bind_35 (by decide +kernel) ?_
          exact W.iret (v := (-2)) hx hb hr (fun t ht hW => ⟨(-2), rfl, (by unfold f_Md_bind; rw [if_neg c_1, if_neg c_2, if_neg c_3, if_neg c_4]), ht⟩) t_nil d_Md_bind_37
end
