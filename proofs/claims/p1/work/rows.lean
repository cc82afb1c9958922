section
-- ===== PART A: goes FIRST, ahead of the names: the tables' words, and 'selects' of the private methods out of them =====
/-- a private method of a class that the tables say can be made, by its rows of tables_1 -/
def lw_okq (q : MethodName × Nat) : Prop := (q.1.cls ≠ "java/lang/invoke/MethodHandle" ∧ q.1.cls ≠ "java/lang/invoke/VarHandle") ∧ Cond.instantiable q.1.cls q.2 ∈ tables_1 ∧ Cond.privateMethod q.1 ∈ tables_1 ∧ Cond.instanceMethod q.1 ∈ tables_1
theorem lw_p0 : lw_okq (⟨"WaterMen", "today", "()I"⟩, 13) := ⟨⟨by decide +kernel, by decide +kernel⟩, List.mem_of_getElem? (i := 18) (by decide +kernel), List.mem_of_getElem? (i := 288) (by decide +kernel), List.mem_of_getElem? (i := 289) (by decide +kernel)⟩
theorem lw_p1 : lw_okq (⟨"WaterMen", "manAt", "(I)LWaterMen$Man;"⟩, 13) := ⟨⟨by decide +kernel, by decide +kernel⟩, List.mem_of_getElem? (i := 18) (by decide +kernel), List.mem_of_getElem? (i := 301) (by decide +kernel), List.mem_of_getElem? (i := 302) (by decide +kernel)⟩
theorem lw_p2 : lw_okq (⟨"WaterMen", "placeInTurns", "(LWaterMen$Man;)I"⟩, 13) := ⟨⟨by decide +kernel, by decide +kernel⟩, List.mem_of_getElem? (i := 18) (by decide +kernel), List.mem_of_getElem? (i := 366) (by decide +kernel), List.mem_of_getElem? (i := 367) (by decide +kernel)⟩
theorem lw_p3 : lw_okq (⟨"WaterMen", "boatAt", "(I)LWaterMen$Boat;"⟩, 13) := ⟨⟨by decide +kernel, by decide +kernel⟩, List.mem_of_getElem? (i := 18) (by decide +kernel), List.mem_of_getElem? (i := 419) (by decide +kernel), List.mem_of_getElem? (i := 420) (by decide +kernel)⟩
theorem lw_p4 : lw_okq (⟨"WaterMen", "numberInForce", "(II)I"⟩, 13) := ⟨⟨by decide +kernel, by decide +kernel⟩, List.mem_of_getElem? (i := 18) (by decide +kernel), List.mem_of_getElem? (i := 575) (by decide +kernel), List.mem_of_getElem? (i := 576) (by decide +kernel)⟩
theorem lw_p5 : lw_okq (⟨"WaterMen", "orderAt", "(I)LWaterMen$Order;"⟩, 13) := ⟨⟨by decide +kernel, by decide +kernel⟩, List.mem_of_getElem? (i := 18) (by decide +kernel), List.mem_of_getElem? (i := 579) (by decide +kernel), List.mem_of_getElem? (i := 580) (by decide +kernel)⟩
theorem lw_p6 : lw_okq (⟨"WaterMen", "priceOf", "(LWaterMen$Order;IIII)I"⟩, 13) := ⟨⟨by decide +kernel, by decide +kernel⟩, List.mem_of_getElem? (i := 18) (by decide +kernel), List.mem_of_getElem? (i := 587) (by decide +kernel), List.mem_of_getElem? (i := 588) (by decide +kernel)⟩
theorem lw_p7 : lw_okq (⟨"WaterMen", "mayGoTo", "(LWaterMen$Boat;I)Z"⟩, 13) := ⟨⟨by decide +kernel, by decide +kernel⟩, List.mem_of_getElem? (i := 18) (by decide +kernel), List.mem_of_getElem? (i := 630) (by decide +kernel), List.mem_of_getElem? (i := 631) (by decide +kernel)⟩
theorem lw_p8 : lw_okq (⟨"WaterMen", "hindrance", "(LWaterMen$Boat;LWaterMen$Man;I)I"⟩, 13) := ⟨⟨by decide +kernel, by decide +kernel⟩, List.mem_of_getElem? (i := 18) (by decide +kernel), List.mem_of_getElem? (i := 634) (by decide +kernel), List.mem_of_getElem? (i := 635) (by decide +kernel)⟩
theorem lw_p9 : lw_okq (⟨"WaterMen", "mustWait", "(LWaterMen$Man;I)Z"⟩, 13) := ⟨⟨by decide +kernel, by decide +kernel⟩, List.mem_of_getElem? (i := 18) (by decide +kernel), List.mem_of_getElem? (i := 638) (by decide +kernel), List.mem_of_getElem? (i := 639) (by decide +kernel)⟩
theorem lw_p10 : lw_okq (⟨"WaterMen", "hasTurns", "(I)Z"⟩, 13) := ⟨⟨by decide +kernel, by decide +kernel⟩, List.mem_of_getElem? (i := 18) (by decide +kernel), List.mem_of_getElem? (i := 642) (by decide +kernel), List.mem_of_getElem? (i := 643) (by decide +kernel)⟩
theorem lw_p11 : lw_okq (⟨"WaterMen", "hourNow", "()I"⟩, 13) := ⟨⟨by decide +kernel, by decide +kernel⟩, List.mem_of_getElem? (i := 18) (by decide +kernel), List.mem_of_getElem? (i := 652) (by decide +kernel), List.mem_of_getElem? (i := 653) (by decide +kernel)⟩
theorem lw_p12 : lw_okq (⟨"WaterMen", "minutesOfWay", "(LWaterMen$Boat;I)I"⟩, 13) := ⟨⟨by decide +kernel, by decide +kernel⟩, List.mem_of_getElem? (i := 18) (by decide +kernel), List.mem_of_getElem? (i := 661) (by decide +kernel), List.mem_of_getElem? (i := 662) (by decide +kernel)⟩
theorem lw_p13 : lw_okq (⟨"WaterMen", "takeMoney", "(LWaterMen$Man;I)V"⟩, 13) := ⟨⟨by decide +kernel, by decide +kernel⟩, List.mem_of_getElem? (i := 18) (by decide +kernel), List.mem_of_getElem? (i := 717) (by decide +kernel), List.mem_of_getElem? (i := 718) (by decide +kernel)⟩
theorem lw_p14 : lw_okq (⟨"WaterMen", "partPot", "(I)V"⟩, 13) := ⟨⟨by decide +kernel, by decide +kernel⟩, List.mem_of_getElem? (i := 18) (by decide +kernel), List.mem_of_getElem? (i := 731) (by decide +kernel), List.mem_of_getElem? (i := 732) (by decide +kernel)⟩
theorem lw_p15 : lw_okq (⟨"WaterMen", "tripAt", "(I)LWaterMen$Trip;"⟩, 13) := ⟨⟨by decide +kernel, by decide +kernel⟩, List.mem_of_getElem? (i := 18) (by decide +kernel), List.mem_of_getElem? (i := 750) (by decide +kernel), List.mem_of_getElem? (i := 751) (by decide +kernel)⟩
def lw_privs_1 : List (MethodName × Nat) := [(⟨"WaterMen", "today", "()I"⟩, 13), (⟨"WaterMen", "manAt", "(I)LWaterMen$Man;"⟩, 13), (⟨"WaterMen", "placeInTurns", "(LWaterMen$Man;)I"⟩, 13), (⟨"WaterMen", "boatAt", "(I)LWaterMen$Boat;"⟩, 13), (⟨"WaterMen", "numberInForce", "(II)I"⟩, 13), (⟨"WaterMen", "orderAt", "(I)LWaterMen$Order;"⟩, 13), (⟨"WaterMen", "priceOf", "(LWaterMen$Order;IIII)I"⟩, 13), (⟨"WaterMen", "mayGoTo", "(LWaterMen$Boat;I)Z"⟩, 13), (⟨"WaterMen", "hindrance", "(LWaterMen$Boat;LWaterMen$Man;I)I"⟩, 13), (⟨"WaterMen", "mustWait", "(LWaterMen$Man;I)Z"⟩, 13), (⟨"WaterMen", "hasTurns", "(I)Z"⟩, 13), (⟨"WaterMen", "hourNow", "()I"⟩, 13), (⟨"WaterMen", "minutesOfWay", "(LWaterMen$Boat;I)I"⟩, 13), (⟨"WaterMen", "takeMoney", "(LWaterMen$Man;I)V"⟩, 13), (⟨"WaterMen", "partPot", "(I)V"⟩, 13), (⟨"WaterMen", "tripAt", "(I)LWaterMen$Trip;"⟩, 13)]
theorem lw_r1 : ∀ q ∈ lw_privs_1, lw_okq q := List.forall_mem_cons.mpr ⟨lw_p0, List.forall_mem_cons.mpr ⟨lw_p1, List.forall_mem_cons.mpr ⟨lw_p2, List.forall_mem_cons.mpr ⟨lw_p3, List.forall_mem_cons.mpr ⟨lw_p4, List.forall_mem_cons.mpr ⟨lw_p5, List.forall_mem_cons.mpr ⟨lw_p6, List.forall_mem_cons.mpr ⟨lw_p7, List.forall_mem_cons.mpr ⟨lw_p8, List.forall_mem_cons.mpr ⟨lw_p9, List.forall_mem_cons.mpr ⟨lw_p10, List.forall_mem_cons.mpr ⟨lw_p11, List.forall_mem_cons.mpr ⟨lw_p12, List.forall_mem_cons.mpr ⟨lw_p13, List.forall_mem_cons.mpr ⟨lw_p14, List.forall_mem_cons.mpr ⟨lw_p15, fun _ h => absurd h List.not_mem_nil⟩⟩⟩⟩⟩⟩⟩⟩⟩⟩⟩⟩⟩⟩⟩⟩
theorem lw_p16 : lw_okq (⟨"WaterMen", "dueOf", "(LWaterMen$Trip;I)I"⟩, 13) := ⟨⟨by decide +kernel, by decide +kernel⟩, List.mem_of_getElem? (i := 18) (by decide +kernel), List.mem_of_getElem? (i := 786) (by decide +kernel), List.mem_of_getElem? (i := 787) (by decide +kernel)⟩
theorem lw_p17 : lw_okq (⟨"WaterMen", "overpaid", "(LWaterMen$Trip;I)I"⟩, 13) := ⟨⟨by decide +kernel, by decide +kernel⟩, List.mem_of_getElem? (i := 18) (by decide +kernel), List.mem_of_getElem? (i := 794) (by decide +kernel), List.mem_of_getElem? (i := 795) (by decide +kernel)⟩
theorem lw_p18 : lw_okq (⟨"WaterMen", "menThatAre", "(I)I"⟩, 13) := ⟨⟨by decide +kernel, by decide +kernel⟩, List.mem_of_getElem? (i := 18) (by decide +kernel), List.mem_of_getElem? (i := 824) (by decide +kernel), List.mem_of_getElem? (i := 825) (by decide +kernel)⟩
theorem lw_p19 : lw_okq (⟨"WaterMen", "coinsOfMen", "()I"⟩, 13) := ⟨⟨by decide +kernel, by decide +kernel⟩, List.mem_of_getElem? (i := 18) (by decide +kernel), List.mem_of_getElem? (i := 832) (by decide +kernel), List.mem_of_getElem? (i := 833) (by decide +kernel)⟩
theorem lw_p20 : lw_okq (⟨"WaterMenModel", "flowOf", "(II)I"⟩, 64) := ⟨⟨by decide +kernel, by decide +kernel⟩, List.mem_of_getElem? (i := 864) (by decide +kernel), List.mem_of_getElem? (i := 862) (by decide +kernel), List.mem_of_getElem? (i := 863) (by decide +kernel)⟩
theorem lw_p21 : lw_okq (⟨"WaterMenModel", "levelOf", "(II)I"⟩, 64) := ⟨⟨by decide +kernel, by decide +kernel⟩, List.mem_of_getElem? (i := 864) (by decide +kernel), List.mem_of_getElem? (i := 867) (by decide +kernel), List.mem_of_getElem? (i := 868) (by decide +kernel)⟩
theorem lw_p22 : lw_okq (⟨"WaterMenModel", "today", "()I"⟩, 64) := ⟨⟨by decide +kernel, by decide +kernel⟩, List.mem_of_getElem? (i := 864) (by decide +kernel), List.mem_of_getElem? (i := 875) (by decide +kernel), List.mem_of_getElem? (i := 876) (by decide +kernel)⟩
theorem lw_p23 : lw_okq (⟨"WaterMenModel", "servedOf", "(I)I"⟩, 64) := ⟨⟨by decide +kernel, by decide +kernel⟩, List.mem_of_getElem? (i := 864) (by decide +kernel), List.mem_of_getElem? (i := 1096) (by decide +kernel), List.mem_of_getElem? (i := 1097) (by decide +kernel)⟩
theorem lw_p24 : lw_okq (⟨"WaterMenModel", "rowOf", "(I)I"⟩, 64) := ⟨⟨by decide +kernel, by decide +kernel⟩, List.mem_of_getElem? (i := 864) (by decide +kernel), List.mem_of_getElem? (i := 1108) (by decide +kernel), List.mem_of_getElem? (i := 1109) (by decide +kernel)⟩
theorem lw_p25 : lw_okq (⟨"WaterMenModel", "placeOf", "(I)I"⟩, 64) := ⟨⟨by decide +kernel, by decide +kernel⟩, List.mem_of_getElem? (i := 864) (by decide +kernel), List.mem_of_getElem? (i := 1112) (by decide +kernel), List.mem_of_getElem? (i := 1113) (by decide +kernel)⟩
theorem lw_p26 : lw_okq (⟨"WaterMenModel", "isStairs", "(I)Z"⟩, 64) := ⟨⟨by decide +kernel, by decide +kernel⟩, List.mem_of_getElem? (i := 864) (by decide +kernel), List.mem_of_getElem? (i := 1120) (by decide +kernel), List.mem_of_getElem? (i := 1121) (by decide +kernel)⟩
theorem lw_p27 : lw_okq (⟨"WaterMenModel", "leaves", "(I)V"⟩, 64) := ⟨⟨by decide +kernel, by decide +kernel⟩, List.mem_of_getElem? (i := 864) (by decide +kernel), List.mem_of_getElem? (i := 1128) (by decide +kernel), List.mem_of_getElem? (i := 1129) (by decide +kernel)⟩
theorem lw_p28 : lw_okq (⟨"WaterMenModel", "isBoat", "(I)Z"⟩, 64) := ⟨⟨by decide +kernel, by decide +kernel⟩, List.mem_of_getElem? (i := 864) (by decide +kernel), List.mem_of_getElem? (i := 1140) (by decide +kernel), List.mem_of_getElem? (i := 1141) (by decide +kernel)⟩
theorem lw_p29 : lw_okq (⟨"WaterMenModel", "four", "(I)V"⟩, 64) := ⟨⟨by decide +kernel, by decide +kernel⟩, List.mem_of_getElem? (i := 864) (by decide +kernel), List.mem_of_getElem? (i := 1148) (by decide +kernel), List.mem_of_getElem? (i := 1149) (by decide +kernel)⟩
theorem lw_p30 : lw_okq (⟨"WaterMenModel", "advance", "()V"⟩, 64) := ⟨⟨by decide +kernel, by decide +kernel⟩, List.mem_of_getElem? (i := 864) (by decide +kernel), List.mem_of_getElem? (i := 1160) (by decide +kernel), List.mem_of_getElem? (i := 1161) (by decide +kernel)⟩
theorem lw_p31 : lw_okq (⟨"WaterMenModel", "line", "(I)Z"⟩, 64) := ⟨⟨by decide +kernel, by decide +kernel⟩, List.mem_of_getElem? (i := 864) (by decide +kernel), List.mem_of_getElem? (i := 1186) (by decide +kernel), List.mem_of_getElem? (i := 1187) (by decide +kernel)⟩
def lw_privs_2 : List (MethodName × Nat) := [(⟨"WaterMen", "dueOf", "(LWaterMen$Trip;I)I"⟩, 13), (⟨"WaterMen", "overpaid", "(LWaterMen$Trip;I)I"⟩, 13), (⟨"WaterMen", "menThatAre", "(I)I"⟩, 13), (⟨"WaterMen", "coinsOfMen", "()I"⟩, 13), (⟨"WaterMenModel", "flowOf", "(II)I"⟩, 64), (⟨"WaterMenModel", "levelOf", "(II)I"⟩, 64), (⟨"WaterMenModel", "today", "()I"⟩, 64), (⟨"WaterMenModel", "servedOf", "(I)I"⟩, 64), (⟨"WaterMenModel", "rowOf", "(I)I"⟩, 64), (⟨"WaterMenModel", "placeOf", "(I)I"⟩, 64), (⟨"WaterMenModel", "isStairs", "(I)Z"⟩, 64), (⟨"WaterMenModel", "leaves", "(I)V"⟩, 64), (⟨"WaterMenModel", "isBoat", "(I)Z"⟩, 64), (⟨"WaterMenModel", "four", "(I)V"⟩, 64), (⟨"WaterMenModel", "advance", "()V"⟩, 64), (⟨"WaterMenModel", "line", "(I)Z"⟩, 64)]
theorem lw_r2 : ∀ q ∈ lw_privs_2, lw_okq q := List.forall_mem_cons.mpr ⟨lw_p16, List.forall_mem_cons.mpr ⟨lw_p17, List.forall_mem_cons.mpr ⟨lw_p18, List.forall_mem_cons.mpr ⟨lw_p19, List.forall_mem_cons.mpr ⟨lw_p20, List.forall_mem_cons.mpr ⟨lw_p21, List.forall_mem_cons.mpr ⟨lw_p22, List.forall_mem_cons.mpr ⟨lw_p23, List.forall_mem_cons.mpr ⟨lw_p24, List.forall_mem_cons.mpr ⟨lw_p25, List.forall_mem_cons.mpr ⟨lw_p26, List.forall_mem_cons.mpr ⟨lw_p27, List.forall_mem_cons.mpr ⟨lw_p28, List.forall_mem_cons.mpr ⟨lw_p29, List.forall_mem_cons.mpr ⟨lw_p30, List.forall_mem_cons.mpr ⟨lw_p31, fun _ h => absurd h List.not_mem_nil⟩⟩⟩⟩⟩⟩⟩⟩⟩⟩⟩⟩⟩⟩⟩⟩
theorem lw_p32 : lw_okq (⟨"WaterMenModel", "takes", "(I)Z"⟩, 64) := ⟨⟨by decide +kernel, by decide +kernel⟩, List.mem_of_getElem? (i := 864) (by decide +kernel), List.mem_of_getElem? (i := 1190) (by decide +kernel), List.mem_of_getElem? (i := 1191) (by decide +kernel)⟩
theorem lw_p33 : lw_okq (⟨"WaterMenModel", "forceOn", "(II)I"⟩, 64) := ⟨⟨by decide +kernel, by decide +kernel⟩, List.mem_of_getElem? (i := 864) (by decide +kernel), List.mem_of_getElem? (i := 1198) (by decide +kernel), List.mem_of_getElem? (i := 1199) (by decide +kernel)⟩
theorem lw_p34 : lw_okq (⟨"WaterMenModel", "fareOf", "(IIIIII)I"⟩, 64) := ⟨⟨by decide +kernel, by decide +kernel⟩, List.mem_of_getElem? (i := 864) (by decide +kernel), List.mem_of_getElem? (i := 1206) (by decide +kernel), List.mem_of_getElem? (i := 1207) (by decide +kernel)⟩
theorem lw_p35 : lw_okq (⟨"WaterMenModel", "lineOf", "(II)I"⟩, 64) := ⟨⟨by decide +kernel, by decide +kernel⟩, List.mem_of_getElem? (i := 864) (by decide +kernel), List.mem_of_getElem? (i := 1210) (by decide +kernel), List.mem_of_getElem? (i := 1211) (by decide +kernel)⟩
theorem lw_p36 : lw_okq (⟨"WaterMenModel", "isAsked", "(III)Z"⟩, 64) := ⟨⟨by decide +kernel, by decide +kernel⟩, List.mem_of_getElem? (i := 864) (by decide +kernel), List.mem_of_getElem? (i := 1224) (by decide +kernel), List.mem_of_getElem? (i := 1225) (by decide +kernel)⟩
theorem lw_p37 : lw_okq (⟨"WaterMenModel", "hinders", "(III)I"⟩, 64) := ⟨⟨by decide +kernel, by decide +kernel⟩, List.mem_of_getElem? (i := 864) (by decide +kernel), List.mem_of_getElem? (i := 1228) (by decide +kernel), List.mem_of_getElem? (i := 1229) (by decide +kernel)⟩
theorem lw_p38 : lw_okq (⟨"WaterMenModel", "hourNow", "()I"⟩, 64) := ⟨⟨by decide +kernel, by decide +kernel⟩, List.mem_of_getElem? (i := 864) (by decide +kernel), List.mem_of_getElem? (i := 1232) (by decide +kernel), List.mem_of_getElem? (i := 1233) (by decide +kernel)⟩
theorem lw_p39 : lw_okq (⟨"WaterMenModel", "minutesOf", "(II)I"⟩, 64) := ⟨⟨by decide +kernel, by decide +kernel⟩, List.mem_of_getElem? (i := 864) (by decide +kernel), List.mem_of_getElem? (i := 1236) (by decide +kernel), List.mem_of_getElem? (i := 1237) (by decide +kernel)⟩
theorem lw_p40 : lw_okq (⟨"WaterMenModel", "arrive", "()V"⟩, 64) := ⟨⟨by decide +kernel, by decide +kernel⟩, List.mem_of_getElem? (i := 864) (by decide +kernel), List.mem_of_getElem? (i := 1249) (by decide +kernel), List.mem_of_getElem? (i := 1250) (by decide +kernel)⟩
theorem lw_p41 : lw_okq (⟨"WaterMenModel", "part", "(I)V"⟩, 64) := ⟨⟨by decide +kernel, by decide +kernel⟩, List.mem_of_getElem? (i := 864) (by decide +kernel), List.mem_of_getElem? (i := 1253) (by decide +kernel), List.mem_of_getElem? (i := 1254) (by decide +kernel)⟩
theorem lw_p42 : lw_okq (⟨"WaterMenModel", "pay", "(I)V"⟩, 64) := ⟨⟨by decide +kernel, by decide +kernel⟩, List.mem_of_getElem? (i := 864) (by decide +kernel), List.mem_of_getElem? (i := 1257) (by decide +kernel), List.mem_of_getElem? (i := 1258) (by decide +kernel)⟩
theorem lw_p43 : lw_okq (⟨"WaterMenModel", "newPensioner", "(II)I"⟩, 64) := ⟨⟨by decide +kernel, by decide +kernel⟩, List.mem_of_getElem? (i := 864) (by decide +kernel), List.mem_of_getElem? (i := 1268) (by decide +kernel), List.mem_of_getElem? (i := 1269) (by decide +kernel)⟩
theorem lw_p44 : lw_okq (⟨"WaterMenModel", "dueOf", "(II)I"⟩, 64) := ⟨⟨by decide +kernel, by decide +kernel⟩, List.mem_of_getElem? (i := 864) (by decide +kernel), List.mem_of_getElem? (i := 1280) (by decide +kernel), List.mem_of_getElem? (i := 1281) (by decide +kernel)⟩
theorem lw_p45 : lw_okq (⟨"WaterMenModel", "menAs", "(I)I"⟩, 64) := ⟨⟨by decide +kernel, by decide +kernel⟩, List.mem_of_getElem? (i := 864) (by decide +kernel), List.mem_of_getElem? (i := 1304) (by decide +kernel), List.mem_of_getElem? (i := 1305) (by decide +kernel)⟩
def lw_privs_3 : List (MethodName × Nat) := [(⟨"WaterMenModel", "takes", "(I)Z"⟩, 64), (⟨"WaterMenModel", "forceOn", "(II)I"⟩, 64), (⟨"WaterMenModel", "fareOf", "(IIIIII)I"⟩, 64), (⟨"WaterMenModel", "lineOf", "(II)I"⟩, 64), (⟨"WaterMenModel", "isAsked", "(III)Z"⟩, 64), (⟨"WaterMenModel", "hinders", "(III)I"⟩, 64), (⟨"WaterMenModel", "hourNow", "()I"⟩, 64), (⟨"WaterMenModel", "minutesOf", "(II)I"⟩, 64), (⟨"WaterMenModel", "arrive", "()V"⟩, 64), (⟨"WaterMenModel", "part", "(I)V"⟩, 64), (⟨"WaterMenModel", "pay", "(I)V"⟩, 64), (⟨"WaterMenModel", "newPensioner", "(II)I"⟩, 64), (⟨"WaterMenModel", "dueOf", "(II)I"⟩, 64), (⟨"WaterMenModel", "menAs", "(I)I"⟩, 64)]
theorem lw_r3 : ∀ q ∈ lw_privs_3, lw_okq q := List.forall_mem_cons.mpr ⟨lw_p32, List.forall_mem_cons.mpr ⟨lw_p33, List.forall_mem_cons.mpr ⟨lw_p34, List.forall_mem_cons.mpr ⟨lw_p35, List.forall_mem_cons.mpr ⟨lw_p36, List.forall_mem_cons.mpr ⟨lw_p37, List.forall_mem_cons.mpr ⟨lw_p38, List.forall_mem_cons.mpr ⟨lw_p39, List.forall_mem_cons.mpr ⟨lw_p40, List.forall_mem_cons.mpr ⟨lw_p41, List.forall_mem_cons.mpr ⟨lw_p42, List.forall_mem_cons.mpr ⟨lw_p43, List.forall_mem_cons.mpr ⟨lw_p44, List.forall_mem_cons.mpr ⟨lw_p45, fun _ h => absurd h List.not_mem_nil⟩⟩⟩⟩⟩⟩⟩⟩⟩⟩⟩⟩⟩⟩
def lw_privs : List (MethodName × Nat) := lw_privs_1 ++ (lw_privs_2 ++ (lw_privs_3))
def lw_tbl : List Cond := k2_sels lw_privs ++ tables_1
theorem lw_privs_ok : ∀ q ∈ lw_privs, lw_okq q := by
  show ∀ q ∈ lw_privs_1 ++ (lw_privs_2 ++ (lw_privs_3)), lw_okq q
  exact List.forall_mem_append.mpr ⟨lw_r1, List.forall_mem_append.mpr ⟨lw_r2, lw_r3⟩⟩
end
section
def R_WM : String := "WaterMen"
def F_WM : u_T := fun k => match k with
  | 0 => ("WaterMen", "river", "LWaterMen$River;", true)
  | 1 => ("WaterMen", "men", "[LWaterMen$Man;", true)
  | 2 => ("WaterMen", "boats", "[LWaterMen$Boat;", true)
  | 3 => ("WaterMen", "orders", "[LWaterMen$Order;", true)
  | 4 => ("WaterMen", "trips", "[LWaterMen$Trip;", true)
  | 5 => ("WaterMen", "tape", "LWaterMen$Tape;", true)
  | 6 => ("WaterMen", "box", "LWaterMen$Box;", true)
  | 7 => ("WaterMen", "boatCount", "I", false)
  | 8 => ("WaterMen", "orderCount", "I", false)
  | 9 => ("WaterMen", "tripCount", "I", false)
  | 10 => ("WaterMen", "now", "I", false)
  | 11 => ("WaterMen", "joins", "I", false)
  | _ => ("WaterMen", "draft", "LWaterMen$Order;", false)
def t_WM : Nat → FieldType := fun k => match k with
  | 0 => .object "WaterMen$River"
  | 1 => .array (.object "WaterMen$Man")
  | 2 => .array (.object "WaterMen$Boat")
  | 3 => .array (.object "WaterMen$Order")
  | 4 => .array (.object "WaterMen$Trip")
  | 5 => .object "WaterMen$Tape"
  | 6 => .object "WaterMen$Box"
  | 7 => .int
  | 8 => .int
  | 9 => .int
  | 10 => .int
  | 11 => .int
  | _ => .object "WaterMen$Order"
abbrev b_WM_init : ByteArray := prog_1_method_1_code
def y_WM_init : MethodName := ⟨R_WM, "<init>", "()V"⟩
abbrev b_WM_stairs : ByteArray := prog_1_method_2_code
def y_WM_stairs : MethodName := ⟨R_WM, "stairs", "(I)I"⟩
abbrev b_WM_bridge : ByteArray := prog_1_method_3_code
def y_WM_bridge : MethodName := ⟨R_WM, "bridge", "(I)I"⟩
abbrev b_WM_level : ByteArray := prog_1_method_4_code
def y_WM_level : MethodName := ⟨R_WM, "level", "(III)I"⟩
abbrev b_WM_table : ByteArray := prog_1_method_5_code
def y_WM_table : MethodName := ⟨R_WM, "table", "(II)I"⟩
abbrev b_WM_flow : ByteArray := prog_1_method_6_code
def y_WM_flow : MethodName := ⟨R_WM, "flow", "(II)I"⟩
abbrev b_WM_frost : ByteArray := prog_1_method_7_code
def y_WM_frost : MethodName := ⟨R_WM, "frost", "(II)I"⟩
abbrev b_WM_free : ByteArray := prog_1_method_8_code
def y_WM_free : MethodName := ⟨R_WM, "free", "(I)I"⟩
abbrev b_WM_bind : ByteArray := prog_1_method_9_code
def y_WM_bind : MethodName := ⟨R_WM, "bind", "(II)I"⟩
abbrev b_WM_absent : ByteArray := prog_1_method_10_code
def y_WM_absent : MethodName := ⟨R_WM, "absent", "(III)I"⟩
abbrev b_WM_served : ByteArray := prog_1_method_11_code
def y_WM_served : MethodName := ⟨R_WM, "served", "(I)I"⟩
abbrev b_WM_pass : ByteArray := prog_1_method_12_code
def y_WM_pass : MethodName := ⟨R_WM, "pass", "(I)I"⟩
abbrev b_WM_man : ByteArray := prog_1_method_13_code
def y_WM_man : MethodName := ⟨R_WM, "man", "(II)I"⟩
abbrev b_WM_boat : ByteArray := prog_1_method_14_code
def y_WM_boat : MethodName := ⟨R_WM, "boat", "(II)I"⟩
abbrev b_WM_craft : ByteArray := prog_1_method_15_code
def y_WM_craft : MethodName := ⟨R_WM, "craft", "(II)I"⟩
abbrev b_WM_join : ByteArray := prog_1_method_16_code
def y_WM_join : MethodName := ⟨R_WM, "join", "(II)I"⟩
abbrev b_WM_leave : ByteArray := prog_1_method_17_code
def y_WM_leave : MethodName := ⟨R_WM, "leave", "(I)I"⟩
abbrev b_WM_feed : ByteArray := prog_1_method_18_code
def y_WM_feed : MethodName := ⟨R_WM, "feed", "(IIIII)I"⟩
abbrev b_WM_end : ByteArray := prog_1_method_19_code
def y_WM_end : MethodName := ⟨R_WM, "end", "(I)I"⟩
abbrev b_WM_order : ByteArray := prog_1_method_20_code
def y_WM_order : MethodName := ⟨R_WM, "order", "(I)I"⟩
abbrev b_WM_inForce : ByteArray := prog_1_method_21_code
def y_WM_inForce : MethodName := ⟨R_WM, "inForce", "(II)I"⟩
abbrev b_WM_fare : ByteArray := prog_1_method_22_code
def y_WM_fare : MethodName := ⟨R_WM, "fare", "(IIIII)I"⟩
abbrev b_WM_why : ByteArray := prog_1_method_23_code
def y_WM_why : MethodName := ⟨R_WM, "why", "(III)I"⟩
abbrev b_WM_row : ByteArray := prog_1_method_24_code
def y_WM_row : MethodName := ⟨R_WM, "row", "(IIII)I"⟩
abbrev b_WM_minutes : ByteArray := prog_1_method_25_code
def y_WM_minutes : MethodName := ⟨R_WM, "minutes", "(I)I"⟩
abbrev b_WM_sink : ByteArray := prog_1_method_26_code
def y_WM_sink : MethodName := ⟨R_WM, "sink", "(III)I"⟩
abbrev b_WM_trip : ByteArray := prog_1_method_27_code
def y_WM_trip : MethodName := ⟨R_WM, "trip", "(II)I"⟩
abbrev b_WM_due : ByteArray := prog_1_method_28_code
def y_WM_due : MethodName := ⟨R_WM, "due", "(II)I"⟩
abbrev b_WM_over : ByteArray := prog_1_method_29_code
def y_WM_over : MethodName := ⟨R_WM, "over", "(II)I"⟩
abbrev b_WM_pension : ByteArray := prog_1_method_30_code
def y_WM_pension : MethodName := ⟨R_WM, "pension", "(II)I"⟩
abbrev b_WM_foretold : ByteArray := prog_1_method_31_code
def y_WM_foretold : MethodName := ⟨R_WM, "foretold", "()I"⟩
abbrev b_WM_pensioner : ByteArray := prog_1_method_32_code
def y_WM_pensioner : MethodName := ⟨R_WM, "pensioner", "(II)I"⟩
abbrev b_WM_count : ByteArray := prog_1_method_33_code
def y_WM_count : MethodName := ⟨R_WM, "count", "(I)I"⟩
abbrev b_WM_coins : ByteArray := prog_1_method_34_code
def y_WM_coins : MethodName := ⟨R_WM, "coins", "(I)I"⟩
abbrev b_WM_today : ByteArray := prog_1_method_35_code
def y_WM_today : MethodName := ⟨R_WM, "today", "()I"⟩
abbrev b_WM_isDay : ByteArray := prog_1_method_36_code
def y_WM_isDay : MethodName := ⟨R_WM, "isDay", "(I)Z"⟩
abbrev b_WM_isHour : ByteArray := prog_1_method_37_code
def y_WM_isHour : MethodName := ⟨R_WM, "isHour", "(I)Z"⟩
abbrev b_WM_isLevel : ByteArray := prog_1_method_38_code
def y_WM_isLevel : MethodName := ⟨R_WM, "isLevel", "(I)Z"⟩
abbrev b_WM_isOars : ByteArray := prog_1_method_39_code
def y_WM_isOars : MethodName := ⟨R_WM, "isOars", "(I)Z"⟩
abbrev b_WM_isPension : ByteArray := prog_1_method_40_code
def y_WM_isPension : MethodName := ⟨R_WM, "isPension", "(II)Z"⟩
abbrev b_WM_isSunday : ByteArray := prog_1_method_41_code
def y_WM_isSunday : MethodName := ⟨R_WM, "isSunday", "(I)Z"⟩
abbrev b_WM_manAt : ByteArray := prog_1_method_42_code
def y_WM_manAt : MethodName := ⟨R_WM, "manAt", "(I)LWaterMen$Man;"⟩
abbrev b_WM_boatAt : ByteArray := prog_1_method_43_code
def y_WM_boatAt : MethodName := ⟨R_WM, "boatAt", "(I)LWaterMen$Boat;"⟩
abbrev b_WM_orderAt : ByteArray := prog_1_method_44_code
def y_WM_orderAt : MethodName := ⟨R_WM, "orderAt", "(I)LWaterMen$Order;"⟩
abbrev b_WM_tripAt : ByteArray := prog_1_method_45_code
def y_WM_tripAt : MethodName := ⟨R_WM, "tripAt", "(I)LWaterMen$Trip;"⟩
abbrev b_WM_placeInTurns : ByteArray := prog_1_method_46_code
def y_WM_placeInTurns : MethodName := ⟨R_WM, "placeInTurns", "(LWaterMen$Man;)I"⟩
abbrev b_WM_hasTurns : ByteArray := prog_1_method_47_code
def y_WM_hasTurns : MethodName := ⟨R_WM, "hasTurns", "(I)Z"⟩
abbrev b_WM_mustWait : ByteArray := prog_1_method_48_code
def y_WM_mustWait : MethodName := ⟨R_WM, "mustWait", "(LWaterMen$Man;I)Z"⟩
abbrev b_WM_menThatAre : ByteArray := prog_1_method_49_code
def y_WM_menThatAre : MethodName := ⟨R_WM, "menThatAre", "(I)I"⟩
abbrev b_WM_coinsOfMen : ByteArray := prog_1_method_50_code
def y_WM_coinsOfMen : MethodName := ⟨R_WM, "coinsOfMen", "()I"⟩
abbrev b_WM_numberInForce : ByteArray := prog_1_method_51_code
def y_WM_numberInForce : MethodName := ⟨R_WM, "numberInForce", "(II)I"⟩
abbrev b_WM_priceOf : ByteArray := prog_1_method_52_code
def y_WM_priceOf : MethodName := ⟨R_WM, "priceOf", "(LWaterMen$Order;IIII)I"⟩
abbrev b_WM_dueOf : ByteArray := prog_1_method_53_code
def y_WM_dueOf : MethodName := ⟨R_WM, "dueOf", "(LWaterMen$Trip;I)I"⟩
abbrev b_WM_overpaid : ByteArray := prog_1_method_54_code
def y_WM_overpaid : MethodName := ⟨R_WM, "overpaid", "(LWaterMen$Trip;I)I"⟩
abbrev b_WM_mayGoTo : ByteArray := prog_1_method_55_code
def y_WM_mayGoTo : MethodName := ⟨R_WM, "mayGoTo", "(LWaterMen$Boat;I)Z"⟩
abbrev b_WM_hindrance : ByteArray := prog_1_method_56_code
def y_WM_hindrance : MethodName := ⟨R_WM, "hindrance", "(LWaterMen$Boat;LWaterMen$Man;I)I"⟩
abbrev b_WM_hourNow : ByteArray := prog_1_method_57_code
def y_WM_hourNow : MethodName := ⟨R_WM, "hourNow", "()I"⟩
abbrev b_WM_minutesOfWay : ByteArray := prog_1_method_58_code
def y_WM_minutesOfWay : MethodName := ⟨R_WM, "minutesOfWay", "(LWaterMen$Boat;I)I"⟩
abbrev b_WM_takeMoney : ByteArray := prog_1_method_59_code
def y_WM_takeMoney : MethodName := ⟨R_WM, "takeMoney", "(LWaterMen$Man;I)V"⟩
abbrev b_WM_partPot : ByteArray := prog_1_method_60_code
def y_WM_partPot : MethodName := ⟨R_WM, "partPot", "(I)V"⟩
def R_Rv : String := "WaterMen$River"
def F_Rv : u_T := fun k => match k with
  | 0 => ("WaterMen$River", "milesUp", "[I", true)
  | 1 => ("WaterMen$River", "table", "[I", true)
  | 2 => ("WaterMen$River", "rows", "[[I", true)
  | 3 => ("WaterMen$River", "frozen", "[Z", true)
  | 4 => ("WaterMen$River", "stairCount", "I", false)
  | _ => ("WaterMen$River", "bridgeAbove", "I", false)
def t_Rv : Nat → FieldType := fun k => match k with
  | 0 => .array (.int)
  | 1 => .array (.int)
  | 2 => .array (.array (.int))
  | 3 => .array (.boolean)
  | 4 => .int
  | _ => .int
abbrev b_Rv_init : ByteArray := prog_8_method_1_code
def y_Rv_init : MethodName := ⟨R_Rv, "<init>", "()V"⟩
abbrev b_Rv_isFrozen : ByteArray := prog_8_method_2_code
def y_Rv_isFrozen : MethodName := ⟨R_Rv, "isFrozen", "(I)Z"⟩
abbrev b_Rv_hasStairs : ByteArray := prog_8_method_3_code
def y_Rv_hasStairs : MethodName := ⟨R_Rv, "hasStairs", "(I)Z"⟩
abbrev b_Rv_highest : ByteArray := prog_8_method_4_code
def y_Rv_highest : MethodName := ⟨R_Rv, "highest", "()I"⟩
abbrev b_Rv_addStairs : ByteArray := prog_8_method_5_code
def y_Rv_addStairs : MethodName := ⟨R_Rv, "addStairs", "(I)I"⟩
abbrev b_Rv_distance : ByteArray := prog_8_method_6_code
def y_Rv_distance : MethodName := ⟨R_Rv, "distance", "(II)I"⟩
abbrev b_Rv_passesBridge : ByteArray := prog_8_method_7_code
def y_Rv_passesBridge : MethodName := ⟨R_Rv, "passesBridge", "(II)Z"⟩
abbrev b_Rv_tell : ByteArray := prog_8_method_8_code
def y_Rv_tell : MethodName := ⟨R_Rv, "tell", "(III)V"⟩
abbrev b_Rv_height : ByteArray := prog_8_method_9_code
def y_Rv_height : MethodName := ⟨R_Rv, "height", "(II)I"⟩
abbrev b_Rv_flowIn : ByteArray := prog_8_method_10_code
def y_Rv_flowIn : MethodName := ⟨R_Rv, "flowIn", "(II)I"⟩
abbrev b_Rv_drift : ByteArray := prog_8_method_11_code
def y_Rv_drift : MethodName := ⟨R_Rv, "drift", "(IIII)I"⟩
def R_Mn : String := "WaterMen$Man"
def F_Mn : u_T := fun k => match k with
  | 0 => ("WaterMen$Man", "state", "I", false)
  | 1 => ("WaterMen$Man", "bond", "LWaterMen$Bond;", false)
  | 2 => ("WaterMen$Man", "turnStairs", "I", false)
  | 3 => ("WaterMen$Man", "turnTicket", "I", false)
  | 4 => ("WaterMen$Man", "coins", "I", false)
  | 5 => ("WaterMen$Man", "busyUntil", "I", false)
  | 6 => ("WaterMen$Man", "tripCount", "I", false)
  | _ => ("WaterMen$Man", "lastSunday", "I", false)
def t_Mn : Nat → FieldType := fun k => match k with
  | 0 => .int
  | 1 => .object "WaterMen$Bond"
  | 2 => .int
  | 3 => .int
  | 4 => .int
  | 5 => .int
  | 6 => .int
  | _ => .int
abbrev b_Mn_init : ByteArray := prog_5_method_1_code
def y_Mn_init : MethodName := ⟨R_Mn, "<init>", "()V"⟩
abbrev b_Mn_isOnWay : ByteArray := prog_5_method_2_code
def y_Mn_isOnWay : MethodName := ⟨R_Mn, "isOnWay", "(I)Z"⟩
abbrev b_Mn_setOut : ByteArray := prog_5_method_3_code
def y_Mn_setOut : MethodName := ⟨R_Mn, "setOut", "(I)V"⟩
def R_Or : String := "WaterMen$Order"
def F_Or : u_T := fun k => match k with
  | 0 => ("WaterMen$Order", "madeOn", "I", false)
  | 1 => ("WaterMen$Order", "inForceFrom", "I", false)
  | 2 => ("WaterMen$Order", "fares", "[I", true)
  | 3 => ("WaterMen$Order", "hours", "[I", true)
  | 4 => ("WaterMen$Order", "single", "[I", true)
  | 5 => ("WaterMen$Order", "fareCount", "I", false)
  | 6 => ("WaterMen$Order", "hourCount", "I", false)
  | 7 => ("WaterMen$Order", "bridgeOpens", "I", false)
  | _ => ("WaterMen$Order", "bridgeShuts", "I", false)
def t_Or : Nat → FieldType := fun k => match k with
  | 0 => .int
  | 1 => .int
  | 2 => .array (.int)
  | 3 => .array (.int)
  | 4 => .array (.int)
  | 5 => .int
  | 6 => .int
  | 7 => .int
  | _ => .int
abbrev b_Or_init : ByteArray := prog_6_method_1_code
def y_Or_init : MethodName := ⟨R_Or, "<init>", "()V"⟩
abbrev b_Or_clear : ByteArray := prog_6_method_2_code
def y_Or_clear : MethodName := ⟨R_Or, "clear", "()V"⟩
abbrev b_Or_takesLine : ByteArray := prog_6_method_3_code
def y_Or_takesLine : MethodName := ⟨R_Or, "takesLine", "(I)Z"⟩
abbrev b_Or_addLine : ByteArray := prog_6_method_4_code
def y_Or_addLine : MethodName := ⟨R_Or, "addLine", "(IIII)V"⟩
abbrev b_Or_setLine : ByteArray := prog_6_method_5_code
def y_Or_setLine : MethodName := ⟨R_Or, "setLine", "([IIIII)V"⟩
abbrev b_Or_lineHolds : ByteArray := prog_6_method_6_code
def y_Or_lineHolds : MethodName := ⟨R_Or, "lineHolds", "([III)Z"⟩
abbrev b_Or_price : ByteArray := prog_6_method_7_code
def y_Or_price : MethodName := ⟨R_Or, "price", "(IIIII)I"⟩
abbrev b_Or_basePrice : ByteArray := prog_6_method_8_code
def y_Or_basePrice : MethodName := ⟨R_Or, "basePrice", "(I)I"⟩
abbrev b_Or_scaled : ByteArray := prog_6_method_9_code
def y_Or_scaled : MethodName := ⟨R_Or, "scaled", "(II)I"⟩
abbrev b_Or_shutsBridge : ByteArray := prog_6_method_10_code
def y_Or_shutsBridge : MethodName := ⟨R_Or, "shutsBridge", "(II)Z"⟩
def R_Tp : String := "WaterMen$Tape"
def F_Tp : u_T := fun k => match k with
  | 0 => ("WaterMen$Tape", "bytes", "[B", true)
  | 1 => ("WaterMen$Tape", "length", "I", false)
  | 2 => ("WaterMen$Tape", "sort", "I", false)
  | 3 => ("WaterMen$Tape", "start", "I", false)
  | 4 => ("WaterMen$Tape", "behind", "I", false)
  | _ => ("WaterMen$Tape", "value", "I", false)
def t_Tp : Nat → FieldType := fun k => match k with
  | 0 => .array (.byte)
  | 1 => .int
  | 2 => .int
  | 3 => .int
  | 4 => .int
  | _ => .int
abbrev b_Tp_init : ByteArray := prog_9_method_1_code
def y_Tp_init : MethodName := ⟨R_Tp, "<init>", "()V"⟩
abbrev b_Tp_hasRoomForFive : ByteArray := prog_9_method_2_code
def y_Tp_hasRoomForFive : MethodName := ⟨R_Tp, "hasRoomForFive", "()Z"⟩
abbrev b_Tp_append : ByteArray := prog_9_method_3_code
def y_Tp_append : MethodName := ⟨R_Tp, "append", "(I)V"⟩
abbrev b_Tp_readInto : ByteArray := prog_9_method_4_code
def y_Tp_readInto : MethodName := ⟨R_Tp, "readInto", "(LWaterMen$Order;)I"⟩
abbrev b_Tp_readLine : ByteArray := prog_9_method_5_code
def y_Tp_readLine : MethodName := ⟨R_Tp, "readLine", "(LWaterMen$Order;)Z"⟩
abbrev b_Tp_stepOverNumber : ByteArray := prog_9_method_6_code
def y_Tp_stepOverNumber : MethodName := ⟨R_Tp, "stepOverNumber", "()Z"⟩
abbrev b_Tp_stepOverWord : ByteArray := prog_9_method_7_code
def y_Tp_stepOverWord : MethodName := ⟨R_Tp, "stepOverWord", "(Ljava/lang/String;)Z"⟩
abbrev b_Tp_kindOfLine : ByteArray := prog_9_method_8_code
def y_Tp_kindOfLine : MethodName := ⟨R_Tp, "kindOfLine", "()I"⟩
abbrev b_Tp_isWord : ByteArray := prog_9_method_9_code
def y_Tp_isWord : MethodName := ⟨R_Tp, "isWord", "(Ljava/lang/String;)Z"⟩
abbrev b_Tp_step : ByteArray := prog_9_method_10_code
def y_Tp_step : MethodName := ⟨R_Tp, "step", "()V"⟩
abbrev b_Tp_passLetters : ByteArray := prog_9_method_11_code
def y_Tp_passLetters : MethodName := ⟨R_Tp, "passLetters", "()V"⟩
abbrev b_Tp_passDigits : ByteArray := prog_9_method_12_code
def y_Tp_passDigits : MethodName := ⟨R_Tp, "passDigits", "()V"⟩
abbrev b_Tp_isLetter : ByteArray := prog_9_method_13_code
def y_Tp_isLetter : MethodName := ⟨R_Tp, "isLetter", "(B)Z"⟩
abbrev b_Tp_isDigit : ByteArray := prog_9_method_14_code
def y_Tp_isDigit : MethodName := ⟨R_Tp, "isDigit", "(B)Z"⟩
def R_Bx : String := "WaterMen$Box"
def F_Bx : u_T := fun k => match k with
  | 0 => ("WaterMen$Box", "coins", "I", false)
  | 1 => ("WaterMen$Box", "pot", "I", false)
  | 2 => ("WaterMen$Box", "allPaid", "I", false)
  | 3 => ("WaterMen$Box", "allPensions", "I", false)
  | 4 => ("WaterMen$Box", "income", "[I", true)
  | 5 => ("WaterMen$Box", "pensioners", "[LWaterMen$Pensioner;", true)
  | _ => ("WaterMen$Box", "pensionerCount", "I", false)
def t_Bx : Nat → FieldType := fun k => match k with
  | 0 => .int
  | 1 => .int
  | 2 => .int
  | 3 => .int
  | 4 => .array (.int)
  | 5 => .array (.object "WaterMen$Pensioner")
  | _ => .int
abbrev b_Bx_init : ByteArray := prog_4_method_1_code
def y_Bx_init : MethodName := ⟨R_Bx, "<init>", "()V"⟩
abbrev b_Bx_receive : ByteArray := prog_4_method_2_code
def y_Bx_receive : MethodName := ⟨R_Bx, "receive", "(II)V"⟩
abbrev b_Bx_pensionerAt : ByteArray := prog_4_method_3_code
def y_Bx_pensionerAt : MethodName := ⟨R_Bx, "pensionerAt", "(I)LWaterMen$Pensioner;"⟩
abbrev b_Bx_admit : ByteArray := prog_4_method_4_code
def y_Bx_admit : MethodName := ⟨R_Bx, "admit", "(II)I"⟩
abbrev b_Bx_payPensions : ByteArray := prog_4_method_5_code
def y_Bx_payPensions : MethodName := ⟨R_Bx, "payPensions", "(I)V"⟩
abbrev b_Bx_firstShortDay : ByteArray := prog_4_method_6_code
def y_Bx_firstShortDay : MethodName := ⟨R_Bx, "firstShortDay", "(I)I"⟩
abbrev b_Bx_owedOn : ByteArray := prog_4_method_7_code
def y_Bx_owedOn : MethodName := ⟨R_Bx, "owedOn", "(I)I"⟩
def R_Pn : String := "WaterMen$Pensioner"
def F_Pn : u_T := fun k => match k with
  | 0 => ("WaterMen$Pensioner", "pension", "I", true)
  | 1 => ("WaterMen$Pensioner", "end", "I", true)
  | _ => ("WaterMen$Pensioner", "got", "I", false)
def t_Pn : Nat → FieldType := fun k => match k with
  | 0 => .int
  | 1 => .int
  | _ => .int
abbrev b_Pn_init : ByteArray := prog_7_method_1_code
def y_Pn_init : MethodName := ⟨R_Pn, "<init>", "(II)V"⟩
def R_Md : String := "WaterMenModel"
def F_Md : u_T := fun k => match k with
  | 0 => ("WaterMenModel", "code", "I", false)
  | 1 => ("WaterMenModel", "time", "I", false)
  | 2 => ("WaterMenModel", "stairs", "I", false)
  | 3 => ("WaterMenModel", "miles", "[I", true)
  | 4 => ("WaterMenModel", "bridge", "I", false)
  | 5 => ("WaterMenModel", "table", "[I", true)
  | 6 => ("WaterMenModel", "hasRow", "[Z", true)
  | 7 => ("WaterMenModel", "rows", "[I", true)
  | 8 => ("WaterMenModel", "frosts", "[Z", true)
  | 9 => ("WaterMenModel", "state", "[I", true)
  | 10 => ("WaterMenModel", "master", "[I", true)
  | 11 => ("WaterMenModel", "boundOn", "[I", true)
  | 12 => ("WaterMenModel", "gaps", "[I", true)
  | 13 => ("WaterMenModel", "gapFrom", "[I", true)
  | 14 => ("WaterMenModel", "gapTo", "[I", true)
  | 15 => ("WaterMenModel", "coins", "[I", true)
  | 16 => ("WaterMenModel", "wayOf", "[I", true)
  | 17 => ("WaterMenModel", "tripsOf", "[I", true)
  | 18 => ("WaterMenModel", "shares", "[Z", true)
  | 19 => ("WaterMenModel", "turns", "[I", true)
  | 20 => ("WaterMenModel", "turn", "[I", true)
  | 21 => ("WaterMenModel", "boats", "I", false)
  | 22 => ("WaterMenModel", "boatOars", "[I", true)
  | 23 => ("WaterMenModel", "boatAt", "[I", true)
  | 24 => ("WaterMenModel", "boatFrom", "[I", true)
  | 25 => ("WaterMenModel", "boatTrip", "[I", true)
  | 26 => ("WaterMenModel", "sunk", "[Z", true)
  | 27 => ("WaterMenModel", "tape", "[B", true)
  | 28 => ("WaterMenModel", "taped", "I", false)
  | 29 => ("WaterMenModel", "orders", "I", false)
  | 30 => ("WaterMenModel", "orderFrom", "[I", true)
  | 31 => ("WaterMenModel", "orderMade", "[I", true)
  | 32 => ("WaterMenModel", "fares", "[I", true)
  | 33 => ("WaterMenModel", "fareLow", "[I", true)
  | 34 => ("WaterMenModel", "fareHigh", "[I", true)
  | 35 => ("WaterMenModel", "fareIs", "[I", true)
  | 36 => ("WaterMenModel", "hours", "[I", true)
  | 37 => ("WaterMenModel", "hourLow", "[I", true)
  | 38 => ("WaterMenModel", "hourHigh", "[I", true)
  | 39 => ("WaterMenModel", "hourIs", "[I", true)
  | 40 => ("WaterMenModel", "single", "[I", true)
  | 41 => ("WaterMenModel", "singleTo", "[I", true)
  | 42 => ("WaterMenModel", "at", "I", false)
  | 43 => ("WaterMenModel", "tk", "I", false)
  | 44 => ("WaterMenModel", "tkAt", "I", false)
  | 45 => ("WaterMenModel", "tkNumber", "I", false)
  | 46 => ("WaterMenModel", "got", "I", false)
  | 47 => ("WaterMenModel", "trips", "I", false)
  | 48 => ("WaterMenModel", "tripBoat", "[I", true)
  | 49 => ("WaterMenModel", "tripMan", "[I", true)
  | 50 => ("WaterMenModel", "tripFrom", "[I", true)
  | 51 => ("WaterMenModel", "tripTo", "[I", true)
  | 52 => ("WaterMenModel", "tripBegin", "[I", true)
  | 53 => ("WaterMenModel", "tripThere", "[I", true)
  | 54 => ("WaterMenModel", "tripPaid", "[I", true)
  | 55 => ("WaterMenModel", "sank", "[Z", true)
  | 56 => ("WaterMenModel", "box", "J", false)
  | 57 => ("WaterMenModel", "pot", "J", false)
  | 58 => ("WaterMenModel", "paidOut", "J", false)
  | 59 => ("WaterMenModel", "boxIn", "[J", true)
  | 60 => ("WaterMenModel", "pensioners", "I", false)
  | 61 => ("WaterMenModel", "pensionOf", "[I", true)
  | 62 => ("WaterMenModel", "pensionEnd", "[I", true)
  | _ => ("WaterMenModel", "gotten", "[I", true)
def t_Md : Nat → FieldType := fun k => match k with
  | 0 => .int
  | 1 => .int
  | 2 => .int
  | 3 => .array (.int)
  | 4 => .int
  | 5 => .array (.int)
  | 6 => .array (.boolean)
  | 7 => .array (.int)
  | 8 => .array (.boolean)
  | 9 => .array (.int)
  | 10 => .array (.int)
  | 11 => .array (.int)
  | 12 => .array (.int)
  | 13 => .array (.int)
  | 14 => .array (.int)
  | 15 => .array (.int)
  | 16 => .array (.int)
  | 17 => .array (.int)
  | 18 => .array (.boolean)
  | 19 => .array (.int)
  | 20 => .array (.int)
  | 21 => .int
  | 22 => .array (.int)
  | 23 => .array (.int)
  | 24 => .array (.int)
  | 25 => .array (.int)
  | 26 => .array (.boolean)
  | 27 => .array (.byte)
  | 28 => .int
  | 29 => .int
  | 30 => .array (.int)
  | 31 => .array (.int)
  | 32 => .array (.int)
  | 33 => .array (.int)
  | 34 => .array (.int)
  | 35 => .array (.int)
  | 36 => .array (.int)
  | 37 => .array (.int)
  | 38 => .array (.int)
  | 39 => .array (.int)
  | 40 => .array (.int)
  | 41 => .array (.int)
  | 42 => .int
  | 43 => .int
  | 44 => .int
  | 45 => .int
  | 46 => .int
  | 47 => .int
  | 48 => .array (.int)
  | 49 => .array (.int)
  | 50 => .array (.int)
  | 51 => .array (.int)
  | 52 => .array (.int)
  | 53 => .array (.int)
  | 54 => .array (.int)
  | 55 => .array (.boolean)
  | 56 => .long
  | 57 => .long
  | 58 => .long
  | 59 => .array (.long)
  | 60 => .int
  | 61 => .array (.int)
  | 62 => .array (.int)
  | _ => .array (.int)
abbrev b_Md_in : ByteArray := prog_12_method_2_code
def y_Md_in : MethodName := ⟨R_Md, "in", "(III)Z"⟩
abbrev b_Md_today : ByteArray := prog_12_method_3_code
def y_Md_today : MethodName := ⟨R_Md, "today", "()I"⟩
abbrev b_Md_hourNow : ByteArray := prog_12_method_4_code
def y_Md_hourNow : MethodName := ⟨R_Md, "hourNow", "()I"⟩
abbrev b_Md_isDay : ByteArray := prog_12_method_5_code
def y_Md_isDay : MethodName := ⟨R_Md, "isDay", "(I)Z"⟩
abbrev b_Md_isStairs : ByteArray := prog_12_method_6_code
def y_Md_isStairs : MethodName := ⟨R_Md, "isStairs", "(I)Z"⟩
abbrev b_Md_levelOf : ByteArray := prog_12_method_7_code
def y_Md_levelOf : MethodName := ⟨R_Md, "levelOf", "(II)I"⟩
abbrev b_Md_flowOf : ByteArray := prog_12_method_8_code
def y_Md_flowOf : MethodName := ⟨R_Md, "flowOf", "(II)I"⟩
abbrev b_Md_stairs : ByteArray := prog_12_method_9_code
def y_Md_stairs : MethodName := ⟨R_Md, "stairs", "(I)I"⟩
abbrev b_Md_bridge : ByteArray := prog_12_method_10_code
def y_Md_bridge : MethodName := ⟨R_Md, "bridge", "(I)I"⟩
abbrev b_Md_level : ByteArray := prog_12_method_11_code
def y_Md_level : MethodName := ⟨R_Md, "level", "(III)I"⟩
abbrev b_Md_table : ByteArray := prog_12_method_12_code
def y_Md_table : MethodName := ⟨R_Md, "table", "(II)I"⟩
abbrev b_Md_flow : ByteArray := prog_12_method_13_code
def y_Md_flow : MethodName := ⟨R_Md, "flow", "(II)I"⟩
abbrev b_Md_frost : ByteArray := prog_12_method_14_code
def y_Md_frost : MethodName := ⟨R_Md, "frost", "(II)I"⟩
abbrev b_Md_init : ByteArray := prog_12_method_15_code
def y_Md_init : MethodName := ⟨R_Md, "<init>", "()V"⟩
abbrev b_Md_isMan : ByteArray := prog_12_method_16_code
def y_Md_isMan : MethodName := ⟨R_Md, "isMan", "(I)Z"⟩
abbrev b_Md_free : ByteArray := prog_12_method_17_code
def y_Md_free : MethodName := ⟨R_Md, "free", "(I)I"⟩
abbrev b_Md_bind : ByteArray := prog_12_method_18_code
def y_Md_bind : MethodName := ⟨R_Md, "bind", "(II)I"⟩
abbrev b_Md_absent : ByteArray := prog_12_method_19_code
def y_Md_absent : MethodName := ⟨R_Md, "absent", "(III)I"⟩
abbrev b_Md_servedOf : ByteArray := prog_12_method_20_code
def y_Md_servedOf : MethodName := ⟨R_Md, "servedOf", "(I)I"⟩
abbrev b_Md_served : ByteArray := prog_12_method_21_code
def y_Md_served : MethodName := ⟨R_Md, "served", "(I)I"⟩
abbrev b_Md_pass : ByteArray := prog_12_method_22_code
def y_Md_pass : MethodName := ⟨R_Md, "pass", "(I)I"⟩
abbrev b_Md_rowOf : ByteArray := prog_12_method_23_code
def y_Md_rowOf : MethodName := ⟨R_Md, "rowOf", "(I)I"⟩
abbrev b_Md_placeOf : ByteArray := prog_12_method_24_code
def y_Md_placeOf : MethodName := ⟨R_Md, "placeOf", "(I)I"⟩
abbrev b_Md_leaves : ByteArray := prog_12_method_25_code
def y_Md_leaves : MethodName := ⟨R_Md, "leaves", "(I)V"⟩
abbrev b_Md_man : ByteArray := prog_12_method_26_code
def y_Md_man : MethodName := ⟨R_Md, "man", "(II)I"⟩
abbrev b_Md_join : ByteArray := prog_12_method_27_code
def y_Md_join : MethodName := ⟨R_Md, "join", "(II)I"⟩
abbrev b_Md_leave : ByteArray := prog_12_method_28_code
def y_Md_leave : MethodName := ⟨R_Md, "leave", "(I)I"⟩
abbrev b_Md_isBoat : ByteArray := prog_12_method_29_code
def y_Md_isBoat : MethodName := ⟨R_Md, "isBoat", "(I)Z"⟩
abbrev b_Md_boat : ByteArray := prog_12_method_30_code
def y_Md_boat : MethodName := ⟨R_Md, "boat", "(II)I"⟩
abbrev b_Md_craft : ByteArray := prog_12_method_31_code
def y_Md_craft : MethodName := ⟨R_Md, "craft", "(II)I"⟩
abbrev b_Md_feed : ByteArray := prog_12_method_32_code
def y_Md_feed : MethodName := ⟨R_Md, "feed", "(IIIII)I"⟩
abbrev b_Md_four : ByteArray := prog_12_method_33_code
def y_Md_four : MethodName := ⟨R_Md, "four", "(I)V"⟩
abbrev b_Md_end : ByteArray := prog_12_method_34_code
def y_Md_end : MethodName := ⟨R_Md, "end", "(I)I"⟩
abbrev b_Md_isLetter : ByteArray := prog_12_method_35_code
def y_Md_isLetter : MethodName := ⟨R_Md, "isLetter", "(I)Z"⟩
abbrev b_Md_isDigit : ByteArray := prog_12_method_36_code
def y_Md_isDigit : MethodName := ⟨R_Md, "isDigit", "(I)Z"⟩
abbrev b_Md_advance : ByteArray := prog_12_method_37_code
def y_Md_advance : MethodName := ⟨R_Md, "advance", "()V"⟩
abbrev b_Md_wordOf : ByteArray := prog_12_method_38_code
def y_Md_wordOf : MethodName := ⟨R_Md, "wordOf", "(J)I"⟩
abbrev b_Md_takes : ByteArray := prog_12_method_39_code
def y_Md_takes : MethodName := ⟨R_Md, "takes", "(I)Z"⟩
abbrev b_Md_line : ByteArray := prog_12_method_40_code
def y_Md_line : MethodName := ⟨R_Md, "line", "(I)Z"⟩
abbrev b_Md_order : ByteArray := prog_12_method_41_code
def y_Md_order : MethodName := ⟨R_Md, "order", "(I)I"⟩
abbrev b_Md_forceOn : ByteArray := prog_12_method_42_code
def y_Md_forceOn : MethodName := ⟨R_Md, "forceOn", "(II)I"⟩
abbrev b_Md_inForce : ByteArray := prog_12_method_43_code
def y_Md_inForce : MethodName := ⟨R_Md, "inForce", "(II)I"⟩
abbrev b_Md_lineOf : ByteArray := prog_12_method_44_code
def y_Md_lineOf : MethodName := ⟨R_Md, "lineOf", "(II)I"⟩
abbrev b_Md_by : ByteArray := prog_12_method_45_code
def y_Md_by : MethodName := ⟨R_Md, "by", "(II)I"⟩
abbrev b_Md_fareOf : ByteArray := prog_12_method_46_code
def y_Md_fareOf : MethodName := ⟨R_Md, "fareOf", "(IIIIII)I"⟩
abbrev b_Md_fare : ByteArray := prog_12_method_47_code
def y_Md_fare : MethodName := ⟨R_Md, "fare", "(IIIII)I"⟩
abbrev b_Md_minutesOf : ByteArray := prog_12_method_48_code
def y_Md_minutesOf : MethodName := ⟨R_Md, "minutesOf", "(II)I"⟩
abbrev b_Md_hinders : ByteArray := prog_12_method_49_code
def y_Md_hinders : MethodName := ⟨R_Md, "hinders", "(III)I"⟩
abbrev b_Md_isAsked : ByteArray := prog_12_method_50_code
def y_Md_isAsked : MethodName := ⟨R_Md, "isAsked", "(III)Z"⟩
abbrev b_Md_why : ByteArray := prog_12_method_51_code
def y_Md_why : MethodName := ⟨R_Md, "why", "(III)I"⟩
abbrev b_Md_row : ByteArray := prog_12_method_52_code
def y_Md_row : MethodName := ⟨R_Md, "row", "(IIII)I"⟩
abbrev b_Md_arrive : ByteArray := prog_12_method_53_code
def y_Md_arrive : MethodName := ⟨R_Md, "arrive", "()V"⟩
abbrev b_Md_part : ByteArray := prog_12_method_54_code
def y_Md_part : MethodName := ⟨R_Md, "part", "(I)V"⟩
abbrev b_Md_pay : ByteArray := prog_12_method_55_code
def y_Md_pay : MethodName := ⟨R_Md, "pay", "(I)V"⟩
abbrev b_Md_minutes : ByteArray := prog_12_method_56_code
def y_Md_minutes : MethodName := ⟨R_Md, "minutes", "(I)I"⟩
abbrev b_Md_sink : ByteArray := prog_12_method_57_code
def y_Md_sink : MethodName := ⟨R_Md, "sink", "(III)I"⟩
abbrev b_Md_trip : ByteArray := prog_12_method_58_code
def y_Md_trip : MethodName := ⟨R_Md, "trip", "(II)I"⟩
abbrev b_Md_dueOf : ByteArray := prog_12_method_59_code
def y_Md_dueOf : MethodName := ⟨R_Md, "dueOf", "(II)I"⟩
abbrev b_Md_due : ByteArray := prog_12_method_60_code
def y_Md_due : MethodName := ⟨R_Md, "due", "(II)I"⟩
abbrev b_Md_over : ByteArray := prog_12_method_61_code
def y_Md_over : MethodName := ⟨R_Md, "over", "(II)I"⟩
abbrev b_Md_isPension : ByteArray := prog_12_method_62_code
def y_Md_isPension : MethodName := ⟨R_Md, "isPension", "(II)Z"⟩
abbrev b_Md_newPensioner : ByteArray := prog_12_method_63_code
def y_Md_newPensioner : MethodName := ⟨R_Md, "newPensioner", "(II)I"⟩
abbrev b_Md_pension : ByteArray := prog_12_method_64_code
def y_Md_pension : MethodName := ⟨R_Md, "pension", "(II)I"⟩
abbrev b_Md_foretold : ByteArray := prog_12_method_65_code
def y_Md_foretold : MethodName := ⟨R_Md, "foretold", "()I"⟩
abbrev b_Md_pensioner : ByteArray := prog_12_method_66_code
def y_Md_pensioner : MethodName := ⟨R_Md, "pensioner", "(II)I"⟩
abbrev b_Md_menAs : ByteArray := prog_12_method_67_code
def y_Md_menAs : MethodName := ⟨R_Md, "menAs", "(I)I"⟩
abbrev b_Md_count : ByteArray := prog_12_method_68_code
def y_Md_count : MethodName := ⟨R_Md, "count", "(I)I"⟩
abbrev b_Md_coins : ByteArray := prog_12_method_69_code
def y_Md_coins : MethodName := ⟨R_Md, "coins", "(I)I"⟩
def R_Bd : String := "WaterMen$Bond"
def F_Bd : u_T := fun k => match k with
  | 0 => ("WaterMen$Bond", "master", "I", true)
  | 1 => ("WaterMen$Bond", "since", "I", true)
  | 2 => ("WaterMen$Bond", "gapFrom", "[I", true)
  | 3 => ("WaterMen$Bond", "gapTo", "[I", true)
  | _ => ("WaterMen$Bond", "gapCount", "I", false)
def t_Bd : Nat → FieldType := fun k => match k with
  | 0 => .int
  | 1 => .int
  | 2 => .array (.int)
  | 3 => .array (.int)
  | _ => .int
abbrev b_Bd_init : ByteArray := prog_3_method_1_code
def y_Bd_init : MethodName := ⟨R_Bd, "<init>", "(II)V"⟩
abbrev b_Bd_meetsGap : ByteArray := prog_3_method_2_code
def y_Bd_meetsGap : MethodName := ⟨R_Bd, "meetsGap", "(II)Z"⟩
abbrev b_Bd_addGap : ByteArray := prog_3_method_3_code
def y_Bd_addGap : MethodName := ⟨R_Bd, "addGap", "(II)I"⟩
abbrev b_Bd_daysServed : ByteArray := prog_3_method_4_code
def y_Bd_daysServed : MethodName := ⟨R_Bd, "daysServed", "(I)I"⟩
def R_Bt : String := "WaterMen$Boat"
def F_Bt : u_T := fun k => match k with
  | 0 => ("WaterMen$Boat", "oars", "I", true)
  | 1 => ("WaterMen$Boat", "stairs", "I", false)
  | 2 => ("WaterMen$Boat", "thereFrom", "I", false)
  | 3 => ("WaterMen$Boat", "rower", "I", false)
  | 4 => ("WaterMen$Boat", "lastTrip", "I", false)
  | _ => ("WaterMen$Boat", "sunk", "Z", false)
def t_Bt : Nat → FieldType := fun k => match k with
  | 0 => .int
  | 1 => .int
  | 2 => .int
  | 3 => .int
  | 4 => .int
  | _ => .boolean
abbrev b_Bt_init : ByteArray := prog_2_method_1_code
def y_Bt_init : MethodName := ⟨R_Bt, "<init>", "(II)V"⟩
abbrev b_Bt_stateAt : ByteArray := prog_2_method_2_code
def y_Bt_stateAt : MethodName := ⟨R_Bt, "stateAt", "(I)I"⟩
abbrev b_Bt_setOut : ByteArray := prog_2_method_3_code
def y_Bt_setOut : MethodName := ⟨R_Bt, "setOut", "(LWaterMen$Trip;I)V"⟩
def R_Tr : String := "WaterMen$Trip"
def F_Tr : u_T := fun k => match k with
  | 0 => ("WaterMen$Trip", "boat", "I", true)
  | 1 => ("WaterMen$Trip", "man", "I", true)
  | 2 => ("WaterMen$Trip", "start", "I", true)
  | 3 => ("WaterMen$Trip", "paid", "I", true)
  | 4 => ("WaterMen$Trip", "from", "I", false)
  | 5 => ("WaterMen$Trip", "to", "I", false)
  | 6 => ("WaterMen$Trip", "arrival", "I", false)
  | _ => ("WaterMen$Trip", "sank", "Z", false)
def t_Tr : Nat → FieldType := fun k => match k with
  | 0 => .int
  | 1 => .int
  | 2 => .int
  | 3 => .int
  | 4 => .int
  | 5 => .int
  | 6 => .int
  | _ => .boolean
abbrev b_Tr_init : ByteArray := prog_10_method_1_code
def y_Tr_init : MethodName := ⟨R_Tr, "<init>", "(IIII)V"⟩
abbrev vwCl : List vw_C := [(R_WM, F_WM, 13), (R_Rv, F_Rv, 6), (R_Mn, F_Mn, 8), (R_Or, F_Or, 9), (R_Tp, F_Tp, 6), (R_Bx, F_Bx, 7), (R_Pn, F_Pn, 3), (R_Md, F_Md, 64), (R_Bd, F_Bd, 5), (R_Bt, F_Bt, 6), (R_Tr, F_Tr, 8)]
theorem n_WM : ∀ a, a < 13 → ∀ b, b < 13 → a ≠ b → (F_WM a).2.1 ≠ (F_WM b).2.1 := by decide +kernel
theorem t_WM_ok : ∀ k, k < 13 → parseFieldDescriptor (F_WM k).2.2.1 = some (t_WM k) := by decide +kernel
theorem df_WM : ∀ j, j < 13 → defaultValue (t_WM j) = vp_V [.null, .null, .null, .null, .null, .null, .null, .int 0, .int 0, .int 0, .int 0, .int 0, .null] j := by decide +kernel
theorem n_Rv : ∀ a, a < 6 → ∀ b, b < 6 → a ≠ b → (F_Rv a).2.1 ≠ (F_Rv b).2.1 := by decide +kernel
theorem t_Rv_ok : ∀ k, k < 6 → parseFieldDescriptor (F_Rv k).2.2.1 = some (t_Rv k) := by decide +kernel
theorem df_Rv : ∀ j, j < 6 → defaultValue (t_Rv j) = vp_V [.null, .null, .null, .null, .int 0, .int 0] j := by decide +kernel
theorem n_Mn : ∀ a, a < 8 → ∀ b, b < 8 → a ≠ b → (F_Mn a).2.1 ≠ (F_Mn b).2.1 := by decide +kernel
theorem t_Mn_ok : ∀ k, k < 8 → parseFieldDescriptor (F_Mn k).2.2.1 = some (t_Mn k) := by decide +kernel
theorem df_Mn : ∀ j, j < 8 → defaultValue (t_Mn j) = vp_V [.int 0, .null, .int 0, .int 0, .int 0, .int 0, .int 0, .int 0] j := by decide +kernel
theorem n_Or : ∀ a, a < 9 → ∀ b, b < 9 → a ≠ b → (F_Or a).2.1 ≠ (F_Or b).2.1 := by decide +kernel
theorem t_Or_ok : ∀ k, k < 9 → parseFieldDescriptor (F_Or k).2.2.1 = some (t_Or k) := by decide +kernel
theorem df_Or : ∀ j, j < 9 → defaultValue (t_Or j) = vp_V [.int 0, .int 0, .null, .null, .null, .int 0, .int 0, .int 0, .int 0] j := by decide +kernel
theorem n_Tp : ∀ a, a < 6 → ∀ b, b < 6 → a ≠ b → (F_Tp a).2.1 ≠ (F_Tp b).2.1 := by decide +kernel
theorem t_Tp_ok : ∀ k, k < 6 → parseFieldDescriptor (F_Tp k).2.2.1 = some (t_Tp k) := by decide +kernel
theorem df_Tp : ∀ j, j < 6 → defaultValue (t_Tp j) = vp_V [.null, .int 0, .int 0, .int 0, .int 0, .int 0] j := by decide +kernel
theorem n_Bx : ∀ a, a < 7 → ∀ b, b < 7 → a ≠ b → (F_Bx a).2.1 ≠ (F_Bx b).2.1 := by decide +kernel
theorem t_Bx_ok : ∀ k, k < 7 → parseFieldDescriptor (F_Bx k).2.2.1 = some (t_Bx k) := by decide +kernel
theorem df_Bx : ∀ j, j < 7 → defaultValue (t_Bx j) = vp_V [.int 0, .int 0, .int 0, .int 0, .null, .null, .int 0] j := by decide +kernel
theorem n_Pn : ∀ a, a < 3 → ∀ b, b < 3 → a ≠ b → (F_Pn a).2.1 ≠ (F_Pn b).2.1 := by decide +kernel
theorem t_Pn_ok : ∀ k, k < 3 → parseFieldDescriptor (F_Pn k).2.2.1 = some (t_Pn k) := by decide +kernel
theorem df_Pn : ∀ j, j < 3 → defaultValue (t_Pn j) = vp_V [.int 0, .int 0, .int 0] j := by decide +kernel
theorem n_Md : ∀ a, a < 64 → ∀ b, b < 64 → a ≠ b → (F_Md a).2.1 ≠ (F_Md b).2.1 := by decide +kernel
theorem t_Md_ok : ∀ k, k < 64 → parseFieldDescriptor (F_Md k).2.2.1 = some (t_Md k) := by decide +kernel
theorem df_Md : ∀ j, j < 64 → defaultValue (t_Md j) = vp_V [.int 0, .int 0, .int 0, .null, .int 0, .null, .null, .null, .null, .null, .null, .null, .null, .null, .null, .null, .null, .null, .null, .null, .null, .int 0, .null, .null, .null, .null, .null, .null, .int 0, .int 0, .null, .null, .null, .null, .null, .null, .null, .null, .null, .null, .null, .null, .int 0, .int 0, .int 0, .int 0, .int 0, .int 0, .null, .null, .null, .null, .null, .null, .null, .null, .long 0, .long 0, .long 0, .null, .int 0, .null, .null, .null] j := by decide +kernel
theorem n_Bd : ∀ a, a < 5 → ∀ b, b < 5 → a ≠ b → (F_Bd a).2.1 ≠ (F_Bd b).2.1 := by decide +kernel
theorem t_Bd_ok : ∀ k, k < 5 → parseFieldDescriptor (F_Bd k).2.2.1 = some (t_Bd k) := by decide +kernel
theorem df_Bd : ∀ j, j < 5 → defaultValue (t_Bd j) = vp_V [.int 0, .int 0, .null, .null, .int 0] j := by decide +kernel
theorem n_Bt : ∀ a, a < 6 → ∀ b, b < 6 → a ≠ b → (F_Bt a).2.1 ≠ (F_Bt b).2.1 := by decide +kernel
theorem t_Bt_ok : ∀ k, k < 6 → parseFieldDescriptor (F_Bt k).2.2.1 = some (t_Bt k) := by decide +kernel
theorem df_Bt : ∀ j, j < 6 → defaultValue (t_Bt j) = vp_V [.int 0, .int 0, .int 0, .int 0, .int 0, .int 0] j := by decide +kernel
theorem n_Tr : ∀ a, a < 8 → ∀ b, b < 8 → a ≠ b → (F_Tr a).2.1 ≠ (F_Tr b).2.1 := by decide +kernel
theorem t_Tr_ok : ∀ k, k < 8 → parseFieldDescriptor (F_Tr k).2.2.1 = some (t_Tr k) := by decide +kernel
theorem df_Tr : ∀ j, j < 8 → defaultValue (t_Tr j) = vp_V [.int 0, .int 0, .int 0, .int 0, .int 0, .int 0, .int 0, .int 0] j := by decide +kernel
def TB : List Cond := lw_tbl.filter goodWord
set_option maxRecDepth 100000 in
theorem tw_f {w : Cond} (h : w ∈ lw_tbl) (g : goodWord w = true) : w ∈ TB := List.mem_filter.mpr ⟨h, g⟩
set_option maxRecDepth 100000 in
theorem tw_t1 {w : Cond} (h : w ∈ tables_1_1) : w ∈ lw_tbl := List.mem_append_right _ (List.mem_append_left _ h)
set_option maxRecDepth 100000 in
theorem tw_t2 {w : Cond} (h : w ∈ tables_1_2) : w ∈ lw_tbl := List.mem_append_right _ (List.mem_append_right _ (List.mem_append_left _ h))
set_option maxRecDepth 100000 in
theorem tw_t3 {w : Cond} (h : w ∈ tables_1_3) : w ∈ lw_tbl := List.mem_append_right _ (List.mem_append_right _ (List.mem_append_right _ (List.mem_append_left _ h)))
set_option maxRecDepth 100000 in
theorem tw_t4 {w : Cond} (h : w ∈ tables_1_4) : w ∈ lw_tbl := List.mem_append_right _ (List.mem_append_right _ (List.mem_append_right _ (List.mem_append_right _ (List.mem_append_left _ h))))
set_option maxRecDepth 100000 in
theorem tw_t5 {w : Cond} (h : w ∈ tables_1_5) : w ∈ lw_tbl := List.mem_append_right _ (List.mem_append_right _ (List.mem_append_right _ (List.mem_append_right _ (List.mem_append_right _ (List.mem_append_left _ h)))))
set_option maxRecDepth 100000 in
theorem tw_t6 {w : Cond} (h : w ∈ tables_1_6) : w ∈ lw_tbl := List.mem_append_right _ (List.mem_append_right _ (List.mem_append_right _ (List.mem_append_right _ (List.mem_append_right _ (List.mem_append_right _ (h))))))
set_option maxRecDepth 100000 in
theorem tw_s1 {w : Cond} (h : w ∈ k2_sels lw_privs_1) : w ∈ lw_tbl := by
  obtain ⟨q, hq, rfl⟩ := List.mem_map.mp h
  exact List.mem_append_left _ (List.mem_map.mpr ⟨q, (fun (h : q ∈ lw_privs_1) => (show q ∈ lw_privs from List.mem_append_left _ h)) hq, rfl⟩)
set_option maxRecDepth 100000 in
theorem tw_s2 {w : Cond} (h : w ∈ k2_sels lw_privs_2) : w ∈ lw_tbl := by
  obtain ⟨q, hq, rfl⟩ := List.mem_map.mp h
  exact List.mem_append_left _ (List.mem_map.mpr ⟨q, (fun (h : q ∈ lw_privs_2) => (show q ∈ lw_privs from List.mem_append_right _ (List.mem_append_left _ h))) hq, rfl⟩)
set_option maxRecDepth 100000 in
theorem tw_s3 {w : Cond} (h : w ∈ k2_sels lw_privs_3) : w ∈ lw_tbl := by
  obtain ⟨q, hq, rfl⟩ := List.mem_map.mp h
  exact List.mem_append_left _ (List.mem_map.mpr ⟨q, (fun (h : q ∈ lw_privs_3) => (show q ∈ lw_privs from List.mem_append_right _ (List.mem_append_right _ (h)))) hq, rfl⟩)
set_option maxRecDepth 100000 in
theorem ly_WM_0 : (.laysFinal R_WM "WaterMen" "river" "LWaterMen$River;") ∈ TB := tw_f (tw_t1 (List.mem_of_getElem? (i := 207) rfl)) rfl
set_option maxRecDepth 100000 in
theorem ly_WM_1 : (.laysFinal R_WM "WaterMen" "men" "[LWaterMen$Man;") ∈ TB := tw_f (tw_t1 (List.mem_of_getElem? (i := 209) rfl)) rfl
set_option maxRecDepth 100000 in
theorem ly_WM_2 : (.laysFinal R_WM "WaterMen" "boats" "[LWaterMen$Boat;") ∈ TB := tw_f (tw_t1 (List.mem_of_getElem? (i := 211) rfl)) rfl
set_option maxRecDepth 100000 in
theorem ly_WM_3 : (.laysFinal R_WM "WaterMen" "orders" "[LWaterMen$Order;") ∈ TB := tw_f (tw_t1 (List.mem_of_getElem? (i := 213) rfl)) rfl
set_option maxRecDepth 100000 in
theorem ly_WM_4 : (.laysFinal R_WM "WaterMen" "trips" "[LWaterMen$Trip;") ∈ TB := tw_f (tw_t1 (List.mem_of_getElem? (i := 215) rfl)) rfl
set_option maxRecDepth 100000 in
theorem ly_WM_5 : (.laysFinal R_WM "WaterMen" "tape" "LWaterMen$Tape;") ∈ TB := tw_f (tw_t1 (List.mem_of_getElem? (i := 217) rfl)) rfl
set_option maxRecDepth 100000 in
theorem ly_WM_6 : (.laysFinal R_WM "WaterMen" "box" "LWaterMen$Box;") ∈ TB := tw_f (tw_t1 (List.mem_of_getElem? (i := 219) rfl)) rfl
set_option maxRecDepth 100000 in
theorem ly_WM_7 : (.lays R_WM "WaterMen" "boatCount" "I") ∈ TB := tw_f (tw_t1 (List.mem_of_getElem? (i := 221) rfl)) rfl
set_option maxRecDepth 100000 in
theorem ly_WM_8 : (.lays R_WM "WaterMen" "orderCount" "I") ∈ TB := tw_f (tw_t1 (List.mem_of_getElem? (i := 223) rfl)) rfl
set_option maxRecDepth 100000 in
theorem ly_WM_9 : (.lays R_WM "WaterMen" "tripCount" "I") ∈ TB := tw_f (tw_t1 (List.mem_of_getElem? (i := 225) rfl)) rfl
set_option maxRecDepth 100000 in
theorem ly_WM_10 : (.lays R_WM "WaterMen" "now" "I") ∈ TB := tw_f (tw_t1 (List.mem_of_getElem? (i := 227) rfl)) rfl
set_option maxRecDepth 100000 in
theorem ly_WM_11 : (.lays R_WM "WaterMen" "joins" "I") ∈ TB := tw_f (tw_t1 (List.mem_of_getElem? (i := 229) rfl)) rfl
set_option maxRecDepth 100000 in
theorem ly_WM_12 : (.lays R_WM "WaterMen" "draft" "LWaterMen$Order;") ∈ TB := tw_f (tw_t1 (List.mem_of_getElem? (i := 231) rfl)) rfl
set_option maxRecDepth 100000 in
theorem i_WM : ∀ w ∈ u_ws R_WM F_WM 13, w ∈ TB := by
  intro w hw
  obtain ⟨k, hk, rfl⟩ := List.mem_map.mp hw
  have hk := List.mem_range.mp hk
  match k, hk with
  | 0, _ => exact ly_WM_0
  | 1, _ => exact ly_WM_1
  | 2, _ => exact ly_WM_2
  | 3, _ => exact ly_WM_3
  | 4, _ => exact ly_WM_4
  | 5, _ => exact ly_WM_5
  | 6, _ => exact ly_WM_6
  | 7, _ => exact ly_WM_7
  | 8, _ => exact ly_WM_8
  | 9, _ => exact ly_WM_9
  | 10, _ => exact ly_WM_10
  | 11, _ => exact ly_WM_11
  | 12, _ => exact ly_WM_12
set_option maxRecDepth 100000 in
theorem ly_Rv_0 : (.laysFinal R_Rv "WaterMen$River" "milesUp" "[I") ∈ TB := tw_f (tw_t1 (List.mem_of_getElem? (i := 43) rfl)) rfl
set_option maxRecDepth 100000 in
theorem ly_Rv_1 : (.laysFinal R_Rv "WaterMen$River" "table" "[I") ∈ TB := tw_f (tw_t1 (List.mem_of_getElem? (i := 45) rfl)) rfl
set_option maxRecDepth 100000 in
theorem ly_Rv_2 : (.laysFinal R_Rv "WaterMen$River" "rows" "[[I") ∈ TB := tw_f (tw_t1 (List.mem_of_getElem? (i := 47) rfl)) rfl
set_option maxRecDepth 100000 in
theorem ly_Rv_3 : (.laysFinal R_Rv "WaterMen$River" "frozen" "[Z") ∈ TB := tw_f (tw_t1 (List.mem_of_getElem? (i := 49) rfl)) rfl
set_option maxRecDepth 100000 in
theorem ly_Rv_4 : (.lays R_Rv "WaterMen$River" "stairCount" "I") ∈ TB := tw_f (tw_t1 (List.mem_of_getElem? (i := 51) rfl)) rfl
set_option maxRecDepth 100000 in
theorem ly_Rv_5 : (.lays R_Rv "WaterMen$River" "bridgeAbove" "I") ∈ TB := tw_f (tw_t1 (List.mem_of_getElem? (i := 53) rfl)) rfl
set_option maxRecDepth 100000 in
theorem i_Rv : ∀ w ∈ u_ws R_Rv F_Rv 6, w ∈ TB := by
  intro w hw
  obtain ⟨k, hk, rfl⟩ := List.mem_map.mp hw
  have hk := List.mem_range.mp hk
  match k, hk with
  | 0, _ => exact ly_Rv_0
  | 1, _ => exact ly_Rv_1
  | 2, _ => exact ly_Rv_2
  | 3, _ => exact ly_Rv_3
  | 4, _ => exact ly_Rv_4
  | 5, _ => exact ly_Rv_5
set_option maxRecDepth 100000 in
theorem ly_Mn_0 : (.lays R_Mn "WaterMen$Man" "state" "I") ∈ TB := tw_f (tw_t1 (List.mem_of_getElem? (i := 177) rfl)) rfl
set_option maxRecDepth 100000 in
theorem ly_Mn_1 : (.lays R_Mn "WaterMen$Man" "bond" "LWaterMen$Bond;") ∈ TB := tw_f (tw_t1 (List.mem_of_getElem? (i := 179) rfl)) rfl
set_option maxRecDepth 100000 in
theorem ly_Mn_2 : (.lays R_Mn "WaterMen$Man" "turnStairs" "I") ∈ TB := tw_f (tw_t1 (List.mem_of_getElem? (i := 181) rfl)) rfl
set_option maxRecDepth 100000 in
theorem ly_Mn_3 : (.lays R_Mn "WaterMen$Man" "turnTicket" "I") ∈ TB := tw_f (tw_t1 (List.mem_of_getElem? (i := 183) rfl)) rfl
set_option maxRecDepth 100000 in
theorem ly_Mn_4 : (.lays R_Mn "WaterMen$Man" "coins" "I") ∈ TB := tw_f (tw_t1 (List.mem_of_getElem? (i := 185) rfl)) rfl
set_option maxRecDepth 100000 in
theorem ly_Mn_5 : (.lays R_Mn "WaterMen$Man" "busyUntil" "I") ∈ TB := tw_f (tw_t1 (List.mem_of_getElem? (i := 187) rfl)) rfl
set_option maxRecDepth 100000 in
theorem ly_Mn_6 : (.lays R_Mn "WaterMen$Man" "tripCount" "I") ∈ TB := tw_f (tw_t1 (List.mem_of_getElem? (i := 189) rfl)) rfl
set_option maxRecDepth 100000 in
theorem ly_Mn_7 : (.lays R_Mn "WaterMen$Man" "lastSunday" "I") ∈ TB := tw_f (tw_t1 (List.mem_of_getElem? (i := 191) rfl)) rfl
set_option maxRecDepth 100000 in
theorem i_Mn : ∀ w ∈ u_ws R_Mn F_Mn 8, w ∈ TB := by
  intro w hw
  obtain ⟨k, hk, rfl⟩ := List.mem_map.mp hw
  have hk := List.mem_range.mp hk
  match k, hk with
  | 0, _ => exact ly_Mn_0
  | 1, _ => exact ly_Mn_1
  | 2, _ => exact ly_Mn_2
  | 3, _ => exact ly_Mn_3
  | 4, _ => exact ly_Mn_4
  | 5, _ => exact ly_Mn_5
  | 6, _ => exact ly_Mn_6
  | 7, _ => exact ly_Mn_7
set_option maxRecDepth 100000 in
theorem ly_Or_0 : (.lays R_Or "WaterMen$Order" "madeOn" "I") ∈ TB := tw_f (tw_t1 (List.mem_of_getElem? (i := 140) rfl)) rfl
set_option maxRecDepth 100000 in
theorem ly_Or_1 : (.lays R_Or "WaterMen$Order" "inForceFrom" "I") ∈ TB := tw_f (tw_t1 (List.mem_of_getElem? (i := 142) rfl)) rfl
set_option maxRecDepth 100000 in
theorem ly_Or_2 : (.laysFinal R_Or "WaterMen$Order" "fares" "[I") ∈ TB := tw_f (tw_t1 (List.mem_of_getElem? (i := 144) rfl)) rfl
set_option maxRecDepth 100000 in
theorem ly_Or_3 : (.laysFinal R_Or "WaterMen$Order" "hours" "[I") ∈ TB := tw_f (tw_t1 (List.mem_of_getElem? (i := 146) rfl)) rfl
set_option maxRecDepth 100000 in
theorem ly_Or_4 : (.laysFinal R_Or "WaterMen$Order" "single" "[I") ∈ TB := tw_f (tw_t1 (List.mem_of_getElem? (i := 148) rfl)) rfl
set_option maxRecDepth 100000 in
theorem ly_Or_5 : (.lays R_Or "WaterMen$Order" "fareCount" "I") ∈ TB := tw_f (tw_t1 (List.mem_of_getElem? (i := 150) rfl)) rfl
set_option maxRecDepth 100000 in
theorem ly_Or_6 : (.lays R_Or "WaterMen$Order" "hourCount" "I") ∈ TB := tw_f (tw_t1 (List.mem_of_getElem? (i := 152) rfl)) rfl
set_option maxRecDepth 100000 in
theorem ly_Or_7 : (.lays R_Or "WaterMen$Order" "bridgeOpens" "I") ∈ TB := tw_f (tw_t1 (List.mem_of_getElem? (i := 154) rfl)) rfl
set_option maxRecDepth 100000 in
theorem ly_Or_8 : (.lays R_Or "WaterMen$Order" "bridgeShuts" "I") ∈ TB := tw_f (tw_t1 (List.mem_of_getElem? (i := 156) rfl)) rfl
set_option maxRecDepth 100000 in
theorem i_Or : ∀ w ∈ u_ws R_Or F_Or 9, w ∈ TB := by
  intro w hw
  obtain ⟨k, hk, rfl⟩ := List.mem_map.mp hw
  have hk := List.mem_range.mp hk
  match k, hk with
  | 0, _ => exact ly_Or_0
  | 1, _ => exact ly_Or_1
  | 2, _ => exact ly_Or_2
  | 3, _ => exact ly_Or_3
  | 4, _ => exact ly_Or_4
  | 5, _ => exact ly_Or_5
  | 6, _ => exact ly_Or_6
  | 7, _ => exact ly_Or_7
  | 8, _ => exact ly_Or_8
set_option maxRecDepth 100000 in
theorem ly_Tp_0 : (.laysFinal R_Tp "WaterMen$Tape" "bytes" "[B") ∈ TB := tw_f (tw_t1 (List.mem_of_getElem? (i := 79) rfl)) rfl
set_option maxRecDepth 100000 in
theorem ly_Tp_1 : (.lays R_Tp "WaterMen$Tape" "length" "I") ∈ TB := tw_f (tw_t1 (List.mem_of_getElem? (i := 81) rfl)) rfl
set_option maxRecDepth 100000 in
theorem ly_Tp_2 : (.lays R_Tp "WaterMen$Tape" "sort" "I") ∈ TB := tw_f (tw_t1 (List.mem_of_getElem? (i := 83) rfl)) rfl
set_option maxRecDepth 100000 in
theorem ly_Tp_3 : (.lays R_Tp "WaterMen$Tape" "start" "I") ∈ TB := tw_f (tw_t1 (List.mem_of_getElem? (i := 85) rfl)) rfl
set_option maxRecDepth 100000 in
theorem ly_Tp_4 : (.lays R_Tp "WaterMen$Tape" "behind" "I") ∈ TB := tw_f (tw_t1 (List.mem_of_getElem? (i := 87) rfl)) rfl
set_option maxRecDepth 100000 in
theorem ly_Tp_5 : (.lays R_Tp "WaterMen$Tape" "value" "I") ∈ TB := tw_f (tw_t1 (List.mem_of_getElem? (i := 89) rfl)) rfl
set_option maxRecDepth 100000 in
theorem i_Tp : ∀ w ∈ u_ws R_Tp F_Tp 6, w ∈ TB := by
  intro w hw
  obtain ⟨k, hk, rfl⟩ := List.mem_map.mp hw
  have hk := List.mem_range.mp hk
  match k, hk with
  | 0, _ => exact ly_Tp_0
  | 1, _ => exact ly_Tp_1
  | 2, _ => exact ly_Tp_2
  | 3, _ => exact ly_Tp_3
  | 4, _ => exact ly_Tp_4
  | 5, _ => exact ly_Tp_5
set_option maxRecDepth 100000 in
theorem ly_Bx_0 : (.lays R_Bx "WaterMen$Box" "coins" "I") ∈ TB := tw_f (tw_t1 (List.mem_of_getElem? (i := 111) rfl)) rfl
set_option maxRecDepth 100000 in
theorem ly_Bx_1 : (.lays R_Bx "WaterMen$Box" "pot" "I") ∈ TB := tw_f (tw_t1 (List.mem_of_getElem? (i := 113) rfl)) rfl
set_option maxRecDepth 100000 in
theorem ly_Bx_2 : (.lays R_Bx "WaterMen$Box" "allPaid" "I") ∈ TB := tw_f (tw_t1 (List.mem_of_getElem? (i := 115) rfl)) rfl
set_option maxRecDepth 100000 in
theorem ly_Bx_3 : (.lays R_Bx "WaterMen$Box" "allPensions" "I") ∈ TB := tw_f (tw_t1 (List.mem_of_getElem? (i := 117) rfl)) rfl
set_option maxRecDepth 100000 in
theorem ly_Bx_4 : (.laysFinal R_Bx "WaterMen$Box" "income" "[I") ∈ TB := tw_f (tw_t1 (List.mem_of_getElem? (i := 119) rfl)) rfl
set_option maxRecDepth 100000 in
theorem ly_Bx_5 : (.laysFinal R_Bx "WaterMen$Box" "pensioners" "[LWaterMen$Pensioner;") ∈ TB := tw_f (tw_t1 (List.mem_of_getElem? (i := 121) rfl)) rfl
set_option maxRecDepth 100000 in
theorem ly_Bx_6 : (.lays R_Bx "WaterMen$Box" "pensionerCount" "I") ∈ TB := tw_f (tw_t1 (List.mem_of_getElem? (i := 123) rfl)) rfl
set_option maxRecDepth 100000 in
theorem i_Bx : ∀ w ∈ u_ws R_Bx F_Bx 7, w ∈ TB := by
  intro w hw
  obtain ⟨k, hk, rfl⟩ := List.mem_map.mp hw
  have hk := List.mem_range.mp hk
  match k, hk with
  | 0, _ => exact ly_Bx_0
  | 1, _ => exact ly_Bx_1
  | 2, _ => exact ly_Bx_2
  | 3, _ => exact ly_Bx_3
  | 4, _ => exact ly_Bx_4
  | 5, _ => exact ly_Bx_5
  | 6, _ => exact ly_Bx_6
set_option maxRecDepth 100000 in
theorem ly_Pn_0 : (.laysFinal R_Pn "WaterMen$Pensioner" "pension" "I") ∈ TB := tw_f (tw_t4 (List.mem_of_getElem? (i := 50) rfl)) rfl
set_option maxRecDepth 100000 in
theorem ly_Pn_1 : (.laysFinal R_Pn "WaterMen$Pensioner" "end" "I") ∈ TB := tw_f (tw_t4 (List.mem_of_getElem? (i := 52) rfl)) rfl
set_option maxRecDepth 100000 in
theorem ly_Pn_2 : (.lays R_Pn "WaterMen$Pensioner" "got" "I") ∈ TB := tw_f (tw_t4 (List.mem_of_getElem? (i := 54) rfl)) rfl
set_option maxRecDepth 100000 in
theorem i_Pn : ∀ w ∈ u_ws R_Pn F_Pn 3, w ∈ TB := by
  intro w hw
  obtain ⟨k, hk, rfl⟩ := List.mem_map.mp hw
  have hk := List.mem_range.mp hk
  match k, hk with
  | 0, _ => exact ly_Pn_0
  | 1, _ => exact ly_Pn_1
  | 2, _ => exact ly_Pn_2
set_option maxRecDepth 100000 in
theorem ly_Md_0 : (.lays R_Md "WaterMenModel" "code" "I") ∈ TB := tw_f (tw_t4 (List.mem_of_getElem? (i := 226) rfl)) rfl
set_option maxRecDepth 100000 in
theorem ly_Md_1 : (.lays R_Md "WaterMenModel" "time" "I") ∈ TB := tw_f (tw_t4 (List.mem_of_getElem? (i := 228) rfl)) rfl
set_option maxRecDepth 100000 in
theorem ly_Md_2 : (.lays R_Md "WaterMenModel" "stairs" "I") ∈ TB := tw_f (tw_t4 (List.mem_of_getElem? (i := 230) rfl)) rfl
set_option maxRecDepth 100000 in
theorem ly_Md_3 : (.laysFinal R_Md "WaterMenModel" "miles" "[I") ∈ TB := tw_f (tw_t4 (List.mem_of_getElem? (i := 232) rfl)) rfl
set_option maxRecDepth 100000 in
theorem ly_Md_4 : (.lays R_Md "WaterMenModel" "bridge" "I") ∈ TB := tw_f (tw_t4 (List.mem_of_getElem? (i := 234) rfl)) rfl
set_option maxRecDepth 100000 in
theorem ly_Md_5 : (.laysFinal R_Md "WaterMenModel" "table" "[I") ∈ TB := tw_f (tw_t4 (List.mem_of_getElem? (i := 236) rfl)) rfl
set_option maxRecDepth 100000 in
theorem ly_Md_6 : (.laysFinal R_Md "WaterMenModel" "hasRow" "[Z") ∈ TB := tw_f (tw_t4 (List.mem_of_getElem? (i := 238) rfl)) rfl
set_option maxRecDepth 100000 in
theorem ly_Md_7 : (.laysFinal R_Md "WaterMenModel" "rows" "[I") ∈ TB := tw_f (tw_t5 (List.mem_of_getElem? (i := 0) rfl)) rfl
set_option maxRecDepth 100000 in
theorem ly_Md_8 : (.laysFinal R_Md "WaterMenModel" "frosts" "[Z") ∈ TB := tw_f (tw_t5 (List.mem_of_getElem? (i := 2) rfl)) rfl
set_option maxRecDepth 100000 in
theorem ly_Md_9 : (.laysFinal R_Md "WaterMenModel" "state" "[I") ∈ TB := tw_f (tw_t5 (List.mem_of_getElem? (i := 4) rfl)) rfl
set_option maxRecDepth 100000 in
theorem ly_Md_10 : (.laysFinal R_Md "WaterMenModel" "master" "[I") ∈ TB := tw_f (tw_t5 (List.mem_of_getElem? (i := 6) rfl)) rfl
set_option maxRecDepth 100000 in
theorem ly_Md_11 : (.laysFinal R_Md "WaterMenModel" "boundOn" "[I") ∈ TB := tw_f (tw_t5 (List.mem_of_getElem? (i := 8) rfl)) rfl
set_option maxRecDepth 100000 in
theorem ly_Md_12 : (.laysFinal R_Md "WaterMenModel" "gaps" "[I") ∈ TB := tw_f (tw_t5 (List.mem_of_getElem? (i := 10) rfl)) rfl
set_option maxRecDepth 100000 in
theorem ly_Md_13 : (.laysFinal R_Md "WaterMenModel" "gapFrom" "[I") ∈ TB := tw_f (tw_t5 (List.mem_of_getElem? (i := 12) rfl)) rfl
set_option maxRecDepth 100000 in
theorem ly_Md_14 : (.laysFinal R_Md "WaterMenModel" "gapTo" "[I") ∈ TB := tw_f (tw_t5 (List.mem_of_getElem? (i := 14) rfl)) rfl
set_option maxRecDepth 100000 in
theorem ly_Md_15 : (.laysFinal R_Md "WaterMenModel" "coins" "[I") ∈ TB := tw_f (tw_t5 (List.mem_of_getElem? (i := 16) rfl)) rfl
set_option maxRecDepth 100000 in
theorem ly_Md_16 : (.laysFinal R_Md "WaterMenModel" "wayOf" "[I") ∈ TB := tw_f (tw_t5 (List.mem_of_getElem? (i := 18) rfl)) rfl
set_option maxRecDepth 100000 in
theorem ly_Md_17 : (.laysFinal R_Md "WaterMenModel" "tripsOf" "[I") ∈ TB := tw_f (tw_t5 (List.mem_of_getElem? (i := 20) rfl)) rfl
set_option maxRecDepth 100000 in
theorem ly_Md_18 : (.laysFinal R_Md "WaterMenModel" "shares" "[Z") ∈ TB := tw_f (tw_t5 (List.mem_of_getElem? (i := 22) rfl)) rfl
set_option maxRecDepth 100000 in
theorem ly_Md_19 : (.laysFinal R_Md "WaterMenModel" "turns" "[I") ∈ TB := tw_f (tw_t5 (List.mem_of_getElem? (i := 24) rfl)) rfl
set_option maxRecDepth 100000 in
theorem ly_Md_20 : (.laysFinal R_Md "WaterMenModel" "turn" "[I") ∈ TB := tw_f (tw_t5 (List.mem_of_getElem? (i := 26) rfl)) rfl
set_option maxRecDepth 100000 in
theorem ly_Md_21 : (.lays R_Md "WaterMenModel" "boats" "I") ∈ TB := tw_f (tw_t5 (List.mem_of_getElem? (i := 28) rfl)) rfl
set_option maxRecDepth 100000 in
theorem ly_Md_22 : (.laysFinal R_Md "WaterMenModel" "boatOars" "[I") ∈ TB := tw_f (tw_t5 (List.mem_of_getElem? (i := 30) rfl)) rfl
set_option maxRecDepth 100000 in
theorem ly_Md_23 : (.laysFinal R_Md "WaterMenModel" "boatAt" "[I") ∈ TB := tw_f (tw_t5 (List.mem_of_getElem? (i := 32) rfl)) rfl
set_option maxRecDepth 100000 in
theorem ly_Md_24 : (.laysFinal R_Md "WaterMenModel" "boatFrom" "[I") ∈ TB := tw_f (tw_t5 (List.mem_of_getElem? (i := 34) rfl)) rfl
set_option maxRecDepth 100000 in
theorem ly_Md_25 : (.laysFinal R_Md "WaterMenModel" "boatTrip" "[I") ∈ TB := tw_f (tw_t5 (List.mem_of_getElem? (i := 36) rfl)) rfl
set_option maxRecDepth 100000 in
theorem ly_Md_26 : (.laysFinal R_Md "WaterMenModel" "sunk" "[Z") ∈ TB := tw_f (tw_t5 (List.mem_of_getElem? (i := 38) rfl)) rfl
set_option maxRecDepth 100000 in
theorem ly_Md_27 : (.laysFinal R_Md "WaterMenModel" "tape" "[B") ∈ TB := tw_f (tw_t5 (List.mem_of_getElem? (i := 40) rfl)) rfl
set_option maxRecDepth 100000 in
theorem ly_Md_28 : (.lays R_Md "WaterMenModel" "taped" "I") ∈ TB := tw_f (tw_t5 (List.mem_of_getElem? (i := 42) rfl)) rfl
set_option maxRecDepth 100000 in
theorem ly_Md_29 : (.lays R_Md "WaterMenModel" "orders" "I") ∈ TB := tw_f (tw_t5 (List.mem_of_getElem? (i := 44) rfl)) rfl
set_option maxRecDepth 100000 in
theorem ly_Md_30 : (.laysFinal R_Md "WaterMenModel" "orderFrom" "[I") ∈ TB := tw_f (tw_t5 (List.mem_of_getElem? (i := 46) rfl)) rfl
set_option maxRecDepth 100000 in
theorem ly_Md_31 : (.laysFinal R_Md "WaterMenModel" "orderMade" "[I") ∈ TB := tw_f (tw_t5 (List.mem_of_getElem? (i := 48) rfl)) rfl
set_option maxRecDepth 100000 in
theorem ly_Md_32 : (.laysFinal R_Md "WaterMenModel" "fares" "[I") ∈ TB := tw_f (tw_t5 (List.mem_of_getElem? (i := 50) rfl)) rfl
set_option maxRecDepth 100000 in
theorem ly_Md_33 : (.laysFinal R_Md "WaterMenModel" "fareLow" "[I") ∈ TB := tw_f (tw_t5 (List.mem_of_getElem? (i := 52) rfl)) rfl
set_option maxRecDepth 100000 in
theorem ly_Md_34 : (.laysFinal R_Md "WaterMenModel" "fareHigh" "[I") ∈ TB := tw_f (tw_t5 (List.mem_of_getElem? (i := 54) rfl)) rfl
set_option maxRecDepth 100000 in
theorem ly_Md_35 : (.laysFinal R_Md "WaterMenModel" "fareIs" "[I") ∈ TB := tw_f (tw_t5 (List.mem_of_getElem? (i := 56) rfl)) rfl
set_option maxRecDepth 100000 in
theorem ly_Md_36 : (.laysFinal R_Md "WaterMenModel" "hours" "[I") ∈ TB := tw_f (tw_t5 (List.mem_of_getElem? (i := 58) rfl)) rfl
set_option maxRecDepth 100000 in
theorem ly_Md_37 : (.laysFinal R_Md "WaterMenModel" "hourLow" "[I") ∈ TB := tw_f (tw_t5 (List.mem_of_getElem? (i := 60) rfl)) rfl
set_option maxRecDepth 100000 in
theorem ly_Md_38 : (.laysFinal R_Md "WaterMenModel" "hourHigh" "[I") ∈ TB := tw_f (tw_t5 (List.mem_of_getElem? (i := 62) rfl)) rfl
set_option maxRecDepth 100000 in
theorem ly_Md_39 : (.laysFinal R_Md "WaterMenModel" "hourIs" "[I") ∈ TB := tw_f (tw_t5 (List.mem_of_getElem? (i := 64) rfl)) rfl
set_option maxRecDepth 100000 in
theorem ly_Md_40 : (.laysFinal R_Md "WaterMenModel" "single" "[I") ∈ TB := tw_f (tw_t5 (List.mem_of_getElem? (i := 66) rfl)) rfl
set_option maxRecDepth 100000 in
theorem ly_Md_41 : (.laysFinal R_Md "WaterMenModel" "singleTo" "[I") ∈ TB := tw_f (tw_t5 (List.mem_of_getElem? (i := 68) rfl)) rfl
set_option maxRecDepth 100000 in
theorem ly_Md_42 : (.lays R_Md "WaterMenModel" "at" "I") ∈ TB := tw_f (tw_t5 (List.mem_of_getElem? (i := 70) rfl)) rfl
set_option maxRecDepth 100000 in
theorem ly_Md_43 : (.lays R_Md "WaterMenModel" "tk" "I") ∈ TB := tw_f (tw_t5 (List.mem_of_getElem? (i := 72) rfl)) rfl
set_option maxRecDepth 100000 in
theorem ly_Md_44 : (.lays R_Md "WaterMenModel" "tkAt" "I") ∈ TB := tw_f (tw_t5 (List.mem_of_getElem? (i := 74) rfl)) rfl
set_option maxRecDepth 100000 in
theorem ly_Md_45 : (.lays R_Md "WaterMenModel" "tkNumber" "I") ∈ TB := tw_f (tw_t5 (List.mem_of_getElem? (i := 76) rfl)) rfl
set_option maxRecDepth 100000 in
theorem ly_Md_46 : (.lays R_Md "WaterMenModel" "got" "I") ∈ TB := tw_f (tw_t5 (List.mem_of_getElem? (i := 78) rfl)) rfl
set_option maxRecDepth 100000 in
theorem ly_Md_47 : (.lays R_Md "WaterMenModel" "trips" "I") ∈ TB := tw_f (tw_t5 (List.mem_of_getElem? (i := 80) rfl)) rfl
set_option maxRecDepth 100000 in
theorem ly_Md_48 : (.laysFinal R_Md "WaterMenModel" "tripBoat" "[I") ∈ TB := tw_f (tw_t5 (List.mem_of_getElem? (i := 82) rfl)) rfl
set_option maxRecDepth 100000 in
theorem ly_Md_49 : (.laysFinal R_Md "WaterMenModel" "tripMan" "[I") ∈ TB := tw_f (tw_t5 (List.mem_of_getElem? (i := 84) rfl)) rfl
set_option maxRecDepth 100000 in
theorem ly_Md_50 : (.laysFinal R_Md "WaterMenModel" "tripFrom" "[I") ∈ TB := tw_f (tw_t5 (List.mem_of_getElem? (i := 86) rfl)) rfl
set_option maxRecDepth 100000 in
theorem ly_Md_51 : (.laysFinal R_Md "WaterMenModel" "tripTo" "[I") ∈ TB := tw_f (tw_t5 (List.mem_of_getElem? (i := 88) rfl)) rfl
set_option maxRecDepth 100000 in
theorem ly_Md_52 : (.laysFinal R_Md "WaterMenModel" "tripBegin" "[I") ∈ TB := tw_f (tw_t5 (List.mem_of_getElem? (i := 90) rfl)) rfl
set_option maxRecDepth 100000 in
theorem ly_Md_53 : (.laysFinal R_Md "WaterMenModel" "tripThere" "[I") ∈ TB := tw_f (tw_t5 (List.mem_of_getElem? (i := 92) rfl)) rfl
set_option maxRecDepth 100000 in
theorem ly_Md_54 : (.laysFinal R_Md "WaterMenModel" "tripPaid" "[I") ∈ TB := tw_f (tw_t5 (List.mem_of_getElem? (i := 94) rfl)) rfl
set_option maxRecDepth 100000 in
theorem ly_Md_55 : (.laysFinal R_Md "WaterMenModel" "sank" "[Z") ∈ TB := tw_f (tw_t5 (List.mem_of_getElem? (i := 96) rfl)) rfl
set_option maxRecDepth 100000 in
theorem ly_Md_56 : (.lays R_Md "WaterMenModel" "box" "J") ∈ TB := tw_f (tw_t5 (List.mem_of_getElem? (i := 98) rfl)) rfl
set_option maxRecDepth 100000 in
theorem ly_Md_57 : (.lays R_Md "WaterMenModel" "pot" "J") ∈ TB := tw_f (tw_t5 (List.mem_of_getElem? (i := 100) rfl)) rfl
set_option maxRecDepth 100000 in
theorem ly_Md_58 : (.lays R_Md "WaterMenModel" "paidOut" "J") ∈ TB := tw_f (tw_t5 (List.mem_of_getElem? (i := 102) rfl)) rfl
set_option maxRecDepth 100000 in
theorem ly_Md_59 : (.laysFinal R_Md "WaterMenModel" "boxIn" "[J") ∈ TB := tw_f (tw_t5 (List.mem_of_getElem? (i := 104) rfl)) rfl
set_option maxRecDepth 100000 in
theorem ly_Md_60 : (.lays R_Md "WaterMenModel" "pensioners" "I") ∈ TB := tw_f (tw_t5 (List.mem_of_getElem? (i := 106) rfl)) rfl
set_option maxRecDepth 100000 in
theorem ly_Md_61 : (.laysFinal R_Md "WaterMenModel" "pensionOf" "[I") ∈ TB := tw_f (tw_t5 (List.mem_of_getElem? (i := 108) rfl)) rfl
set_option maxRecDepth 100000 in
theorem ly_Md_62 : (.laysFinal R_Md "WaterMenModel" "pensionEnd" "[I") ∈ TB := tw_f (tw_t5 (List.mem_of_getElem? (i := 110) rfl)) rfl
set_option maxRecDepth 100000 in
theorem ly_Md_63 : (.laysFinal R_Md "WaterMenModel" "gotten" "[I") ∈ TB := tw_f (tw_t5 (List.mem_of_getElem? (i := 112) rfl)) rfl
set_option maxRecDepth 100000 in
theorem i_Md : ∀ w ∈ u_ws R_Md F_Md 64, w ∈ TB := by
  intro w hw
  obtain ⟨k, hk, rfl⟩ := List.mem_map.mp hw
  have hk := List.mem_range.mp hk
  match k, hk with
  | 0, _ => exact ly_Md_0
  | 1, _ => exact ly_Md_1
  | 2, _ => exact ly_Md_2
  | 3, _ => exact ly_Md_3
  | 4, _ => exact ly_Md_4
  | 5, _ => exact ly_Md_5
  | 6, _ => exact ly_Md_6
  | 7, _ => exact ly_Md_7
  | 8, _ => exact ly_Md_8
  | 9, _ => exact ly_Md_9
  | 10, _ => exact ly_Md_10
  | 11, _ => exact ly_Md_11
  | 12, _ => exact ly_Md_12
  | 13, _ => exact ly_Md_13
  | 14, _ => exact ly_Md_14
  | 15, _ => exact ly_Md_15
  | 16, _ => exact ly_Md_16
  | 17, _ => exact ly_Md_17
  | 18, _ => exact ly_Md_18
  | 19, _ => exact ly_Md_19
  | 20, _ => exact ly_Md_20
  | 21, _ => exact ly_Md_21
  | 22, _ => exact ly_Md_22
  | 23, _ => exact ly_Md_23
  | 24, _ => exact ly_Md_24
  | 25, _ => exact ly_Md_25
  | 26, _ => exact ly_Md_26
  | 27, _ => exact ly_Md_27
  | 28, _ => exact ly_Md_28
  | 29, _ => exact ly_Md_29
  | 30, _ => exact ly_Md_30
  | 31, _ => exact ly_Md_31
  | 32, _ => exact ly_Md_32
  | 33, _ => exact ly_Md_33
  | 34, _ => exact ly_Md_34
  | 35, _ => exact ly_Md_35
  | 36, _ => exact ly_Md_36
  | 37, _ => exact ly_Md_37
  | 38, _ => exact ly_Md_38
  | 39, _ => exact ly_Md_39
  | 40, _ => exact ly_Md_40
  | 41, _ => exact ly_Md_41
  | 42, _ => exact ly_Md_42
  | 43, _ => exact ly_Md_43
  | 44, _ => exact ly_Md_44
  | 45, _ => exact ly_Md_45
  | 46, _ => exact ly_Md_46
  | 47, _ => exact ly_Md_47
  | 48, _ => exact ly_Md_48
  | 49, _ => exact ly_Md_49
  | 50, _ => exact ly_Md_50
  | 51, _ => exact ly_Md_51
  | 52, _ => exact ly_Md_52
  | 53, _ => exact ly_Md_53
  | 54, _ => exact ly_Md_54
  | 55, _ => exact ly_Md_55
  | 56, _ => exact ly_Md_56
  | 57, _ => exact ly_Md_57
  | 58, _ => exact ly_Md_58
  | 59, _ => exact ly_Md_59
  | 60, _ => exact ly_Md_60
  | 61, _ => exact ly_Md_61
  | 62, _ => exact ly_Md_62
  | 63, _ => exact ly_Md_63
  | k + 64, h => exact absurd h (by omega)
set_option maxRecDepth 100000 in
theorem ly_Bd_0 : (.laysFinal R_Bd "WaterMen$Bond" "master" "I") ∈ TB := tw_f (tw_t2 (List.mem_of_getElem? (i := 82) rfl)) rfl
set_option maxRecDepth 100000 in
theorem ly_Bd_1 : (.laysFinal R_Bd "WaterMen$Bond" "since" "I") ∈ TB := tw_f (tw_t2 (List.mem_of_getElem? (i := 84) rfl)) rfl
set_option maxRecDepth 100000 in
theorem ly_Bd_2 : (.laysFinal R_Bd "WaterMen$Bond" "gapFrom" "[I") ∈ TB := tw_f (tw_t2 (List.mem_of_getElem? (i := 86) rfl)) rfl
set_option maxRecDepth 100000 in
theorem ly_Bd_3 : (.laysFinal R_Bd "WaterMen$Bond" "gapTo" "[I") ∈ TB := tw_f (tw_t2 (List.mem_of_getElem? (i := 88) rfl)) rfl
set_option maxRecDepth 100000 in
theorem ly_Bd_4 : (.lays R_Bd "WaterMen$Bond" "gapCount" "I") ∈ TB := tw_f (tw_t2 (List.mem_of_getElem? (i := 90) rfl)) rfl
set_option maxRecDepth 100000 in
theorem i_Bd : ∀ w ∈ u_ws R_Bd F_Bd 5, w ∈ TB := by
  intro w hw
  obtain ⟨k, hk, rfl⟩ := List.mem_map.mp hw
  have hk := List.mem_range.mp hk
  match k, hk with
  | 0, _ => exact ly_Bd_0
  | 1, _ => exact ly_Bd_1
  | 2, _ => exact ly_Bd_2
  | 3, _ => exact ly_Bd_3
  | 4, _ => exact ly_Bd_4
set_option maxRecDepth 100000 in
theorem ly_Bt_0 : (.laysFinal R_Bt "WaterMen$Boat" "oars" "I") ∈ TB := tw_f (tw_t2 (List.mem_of_getElem? (i := 161) rfl)) rfl
set_option maxRecDepth 100000 in
theorem ly_Bt_1 : (.lays R_Bt "WaterMen$Boat" "stairs" "I") ∈ TB := tw_f (tw_t2 (List.mem_of_getElem? (i := 163) rfl)) rfl
set_option maxRecDepth 100000 in
theorem ly_Bt_2 : (.lays R_Bt "WaterMen$Boat" "thereFrom" "I") ∈ TB := tw_f (tw_t2 (List.mem_of_getElem? (i := 165) rfl)) rfl
set_option maxRecDepth 100000 in
theorem ly_Bt_3 : (.lays R_Bt "WaterMen$Boat" "rower" "I") ∈ TB := tw_f (tw_t2 (List.mem_of_getElem? (i := 167) rfl)) rfl
set_option maxRecDepth 100000 in
theorem ly_Bt_4 : (.lays R_Bt "WaterMen$Boat" "lastTrip" "I") ∈ TB := tw_f (tw_t2 (List.mem_of_getElem? (i := 169) rfl)) rfl
set_option maxRecDepth 100000 in
theorem ly_Bt_5 : (.lays R_Bt "WaterMen$Boat" "sunk" "Z") ∈ TB := tw_f (tw_t2 (List.mem_of_getElem? (i := 171) rfl)) rfl
set_option maxRecDepth 100000 in
theorem i_Bt : ∀ w ∈ u_ws R_Bt F_Bt 6, w ∈ TB := by
  intro w hw
  obtain ⟨k, hk, rfl⟩ := List.mem_map.mp hw
  have hk := List.mem_range.mp hk
  match k, hk with
  | 0, _ => exact ly_Bt_0
  | 1, _ => exact ly_Bt_1
  | 2, _ => exact ly_Bt_2
  | 3, _ => exact ly_Bt_3
  | 4, _ => exact ly_Bt_4
  | 5, _ => exact ly_Bt_5
set_option maxRecDepth 100000 in
theorem ly_Tr_0 : (.laysFinal R_Tr "WaterMen$Trip" "boat" "I") ∈ TB := tw_f (tw_t3 (List.mem_of_getElem? (i := 211) rfl)) rfl
set_option maxRecDepth 100000 in
theorem ly_Tr_1 : (.laysFinal R_Tr "WaterMen$Trip" "man" "I") ∈ TB := tw_f (tw_t3 (List.mem_of_getElem? (i := 213) rfl)) rfl
set_option maxRecDepth 100000 in
theorem ly_Tr_2 : (.laysFinal R_Tr "WaterMen$Trip" "start" "I") ∈ TB := tw_f (tw_t3 (List.mem_of_getElem? (i := 215) rfl)) rfl
set_option maxRecDepth 100000 in
theorem ly_Tr_3 : (.laysFinal R_Tr "WaterMen$Trip" "paid" "I") ∈ TB := tw_f (tw_t3 (List.mem_of_getElem? (i := 217) rfl)) rfl
set_option maxRecDepth 100000 in
theorem ly_Tr_4 : (.lays R_Tr "WaterMen$Trip" "from" "I") ∈ TB := tw_f (tw_t3 (List.mem_of_getElem? (i := 219) rfl)) rfl
set_option maxRecDepth 100000 in
theorem ly_Tr_5 : (.lays R_Tr "WaterMen$Trip" "to" "I") ∈ TB := tw_f (tw_t3 (List.mem_of_getElem? (i := 221) rfl)) rfl
set_option maxRecDepth 100000 in
theorem ly_Tr_6 : (.lays R_Tr "WaterMen$Trip" "arrival" "I") ∈ TB := tw_f (tw_t3 (List.mem_of_getElem? (i := 223) rfl)) rfl
set_option maxRecDepth 100000 in
theorem ly_Tr_7 : (.lays R_Tr "WaterMen$Trip" "sank" "Z") ∈ TB := tw_f (tw_t3 (List.mem_of_getElem? (i := 225) rfl)) rfl
set_option maxRecDepth 100000 in
theorem i_Tr : ∀ w ∈ u_ws R_Tr F_Tr 8, w ∈ TB := by
  intro w hw
  obtain ⟨k, hk, rfl⟩ := List.mem_map.mp hw
  have hk := List.mem_range.mp hk
  match k, hk with
  | 0, _ => exact ly_Tr_0
  | 1, _ => exact ly_Tr_1
  | 2, _ => exact ly_Tr_2
  | 3, _ => exact ly_Tr_3
  | 4, _ => exact ly_Tr_4
  | 5, _ => exact ly_Tr_5
  | 6, _ => exact ly_Tr_6
  | 7, _ => exact ly_Tr_7
def NWL : List Cond := [(.methodLinkNest R_WM 11 y_Rv_init "WaterMen"), (.methodLinkNest R_WM 42 y_Tp_init "WaterMen"), (.methodLinkNest R_WM 49 y_Bx_init "WaterMen"), (.methodLinkNest R_WM 54 y_Or_init "WaterMen"), (.methodLinkNest R_WM 59 y_Mn_init "WaterMen"), (.methodLinkNest R_Rv 31 y_WM_isDay "WaterMen"), (.methodLinkNest R_Or 52 y_WM_isSunday "WaterMen"), (.methodLinkNest R_Bx 25 y_WM_isDay "WaterMen")]
def nw_is : Cond → Bool
  | .methodLinkNest _ _ _ _ => true
  | _ => false
def AOL : List String := [R_Mn, R_Bt, R_Or, R_Tr, R_Pn]
set_option maxRecDepth 100000 in
theorem ao_Mn : R_Mn ∈ AOL := List.mem_of_getElem? (i := 0) rfl
set_option maxRecDepth 100000 in
theorem ao_Bt : R_Bt ∈ AOL := List.mem_of_getElem? (i := 1) rfl
set_option maxRecDepth 100000 in
theorem ao_Or : R_Or ∈ AOL := List.mem_of_getElem? (i := 2) rfl
set_option maxRecDepth 100000 in
theorem ao_Tr : R_Tr ∈ AOL := List.mem_of_getElem? (i := 3) rfl
set_option maxRecDepth 100000 in
theorem ao_Pn : R_Pn ∈ AOL := List.mem_of_getElem? (i := 4) rfl
set_option maxRecDepth 100000 in
theorem nw_0 : (.methodLinkNest R_WM 11 y_Rv_init "WaterMen") ∈ NWL := List.mem_of_getElem? (i := 0) rfl
set_option maxRecDepth 100000 in
theorem nw_1 : (.methodLinkNest R_WM 42 y_Tp_init "WaterMen") ∈ NWL := List.mem_of_getElem? (i := 1) rfl
set_option maxRecDepth 100000 in
theorem nw_2 : (.methodLinkNest R_WM 49 y_Bx_init "WaterMen") ∈ NWL := List.mem_of_getElem? (i := 2) rfl
set_option maxRecDepth 100000 in
theorem nw_3 : (.methodLinkNest R_WM 54 y_Or_init "WaterMen") ∈ NWL := List.mem_of_getElem? (i := 3) rfl
set_option maxRecDepth 100000 in
theorem nw_4 : (.methodLinkNest R_WM 59 y_Mn_init "WaterMen") ∈ NWL := List.mem_of_getElem? (i := 4) rfl
set_option maxRecDepth 100000 in
theorem nw_5 : (.methodLinkNest R_Rv 31 y_WM_isDay "WaterMen") ∈ NWL := List.mem_of_getElem? (i := 5) rfl
set_option maxRecDepth 100000 in
theorem nw_6 : (.methodLinkNest R_Or 52 y_WM_isSunday "WaterMen") ∈ NWL := List.mem_of_getElem? (i := 6) rfl
set_option maxRecDepth 100000 in
theorem nw_7 : (.methodLinkNest R_Bx 25 y_WM_isDay "WaterMen") ∈ NWL := List.mem_of_getElem? (i := 7) rfl
set_option maxRecDepth 100000 in
theorem nw_tbl : ∀ w ∈ NWL, w ∈ lw_tbl := by
  intro w hw
  simp only [NWL, List.mem_cons, List.not_mem_nil, or_false] at hw
  rcases hw with rfl | rfl | rfl | rfl | rfl | rfl | rfl | rfl
  · exact tw_t1 (List.mem_of_getElem? (i := 27) rfl)
  · exact tw_t1 (List.mem_of_getElem? (i := 68) rfl)
  · exact tw_t1 (List.mem_of_getElem? (i := 95) rfl)
  · exact tw_t1 (List.mem_of_getElem? (i := 127) rfl)
  · exact tw_t1 (List.mem_of_getElem? (i := 160) rfl)
  · exact tw_t2 (List.mem_of_getElem? (i := 55) rfl)
  · exact tw_t3 (List.mem_of_getElem? (i := 139) rfl)
  · exact tw_t4 (List.mem_of_getElem? (i := 4) rfl)
set_option maxRecDepth 100000 in
theorem ao_tbl : ∀ C ∈ AOL, Cond.arrayOver (.object C) ∈ lw_tbl := by
  intro w hw
  simp only [AOL, List.mem_cons, List.not_mem_nil, or_false] at hw
  rcases hw with rfl | rfl | rfl | rfl | rfl
  · exact tw_t1 (List.mem_of_getElem? (i := 59) rfl)
  · exact tw_t1 (List.mem_of_getElem? (i := 61) rfl)
  · exact tw_t1 (List.mem_of_getElem? (i := 63) rfl)
  · exact tw_t1 (List.mem_of_getElem? (i := 65) rfl)
  · exact tw_t1 (List.mem_of_getElem? (i := 100) rfl)
set_option maxRecDepth 100000 in
theorem aa_tbl : Cond.arrayOver (.array .int) ∈ lw_tbl := tw_t1 (List.mem_of_getElem? (i := 32) rfl)
end
section
section HB
variable {p : Program} {l : Launch} {e : Env} {R : Room} {s : State} {m : MethodId} {args : Array Value} {below : List Frame} {meth : Method} {c : Code} {H : Heap} {locs : List Loc} {cells slots : Nat} {Q : State → Prop}
variable {cc : ByteArray} {pc : Nat} {ls : Array Slot} {rest : List Value}
theorem hb_tv {a : Value} (v : Value) (h : a = v) (k : W p l e R s m args below meth c H locs cells slots Q (F0 m pc ls (v :: rest))) : W p l e R s m args below meth c H locs cells slots Q (F0 m pc ls (a :: rest)) := by
  subst h; exact k
theorem hb_ti {x : Int32} (v : Int32) (h : x = v) (k : W p l e R s m args below meth c H locs cells slots Q (F0 m pc ls (.int v :: rest))) : W p l e R s m args below meth c H locs cells slots Q (F0 m pc ls (.int x :: rest)) := by
  subst h; exact k
theorem hb_tl {x : Int64} (v : Int64) (h : x = v) (k : W p l e R s m args below meth c H locs cells slots Q (F0 m pc ls (.long v :: rest))) : W p l e R s m args below meth c H locs cells slots Q (F0 m pc ls (.long x :: rest)) := by
  subst h; exact k
theorem hb_in {i N : Int32} {n : Nat} (h1 : ¬ i < 0) (h2 : ¬ N ≤ i) (hN : N.toInt ≤ (n : Int)) : vp_in i n := by
  rw [vp_in_iff]
  rw [Int32.lt_iff_toInt_lt] at h1
  rw [Int32.le_iff_toInt_le] at h2
  have h0 : (0 : Int32).toInt = 0 := by decide
  omega
theorem hb_inl {i N : Int32} {n : Nat} (h1 : ¬ i < 0) (h2 : ¬ N < i) (hN : N.toInt < (n : Int)) : vp_in i n := by
  rw [vp_in_iff]
  rw [Int32.lt_iff_toInt_lt] at h1 h2
  have h0 : (0 : Int32).toInt = 0 := by decide
  omega
theorem hb_inp {i N : Int32} {n : Nat} (h1 : ¬ i < 0) (h2 : i < N) (hN : N.toInt ≤ (n : Int)) : vp_in i n := by
  rw [vp_in_iff]
  rw [Int32.lt_iff_toInt_lt] at h1 h2
  have h0 : (0 : Int32).toInt = 0 := by decide
  omega
theorem hb_free {A0 : Nat → Prop} {ws : va_W} {H0 H : Heap} {locs : List Loc} (hD : va_D A0 ws) (hS : va_S A0 H0 H locs) (hA : ∀ q, H0.size ≤ q → A0 q) : ∀ q, va_A ws H.size q → A0 q := by
  intro q h
  rcases h with ⟨k, e, h⟩ | h
  · exact hD.2 k _ h
  · exact hA q (Nat.le_trans hS.1 h)
end HB
/-- the words of nest mates, and of the arrays of references -/
def NW (U : State) : Prop := (∀ w ∈ NWL, va_Nw w U) ∧ (∀ C ∈ AOL, va_AO C U) ∧ (Cond.arrayOver (.array .int)).before #[] U = true
theorem NW.warm {s U : State} (hW : s.WarmedH U.vm) (h : NW s) : NW U := by
  refine ⟨?_, fun C hC => va_AO.moved hW.alike (h.2.1 C hC), over_moved hW.alike h.2.2⟩
  intro w hw
  have h1 := h.1 w hw
  have h2 : ∀ w ∈ NWL, nw_is w = true := by decide +kernel
  have h3 := h2 w hw
  cases w <;> first | exact va_Nw.warmM hW h1 | exact absurd h3 (by simp [nw_is])
theorem NW.blind {U : State} {g : JFrame} {mk : MethodId} {a : Array Value} (h : NW U) : NW (U.calling g mk a) := by
  refine ⟨?_, fun C hC => va_AO.moved (u := U) (U := U.calling g mk a) (Vm.Alike.refl U.vm) (h.2.1 C hC), over_moved (u := U) (E := U.calling g mk a) (Vm.Alike.refl U.vm) h.2.2⟩
  intro w hw
  have h1 := h.1 w hw
  have h2 : ∀ w ∈ NWL, w.onTables = true := by decide +kernel
  exact va_Nw.same (u := U) (U := U.calling g mk a) (h2 w hw) rfl h1
def PR (dC : Nat → ClassId) (dI : Nat → Nat → Nat) (ws : va_W) (tys : List (ClassId × FieldType)) (U : State) : Prop := va_P (dC, dI) vwCl ws U.heap ∧ va_K (dC, dI) vwCl tys U ∧ NW U
def PC (dC : Nat → ClassId) (dI : Nat → Nat → Nat) (ws : va_W) (tys : List (ClassId × FieldType)) (sz : Nat) (U : State) : Prop := U.heap.size = sz ∧ va_P (dC, dI) vwCl ws U.heap ∧ va_K (dC, dI) vwCl tys U ∧ va_D (fun _ => True) ws ∧ NW U
theorem pr_blind {av : List Value} {dC : Nat → ClassId} {dI : Nat → Nat → Nat} {ws : va_W} {tys : List (ClassId × FieldType)} : FrameBlind (va_Pc av (PR dC dI ws tys)) := by
  intro a U g mk q
  obtain ⟨q0, qP, qK, qN⟩ := q
  exact ⟨q0, qP, va_K.moved (u := U) (U := U.calling g mk a) (Vm.Alike.refl U.vm) qK, qN.blind⟩
theorem pc_blind {av : List Value} {dC : Nat → ClassId} {dI : Nat → Nat → Nat} {ws : va_W} {tys : List (ClassId × FieldType)} {sz : Nat} : FrameBlind (va_Pc av (PC dC dI ws tys sz)) := by
  intro a U g mk q
  obtain ⟨q0, q1, qP, qK, qD, qN⟩ := q
  exact ⟨q0, q1, qP, va_K.moved (u := U) (U := U.calling g mk a) (Vm.Alike.refl U.vm) qK, qD, qN.blind⟩
theorem pr_pre {s : State} {H : Heap} {av : List Value} {dC : Nat → ClassId} {dI : Nat → Nat → Nat} {ws : va_W} {tys : List (ClassId × FieldType)} (hP : va_P (dC, dI) vwCl ws H) (hK : va_K (dC, dI) vwCl tys s) (hN : NW s) : ∀ U : State, U.heap = H → s.WarmedH U.vm → va_Pc av (PR dC dI ws tys) av.toArray U :=
  fun U hU hW => ⟨rfl, by rw [hU]; exact hP, va_K.moved hW.alike hK, hN.warm hW⟩
theorem pc_pre {A : Nat → Prop} {s : State} {H : Heap} {av : List Value} {dC : Nat → ClassId} {dI : Nat → Nat → Nat} {ws : va_W} {tys : List (ClassId × FieldType)} (hP : va_P (dC, dI) vwCl ws H) (hK : va_K (dC, dI) vwCl tys s) (hD : va_D A ws) (hN : NW s) : ∀ U : State, U.heap = H → s.WarmedH U.vm → va_Pc av (PC dC dI ws tys H.size) av.toArray U :=
  fun U hU hW => ⟨rfl, by rw [hU], by rw [hU]; exact hP, va_K.moved hW.alike hK, hD.weaken (fun _ _ _ _ => trivial), hN.warm hW⟩
theorem gd_I {cy : Cond} (h : cy ∈ TB) : GoodIn TB (cy :: TB) := by
  intro w hw
  have hm : w ∈ TB := by
    rcases List.mem_cons.mp hw with rfl | h'
    · exact h
    · exact h'
  exact ⟨hm, good_of_word (List.mem_filter.mp hm).2⟩
theorem gd_app {a : List Cond} (ha : ∀ w ∈ a, w ∈ TB) {b : List Cond} (hb : GoodIn TB b) : GoodIn TB (a ++ b) := by
  intro w hw
  rcases List.mem_append.mp hw with h | h
  · exact ⟨ha w h, good_of_word (List.mem_filter.mp (ha w h)).2⟩
  · exact hb w h
theorem gd_V {own C : String} {idx : Nat} {y : MethodName} {cy : Cond} (h1 : Cond.methodLink own idx y ∈ TB) (h2 : Cond.instanceMethod y ∈ TB) (h3 : Cond.selects C y y ∈ TB) (h4 : Cond.initialized C ∈ TB) (h5 : cy ∈ TB) : GoodIn TB (wsV own idx C y (cy :: TB)) := by
  unfold wsV
  refine gd_app (fun w hw => ?_) (gd_I h5)
  simp only [List.mem_cons, List.not_mem_nil, or_false] at hw
  rcases hw with rfl | rfl | rfl | rfl <;> assumption
theorem gd_S {own : String} {idx : Nat} {y : MethodName} {cy : Cond} (h1 : Cond.methodLink own idx y ∈ TB) (h2 : Cond.static y ∈ TB) (h4 : Cond.initialized own ∈ TB) (h5 : cy ∈ TB) : GoodIn TB (wsS own idx y (cy :: TB)) := by
  unfold wsS
  refine gd_app (fun w hw => ?_) (gd_I h5)
  simp only [List.mem_cons, List.not_mem_nil, or_false] at hw
  rcases hw with rfl | rfl | rfl <;> assumption
theorem gd_S2 {own : String} {idx : Nat} {y : MethodName} {cy : Cond} (h1 : Cond.methodLink own idx y ∈ TB) (h2 : Cond.static y ∈ TB) (h4 : Cond.initialized y.cls ∈ TB) (h5 : cy ∈ TB) : GoodIn TB (va_wsS own idx y (cy :: TB)) := by
  unfold va_wsS
  refine gd_app (fun w hw => ?_) (gd_I h5)
  simp only [List.mem_cons, List.not_mem_nil, or_false] at hw
  rcases hw with rfl | rfl | rfl <;> assumption
theorem fb_rng (x : Int32) : -2147483648 ≤ x.toInt ∧ x.toInt < 2147483648 := ⟨Int32.le_toInt x, Int32.toInt_lt x⟩
theorem fb_bmod {z : Int} (h1 : -2147483648 ≤ z) (h2 : z < 2147483648) : z.bmod (2 ^ 32) = z := by
  rw [Int.bmod_def]; split <;> omega
theorem fb_addI {x y : Int32} (h1 : -2147483648 ≤ x.toInt + y.toInt) (h2 : x.toInt + y.toInt < 2147483648) : (x + y).toInt = x.toInt + y.toInt := by
  rw [Int32.toInt_add]; exact fb_bmod h1 h2
theorem fb_subI {x y : Int32} (h1 : -2147483648 ≤ x.toInt - y.toInt) (h2 : x.toInt - y.toInt < 2147483648) : (x - y).toInt = x.toInt - y.toInt := by
  rw [Int32.toInt_sub]; exact fb_bmod h1 h2
theorem hb_upd0 (v : Int32) (i : Nat) (w : Int32) (h : w = v) : upd (fun _ => v) i w = fun _ => v := by
  subst h; funext j; simp [upd]
theorem hb_updL0 (v : Int64) (i : Nat) : vp_updL (fun _ => v) i v = fun _ => v := by
  funext j; simp [vp_updL]
theorem hb_nat {x : Int32} (h0 : ¬ x < 0) (h1 : ¬ 1000 < x) : ∃ j : Nat, j ≤ 1000 ∧ x = nI j := by
  refine nI_of2 (M := 1000) (by decide) h0 ?_
  rw [Int32.lt_iff_toInt_lt] at h1
  rw [Int32.le_iff_toInt_le]
  omega
theorem hb_rem12 {x y : Int32} (hx0 : ¬ x < 0) (hx1 : ¬ 1000 < x) (hy0 : ¬ y < 0) (hy1 : ¬ 1000 < y) : vp_in ((x + y) - (x + y) / 12 * 12) 12 := by
  obtain ⟨a, ha, rfl⟩ := hb_nat hx0 hx1
  obtain ⟨b, hb, rfl⟩ := hb_nat hy0 hy1
  rw [nI_add, show (12 : Int32) = nI 12 from rfl, pk_rem (by omega) (by omega) (by omega)]
  exact vp_in_nI (Nat.mod_lt _ (by omega)) (by omega)
theorem hb_i6000 {x y : Int32} (hx0 : ¬ x < 0) (hx1 : ¬ 499 < x) (hy0 : ¬ y < 0) (hy1 : ¬ 11 < y) : vp_in ((12 * x) + y) 6000 := by
  obtain ⟨a, ha, rfl⟩ : ∃ j : Nat, j ≤ 499 ∧ x = nI j := by
    refine nI_of2 (M := 499) (by decide) hx0 ?_
    rw [Int32.lt_iff_toInt_lt] at hx1; rw [Int32.le_iff_toInt_le]; omega
  obtain ⟨b, hb, rfl⟩ : ∃ j : Nat, j ≤ 11 ∧ y = nI j := by
    refine nI_of2 (M := 11) (by decide) hy0 ?_
    rw [Int32.lt_iff_toInt_lt] at hy1; rw [Int32.le_iff_toInt_le]; omega
  rw [show (12 : Int32) = nI 12 from rfl, pk_mul, nI_add]
  exact vp_in_nI (by omega) (by omega)
theorem hb_div720 {x : Int32} (h0 : ¬ x < 1) (h1 : ¬ 1440 < x) : ∃ j : Nat, 1 ≤ j ∧ j ≤ 1440 ∧ x = nI j ∧ (0 + x) / 720 = nI (j / 720) := by
  obtain ⟨j, hj, rfl⟩ : ∃ j : Nat, j ≤ 1440 ∧ x = nI j := by
    refine nI_of2 (M := 1440) (by decide) ?_ ?_
    · rw [Int32.lt_iff_toInt_lt] at h0 ⊢
      have z0 : (0 : Int32).toInt = 0 := by decide
      have z1 : (1 : Int32).toInt = 1 := by decide
      omega
    · rw [Int32.lt_iff_toInt_lt] at h1; rw [Int32.le_iff_toInt_le]; omega
  refine ⟨j, ?_, hj, rfl, ?_⟩
  · rw [show (1 : Int32) = nI 1 from rfl, nI_ltI (by omega) (by omega)] at h0; omega
  · rw [Int32.zero_add, show (720 : Int32) = nI 720 from rfl, pk_div (by omega) (by omega) (by omega)]
theorem hb_day3 {x : Int32} (h0 : ¬ x < 1) (h1 : ¬ 1440 < x) : (0 + x) / 720 < 3 := by
  obtain ⟨j, h2, h3, -, e⟩ := hb_div720 h0 h1
  rw [e, show (3 : Int32) = nI 3 from rfl, nI_ltI (by omega) (by omega)]
  omega
section HA
variable {p : Program} {l : Launch} {e : Env} {R : Room} {s : State} {m : MethodId} {args : Array Value} {below : List Frame} {meth : Method} {c : Code} {H : Heap} {locs : List Loc} {cells slots : Nat} {Q : State → Prop}
variable {cc : ByteArray} {pc : Nat} {ls : Array Slot} {rest : List Value} {D : va_G} {cl : List vw_C} {A : Nat → Prop} {a : Nat} {tys : List (ClassId × FieldType)} {ws : va_W} {H0 : Heap}
theorem va_aldA (hexec : p.tables.exec = Jvm.exec) (hb : c.code = cc) (hK : va_K D cl tys s) (hP : va_P D cl ws H) (q0 t0 : Nat) {cA : ClassId} {t : FieldType} {n : Nat} {f : Nat → Option Nat} (ha : ws[q0]? = some (a, .inl (cA, n, .inr (.inr (.inr (.inr f)))))) (ht : tys[t0]? = some (cA, .array t)) {i : Int32} (hin : vp_in i n) (hdg : decode cc pc = .ok (.aaload, 1))
    (kk : W p l e R s m args below meth c H locs cells slots Q (F0 m (pc + 1) ls (va_rf (f i.toNatClampNeg) :: rest))) : W p l e R s m args below meth c H locs cells slots Q (F0 m pc ls (.int i :: .ref a :: rest)) := by
  have hlt : i.toNatClampNeg < n := Nat.not_le.mp fun q => hin (Or.inr q)
  exact W.aald (v := va_rf (f i.toNatClampNeg)) (ty := .array t) hexec hb (hP q0 _ ha) ((hK.2 t0 _ ht).1 n (fun j => va_rf (f j))) rfl (fun q => by cases q) (by show ¬ (i < 0 ∨ (arrV _ _ _).slots.size ≤ _); rw [arrV_size]; exact hin) (by show (arrV _ _ _).slots[_]? = _; rw [arrV_read _ _ hlt]) rfl rfl hdg kk
theorem va_newA (hexec : p.tables.exec = Jvm.exec) (hb : c.code = cc) {own : String} {index : Nat} {t : FieldType} (hown : s.vm.findClass own = some m.cls) (hclink : (Cond.classLink own index (FieldType.array t).toString).before args s = true) (hover : (Cond.arrayOver (.array t)).before args s = true) (hK : va_K D cl tys s) (hP : va_P D cl ws H) (hD : va_D A ws) (hS : va_S A H0 H locs) (hA : ∀ q, H0.size ≤ q → A q)
    {n : Int32} {N' : Nat} (hn : ¬ n < 0) (hN : n.toNatClampNeg = N') (hbytes : N' * 4 ≤ 536870912) (hcells : cells + 1 ≤ R.cells) (hslots : slots + N' ≤ R.slots) (hdg : decode cc pc = .ok (.anewarray index, 3))
    (kk : ∀ (q : Nat) (cA : ClassId) (H1 : Heap), va_K D cl (tys ++ [(cA, .array t)]) s → va_P D cl (ws ++ [(q, .inl (cA, N', .inr (.inr (.inr (.inr (fun _ => none))))))]) H1 → va_D A (ws ++ [(q, .inl (cA, N', .inr (.inr (.inr (.inr (fun _ => none))))))]) → va_S A H0 H1 locs →
      W p l e R s m args below meth c H1 locs (cells + 1) (slots + N') Q (F0 m (pc + 3) ls (.ref q :: rest))) : W p l e R s m args below meth c H locs cells slots Q (F0 m pc ls (.int n :: rest)) := by
  subst hN
  refine W.anewA hexec hb hown hclink hover rfl hdg rfl hn hbytes hcells hslots fun cA kA comp f1 f2 f3 f4 => ?_
  generalize hH1 : H.push ({ cls := cA, slots := Array.replicate n.toNatClampNeg .null, vm := .none } : Cell) = H1
  have z1 : H1.size = H.size + 1 := by rw [← hH1, Array.size_push]
  have e1 : H1[H.size]? = some (arrV cA n.toNatClampNeg (fun _ => .null)) := by rw [← hH1, Array.getElem?_push_size, ← arrV_new]
  have o1 : ∀ q : Nat, q < H.size → H1[q]? = H[q]? := fun q hq => by rw [← hH1, Array.getElem?_push, if_neg (Nat.ne_of_lt hq)]
  have hAr : ArrOfT s cA (.array t) := fun N z => ⟨(fun k h => by cases h), kA, f2, comp, f3⟩
  have hk : ∀ (k : Nat) (x : Nat × va_E), ws[k]? = some x → H1[x.1]? = H[x.1]? := fun k x hx => o1 x.1 ((hP k x hx).lt)
  refine kk H.size cA H1 ⟨hK.1, fun k x hx => ?_⟩ ((hP.kept hk).app (fun k x hx => ?_)) (hD.push hP rfl (hA _ hS.1)) ⟨Nat.le_trans hS.1 (by omega), fun x h1 h2 => (o1 x (Nat.lt_of_lt_of_le h1 hS.1)).trans (hS.2.1 x h1 h2), hS.2.2⟩
  · by_cases hl : k < tys.length
    · rw [List.getElem?_append_left hl] at hx
      exact hK.2 k x hx
    · rw [List.getElem?_append_right (by omega)] at hx
      have hz : k - tys.length < 1 := (List.getElem?_eq_some_iff.mp hx).1
      rw [show k - tys.length = 0 by omega] at hx
      cases hx
      exact ⟨hAr, f1⟩
  · have hz : k < 1 := (List.getElem?_eq_some_iff.mp hx).1
    rw [show k = 0 by omega] at hx
    cases hx
    show H1[H.size]? = some (vp_cell _ _)
    rw [vp_cell_q]
    exact e1
theorem va_astA (hexec : p.tables.exec = Jvm.exec) (hb : c.code = cc) (hover : (Cond.arrayOver (.array .int)).before args s = true) (hK : va_K D cl tys s) (hP : va_P D cl ws H) (hD : va_D A ws) (hS : va_S A H0 H locs) (q0 t0 qk tk : Nat) {cA cV : ClassId} {x : vp_A} {n v : Nat} {f : Nat → Option Nat} (ha : ws[q0]? = some (a, .inl (cA, n, .inr (.inr (.inr (.inr f)))))) (ht : tys[t0]? = some (cA, .array .int)) (hv : ws[qk]? = some (v, .inl (cV, x))) (htk : tys[tk]? = some (cV, .int)) {i : Int32} (hin : vp_in i n) (hdg : decode cc pc = .ok (.aastore, 1))
    (kk : ∀ (H1 : Heap) (locs1 : List Loc), va_P D cl (ws.set q0 (a, .inl (cA, n, .inr (.inr (.inr (.inr (va_up f i.toNatClampNeg (some v)))))))) H1 → va_D A (ws.set q0 (a, .inl (cA, n, .inr (.inr (.inr (.inr (va_up f i.toNatClampNeg (some v)))))))) → va_S A H0 H1 locs1 → W p l e R s m args below meth c H1 locs1 cells slots Q (F0 m (pc + 1) ls rest)) : W p l e R s m args below meth c H locs cells slots Q (F0 m pc ls (.ref v :: .int i :: .ref a :: rest)) := by
  have hlt : i.toNatClampNeg < n := Nat.not_le.mp fun q => hin (Or.inr q)
  have h0 : ¬ i < 0 := fun q => hin (Or.inl q)
  have g1 : H[v]? = some (vp_cell cV x) := hP qk _ hv
  have hvm0 : (vp_cell cV x).vm = .none := by
    obtain ⟨n, f | f | f | f | f⟩ := x <;> rfl
  have hcl0 : (vp_cell cV x).cls = cV := by
    obtain ⟨n, f | f | f | f | f⟩ := x <;> rfl
  obtain ⟨comp, c1, kA, k0, k1, k2, k3, k4⟩ := arrayOverA_spec hover
  have hcA : c1 = cA := Option.some.inj (k4.symm.trans (hK.2 t0 _ ht).2)
  subst hcA
  have hcV : comp = cV := Option.some.inj (k0.symm.trans (hK.2 tk _ htk).2)
  subst hcV
  obtain ⟨kE, hkE, -⟩ := Vm.findClass_spec k0
  refine W.aast hexec hb (hP q0 _ ha) (fun q h => by cases h) (fun h => by cases h) k2 k3 rfl hkE ⟨h0, by show _ < (arrV _ _ _).slots.size; rw [arrV_size]; exact hlt⟩ g1 (fun q h => by rw [hvm0] at h; cases h) (by rw [hcl0]; exact hkE) (by rw [hcl0]; exact va_asg _ _) rfl rfl hdg fun H1 e z oq => ?_
  refine kk H1 _ (hP.set hD ha ?_ oq) (hD.set ha) (hS.put z oq (hD.2 q0 _ ha))
  show H1[a]? = some (vp_cell _ _)
  rw [e]
  rw [vp_cell_q, vp_cell_q, arrV_store]
  congr 2
  funext q
  by_cases hq : q = i.toNatClampNeg
  · subst hq
    simp [updV, va_up, va_rf]
  · simp [updV, va_up, hq]
end HA
end
section
set_option maxRecDepth 100000 in
theorem tw_0 : (.fieldLink R_WM 12 "WaterMen" "river" "LWaterMen$River;") ∈ TB := tw_f (tw_t1 (List.mem_of_getElem? (i := 194) rfl)) rfl
set_option maxRecDepth 100000 in
theorem tw_1 : (.fieldLink R_Rv 35 "WaterMen$River" "stairCount" "I") ∈ TB := tw_f (tw_t1 (List.mem_of_getElem? (i := 40) rfl)) rfl
set_option maxRecDepth 100000 in
theorem tw_2 : (.code y_Rv_highest b_Rv_highest 1 (some .int)) ∈ TB := tw_f (tw_t2 (List.mem_of_getElem? (i := 1) rfl)) rfl
set_option maxRecDepth 100000 in
theorem tw_3 : (.initialized R_Rv) ∈ TB := tw_f (tw_t1 (List.mem_of_getElem? (i := 2) rfl)) rfl
set_option maxRecDepth 100000 in
theorem tw_4 : (.methodLink R_WM 60 y_Rv_highest) ∈ TB := tw_f (tw_t1 (List.mem_of_getElem? (i := 238) rfl)) rfl
set_option maxRecDepth 100000 in
theorem tw_5 : (.instanceMethod y_Rv_highest) ∈ TB := tw_f (tw_t1 (List.mem_of_getElem? (i := 239) rfl)) rfl
set_option maxRecDepth 100000 in
theorem tw_6 : (.selects R_Rv y_Rv_highest y_Rv_highest) ∈ TB := tw_f (tw_t2 (List.mem_of_getElem? (i := 0) rfl)) rfl
set_option maxRecDepth 100000 in
theorem tw_7 : (.fieldLink R_WM 64 "WaterMen$River" "stairCount" "I") ∈ TB := tw_f (tw_t1 (List.mem_of_getElem? (i := 39) rfl)) rfl
set_option maxRecDepth 100000 in
theorem tw_8 : (.fieldLink R_Rv 9 "WaterMen$River" "milesUp" "[I") ∈ TB := tw_f (tw_t1 (List.mem_of_getElem? (i := 33) rfl)) rfl
set_option maxRecDepth 100000 in
theorem tw_9 : (.code y_Rv_addStairs b_Rv_addStairs 2 (some .int)) ∈ TB := tw_f (tw_t2 (List.mem_of_getElem? (i := 5) rfl)) rfl
set_option maxRecDepth 100000 in
theorem tw_10 : (.methodLink R_WM 68 y_Rv_addStairs) ∈ TB := tw_f (tw_t2 (List.mem_of_getElem? (i := 2) rfl)) rfl
set_option maxRecDepth 100000 in
theorem tw_11 : (.instanceMethod y_Rv_addStairs) ∈ TB := tw_f (tw_t2 (List.mem_of_getElem? (i := 3) rfl)) rfl
set_option maxRecDepth 100000 in
theorem tw_12 : (.selects R_Rv y_Rv_addStairs y_Rv_addStairs) ∈ TB := tw_f (tw_t2 (List.mem_of_getElem? (i := 4) rfl)) rfl
set_option maxRecDepth 100000 in
theorem tw_13 : (.fieldLink R_WM 72 "WaterMen$River" "bridgeAbove" "I") ∈ TB := tw_f (tw_t1 (List.mem_of_getElem? (i := 42) rfl)) rfl
set_option maxRecDepth 100000 in
theorem tw_14 : (.code y_WM_isDay b_WM_isDay 1 (some .boolean)) ∈ TB := tw_f (tw_t2 (List.mem_of_getElem? (i := 16) rfl)) rfl
set_option maxRecDepth 100000 in
theorem tw_15 : (.initialized R_WM) ∈ TB := tw_f (tw_t1 (List.mem_of_getElem? (i := 1) rfl)) rfl
set_option maxRecDepth 100000 in
theorem tw_16 : (.methodLink R_WM 75 y_WM_isDay) ∈ TB := tw_f (tw_t2 (List.mem_of_getElem? (i := 14) rfl)) rfl
set_option maxRecDepth 100000 in
theorem tw_17 : (.static y_WM_isDay) ∈ TB := tw_f (tw_t2 (List.mem_of_getElem? (i := 15) rfl)) rfl
set_option maxRecDepth 100000 in
theorem tw_18 : (.code y_WM_isHour b_WM_isHour 1 (some .boolean)) ∈ TB := tw_f (tw_t2 (List.mem_of_getElem? (i := 19) rfl)) rfl
set_option maxRecDepth 100000 in
theorem tw_19 : (.methodLink R_WM 79 y_WM_isHour) ∈ TB := tw_f (tw_t2 (List.mem_of_getElem? (i := 17) rfl)) rfl
set_option maxRecDepth 100000 in
theorem tw_20 : (.static y_WM_isHour) ∈ TB := tw_f (tw_t2 (List.mem_of_getElem? (i := 18) rfl)) rfl
set_option maxRecDepth 100000 in
theorem tw_21 : (.code y_WM_isLevel b_WM_isLevel 1 (some .boolean)) ∈ TB := tw_f (tw_t2 (List.mem_of_getElem? (i := 22) rfl)) rfl
set_option maxRecDepth 100000 in
theorem tw_22 : (.methodLink R_WM 82 y_WM_isLevel) ∈ TB := tw_f (tw_t2 (List.mem_of_getElem? (i := 20) rfl)) rfl
set_option maxRecDepth 100000 in
theorem tw_23 : (.static y_WM_isLevel) ∈ TB := tw_f (tw_t2 (List.mem_of_getElem? (i := 21) rfl)) rfl
set_option maxRecDepth 100000 in
theorem tw_24 : (.fieldLink R_Rv 19 "WaterMen$River" "rows" "[[I") ∈ TB := tw_f (tw_t1 (List.mem_of_getElem? (i := 36) rfl)) rfl
set_option maxRecDepth 100000 in
theorem tw_25 : (.arrayClass .int) ∈ TB := tw_f (tw_t1 (List.mem_of_getElem? (i := 56) rfl)) rfl
set_option maxRecDepth 100000 in
theorem tw_26 : (.fieldLink R_Rv 15 "WaterMen$River" "table" "[I") ∈ TB := tw_f (tw_t1 (List.mem_of_getElem? (i := 34) rfl)) rfl
set_option maxRecDepth 100000 in
theorem tw_27 : (.code y_Rv_tell b_Rv_tell 6 none) ∈ TB := tw_f (tw_t2 (List.mem_of_getElem? (i := 26) rfl)) rfl
set_option maxRecDepth 100000 in
theorem tw_28 : (.methodLink R_WM 85 y_Rv_tell) ∈ TB := tw_f (tw_t2 (List.mem_of_getElem? (i := 23) rfl)) rfl
set_option maxRecDepth 100000 in
theorem tw_29 : (.instanceMethod y_Rv_tell) ∈ TB := tw_f (tw_t2 (List.mem_of_getElem? (i := 24) rfl)) rfl
set_option maxRecDepth 100000 in
theorem tw_30 : (.selects R_Rv y_Rv_tell y_Rv_tell) ∈ TB := tw_f (tw_t2 (List.mem_of_getElem? (i := 25) rfl)) rfl
set_option maxRecDepth 100000 in
theorem tw_31 : (.fieldLink R_WM 89 "WaterMen$River" "table" "[I") ∈ TB := tw_f (tw_t1 (List.mem_of_getElem? (i := 35) rfl)) rfl
set_option maxRecDepth 100000 in
theorem tw_32 : (.code y_Rv_height b_Rv_height 4 (some .int)) ∈ TB := tw_f (tw_t2 (List.mem_of_getElem? (i := 42) rfl)) rfl
set_option maxRecDepth 100000 in
theorem tw_33 : (.methodLink R_Rv 51 y_Rv_height) ∈ TB := tw_f (tw_t2 (List.mem_of_getElem? (i := 39) rfl)) rfl
set_option maxRecDepth 100000 in
theorem tw_34 : (.instanceMethod y_Rv_height) ∈ TB := tw_f (tw_t2 (List.mem_of_getElem? (i := 40) rfl)) rfl
set_option maxRecDepth 100000 in
theorem tw_35 : (.selects R_Rv y_Rv_height y_Rv_height) ∈ TB := tw_f (tw_t2 (List.mem_of_getElem? (i := 41) rfl)) rfl
set_option maxRecDepth 100000 in
theorem tw_36 : (.code y_Rv_flowIn b_Rv_flowIn 4 (some .int)) ∈ TB := tw_f (tw_t2 (List.mem_of_getElem? (i := 38) rfl)) rfl
set_option maxRecDepth 100000 in
theorem tw_37 : (.methodLink R_WM 93 y_Rv_flowIn) ∈ TB := tw_f (tw_t2 (List.mem_of_getElem? (i := 35) rfl)) rfl
set_option maxRecDepth 100000 in
theorem tw_38 : (.instanceMethod y_Rv_flowIn) ∈ TB := tw_f (tw_t2 (List.mem_of_getElem? (i := 36) rfl)) rfl
set_option maxRecDepth 100000 in
theorem tw_39 : (.selects R_Rv y_Rv_flowIn y_Rv_flowIn) ∈ TB := tw_f (tw_t2 (List.mem_of_getElem? (i := 37) rfl)) rfl
set_option maxRecDepth 100000 in
theorem tw_40 : (.fieldLink R_WM 155 "WaterMen" "now" "I") ∈ TB := tw_f (tw_t1 (List.mem_of_getElem? (i := 204) rfl)) rfl
set_option maxRecDepth 100000 in
theorem tw_41 : (.code y_WM_today b_WM_today 1 (some .int)) ∈ TB := tw_f (tw_t2 (List.mem_of_getElem? (i := 50) rfl)) rfl
set_option maxRecDepth 100000 in
theorem tw_42 : (.methodLink R_WM 97 y_WM_today) ∈ TB := tw_f (tw_t2 (List.mem_of_getElem? (i := 47) rfl)) rfl
set_option maxRecDepth 100000 in
theorem tw_43 : (.instanceMethod y_WM_today) ∈ TB := tw_f (tw_t2 (List.mem_of_getElem? (i := 49) rfl)) rfl
set_option maxRecDepth 100000 in
theorem tw_44 : (.selects R_WM y_WM_today y_WM_today) ∈ TB := tw_f (tw_s1 (List.mem_of_getElem? (i := 0) rfl)) rfl
set_option maxRecDepth 100000 in
theorem tw_45 : (.fieldLink R_Rv 23 "WaterMen$River" "frozen" "[Z") ∈ TB := tw_f (tw_t1 (List.mem_of_getElem? (i := 37) rfl)) rfl
set_option maxRecDepth 100000 in
theorem tw_46 : (.code y_Rv_isFrozen b_Rv_isFrozen 2 (some .boolean)) ∈ TB := tw_f (tw_t2 (List.mem_of_getElem? (i := 54) rfl)) rfl
set_option maxRecDepth 100000 in
theorem tw_47 : (.methodLink R_WM 100 y_Rv_isFrozen) ∈ TB := tw_f (tw_t2 (List.mem_of_getElem? (i := 51) rfl)) rfl
set_option maxRecDepth 100000 in
theorem tw_48 : (.instanceMethod y_Rv_isFrozen) ∈ TB := tw_f (tw_t2 (List.mem_of_getElem? (i := 52) rfl)) rfl
set_option maxRecDepth 100000 in
theorem tw_49 : (.selects R_Rv y_Rv_isFrozen y_Rv_isFrozen) ∈ TB := tw_f (tw_t2 (List.mem_of_getElem? (i := 53) rfl)) rfl
set_option maxRecDepth 100000 in
theorem tw_50 : (.fieldLink R_WM 103 "WaterMen$River" "frozen" "[Z") ∈ TB := tw_f (tw_t1 (List.mem_of_getElem? (i := 38) rfl)) rfl
set_option maxRecDepth 100000 in
theorem tw_51 : (.fieldLink R_WM 18 "WaterMen" "men" "[LWaterMen$Man;") ∈ TB := tw_f (tw_t1 (List.mem_of_getElem? (i := 195) rfl)) rfl
set_option maxRecDepth 100000 in
theorem tw_52 : (.code y_WM_manAt b_WM_manAt 2 (some (.object "WaterMen$Man"))) ∈ TB := tw_f (tw_t2 (List.mem_of_getElem? (i := 63) rfl)) rfl
set_option maxRecDepth 100000 in
theorem tw_53 : (.methodLink R_WM 107 y_WM_manAt) ∈ TB := tw_f (tw_t2 (List.mem_of_getElem? (i := 60) rfl)) rfl
set_option maxRecDepth 100000 in
theorem tw_54 : (.instanceMethod y_WM_manAt) ∈ TB := tw_f (tw_t2 (List.mem_of_getElem? (i := 62) rfl)) rfl
set_option maxRecDepth 100000 in
theorem tw_55 : (.selects R_WM y_WM_manAt y_WM_manAt) ∈ TB := tw_f (tw_s1 (List.mem_of_getElem? (i := 1) rfl)) rfl
set_option maxRecDepth 100000 in
theorem tw_56 : (.fieldLink R_WM 111 "WaterMen$Man" "state" "I") ∈ TB := tw_f (tw_t1 (List.mem_of_getElem? (i := 165) rfl)) rfl
set_option maxRecDepth 100000 in
theorem tw_57 : (.fieldLink R_WM 119 "WaterMen$Man" "bond" "LWaterMen$Bond;") ∈ TB := tw_f (tw_t1 (List.mem_of_getElem? (i := 166) rfl)) rfl
set_option maxRecDepth 100000 in
theorem tw_58 : (.code y_WM_served b_WM_served 4 (some .int)) ∈ TB := tw_f (tw_t2 (List.mem_of_getElem? (i := 108) rfl)) rfl
set_option maxRecDepth 100000 in
theorem tw_59 : (.methodLink R_WM 139 y_WM_served) ∈ TB := tw_f (tw_t2 (List.mem_of_getElem? (i := 120) rfl)) rfl
set_option maxRecDepth 100000 in
theorem tw_60 : (.instanceMethod y_WM_served) ∈ TB := tw_f (tw_t2 (List.mem_of_getElem? (i := 106) rfl)) rfl
set_option maxRecDepth 100000 in
theorem tw_61 : (.selects R_WM y_WM_served y_WM_served) ∈ TB := tw_f (tw_t2 (List.mem_of_getElem? (i := 107) rfl)) rfl
set_option maxRecDepth 100000 in
theorem tw_62 : (.fieldLink R_WM 145 "WaterMen$Man" "turnStairs" "I") ∈ TB := tw_f (tw_t1 (List.mem_of_getElem? (i := 168) rfl)) rfl
set_option maxRecDepth 100000 in
theorem tw_63 : (.code y_WM_placeInTurns b_WM_placeInTurns 5 (some .int)) ∈ TB := tw_f (tw_t2 (List.mem_of_getElem? (i := 128) rfl)) rfl
set_option maxRecDepth 100000 in
theorem tw_64 : (.methodLink R_WM 148 y_WM_placeInTurns) ∈ TB := tw_f (tw_t2 (List.mem_of_getElem? (i := 125) rfl)) rfl
set_option maxRecDepth 100000 in
theorem tw_65 : (.instanceMethod y_WM_placeInTurns) ∈ TB := tw_f (tw_t2 (List.mem_of_getElem? (i := 127) rfl)) rfl
set_option maxRecDepth 100000 in
theorem tw_66 : (.selects R_WM y_WM_placeInTurns y_WM_placeInTurns) ∈ TB := tw_f (tw_s1 (List.mem_of_getElem? (i := 2) rfl)) rfl
set_option maxRecDepth 100000 in
theorem tw_67 : (.fieldLink R_WM 152 "WaterMen$Man" "coins" "I") ∈ TB := tw_f (tw_t1 (List.mem_of_getElem? (i := 170) rfl)) rfl
set_option maxRecDepth 100000 in
theorem tw_68 : (.fieldLink R_Mn 21 "WaterMen$Man" "busyUntil" "I") ∈ TB := tw_f (tw_t1 (List.mem_of_getElem? (i := 171) rfl)) rfl
set_option maxRecDepth 100000 in
theorem tw_69 : (.code y_Mn_isOnWay b_Mn_isOnWay 2 (some .boolean)) ∈ TB := tw_f (tw_t2 (List.mem_of_getElem? (i := 132) rfl)) rfl
set_option maxRecDepth 100000 in
theorem tw_70 : (.initialized R_Mn) ∈ TB := tw_f (tw_t1 (List.mem_of_getElem? (i := 6) rfl)) rfl
set_option maxRecDepth 100000 in
theorem tw_71 : (.methodLink R_WM 158 y_Mn_isOnWay) ∈ TB := tw_f (tw_t2 (List.mem_of_getElem? (i := 129) rfl)) rfl
set_option maxRecDepth 100000 in
theorem tw_72 : (.instanceMethod y_Mn_isOnWay) ∈ TB := tw_f (tw_t2 (List.mem_of_getElem? (i := 130) rfl)) rfl
set_option maxRecDepth 100000 in
theorem tw_73 : (.selects R_Mn y_Mn_isOnWay y_Mn_isOnWay) ∈ TB := tw_f (tw_t2 (List.mem_of_getElem? (i := 131) rfl)) rfl
set_option maxRecDepth 100000 in
theorem tw_74 : (.fieldLink R_WM 161 "WaterMen$Man" "tripCount" "I") ∈ TB := tw_f (tw_t1 (List.mem_of_getElem? (i := 174) rfl)) rfl
set_option maxRecDepth 100000 in
theorem tw_75 : (.code y_WM_isOars b_WM_isOars 1 (some .boolean)) ∈ TB := tw_f (tw_t2 (List.mem_of_getElem? (i := 139) rfl)) rfl
set_option maxRecDepth 100000 in
theorem tw_76 : (.methodLink R_WM 164 y_WM_isOars) ∈ TB := tw_f (tw_t2 (List.mem_of_getElem? (i := 137) rfl)) rfl
set_option maxRecDepth 100000 in
theorem tw_77 : (.static y_WM_isOars) ∈ TB := tw_f (tw_t2 (List.mem_of_getElem? (i := 138) rfl)) rfl
set_option maxRecDepth 100000 in
theorem tw_78 : (.code y_Rv_hasStairs b_Rv_hasStairs 2 (some .boolean)) ∈ TB := tw_f (tw_t2 (List.mem_of_getElem? (i := 143) rfl)) rfl
set_option maxRecDepth 100000 in
theorem tw_79 : (.methodLink R_WM 167 y_Rv_hasStairs) ∈ TB := tw_f (tw_t2 (List.mem_of_getElem? (i := 140) rfl)) rfl
set_option maxRecDepth 100000 in
theorem tw_80 : (.instanceMethod y_Rv_hasStairs) ∈ TB := tw_f (tw_t2 (List.mem_of_getElem? (i := 141) rfl)) rfl
set_option maxRecDepth 100000 in
theorem tw_81 : (.selects R_Rv y_Rv_hasStairs y_Rv_hasStairs) ∈ TB := tw_f (tw_t2 (List.mem_of_getElem? (i := 142) rfl)) rfl
set_option maxRecDepth 100000 in
theorem tw_82 : (.fieldLink R_WM 170 "WaterMen" "boatCount" "I") ∈ TB := tw_f (tw_t1 (List.mem_of_getElem? (i := 201) rfl)) rfl
set_option maxRecDepth 100000 in
theorem tw_83 : (.code y_WM_boatAt b_WM_boatAt 2 (some (.object "WaterMen$Boat"))) ∈ TB := tw_f (tw_t2 (List.mem_of_getElem? (i := 181) rfl)) rfl
set_option maxRecDepth 100000 in
theorem tw_84 : (.methodLink R_WM 174 y_WM_boatAt) ∈ TB := tw_f (tw_t2 (List.mem_of_getElem? (i := 178) rfl)) rfl
set_option maxRecDepth 100000 in
theorem tw_85 : (.instanceMethod y_WM_boatAt) ∈ TB := tw_f (tw_t2 (List.mem_of_getElem? (i := 180) rfl)) rfl
set_option maxRecDepth 100000 in
theorem tw_86 : (.selects R_WM y_WM_boatAt y_WM_boatAt) ∈ TB := tw_f (tw_s1 (List.mem_of_getElem? (i := 3) rfl)) rfl
set_option maxRecDepth 100000 in
theorem tw_87 : (.fieldLink R_WM 43 "WaterMen" "tape" "LWaterMen$Tape;") ∈ TB := tw_f (tw_t1 (List.mem_of_getElem? (i := 199) rfl)) rfl
set_option maxRecDepth 100000 in
theorem tw_88 : (.fieldLink R_WM 207 "WaterMen$Tape" "length" "I") ∈ TB := tw_f (tw_t1 (List.mem_of_getElem? (i := 74) rfl)) rfl
set_option maxRecDepth 100000 in
theorem tw_89 : (.fieldLink R_WM 210 "WaterMen" "orderCount" "I") ∈ TB := tw_f (tw_t1 (List.mem_of_getElem? (i := 202) rfl)) rfl
set_option maxRecDepth 100000 in
theorem tw_90 : (.code y_WM_numberInForce b_WM_numberInForce 5 (some .int)) ∈ TB := tw_f (tw_t3 (List.mem_of_getElem? (i := 97) rfl)) rfl
set_option maxRecDepth 100000 in
theorem tw_91 : (.methodLink R_WM 223 y_WM_numberInForce) ∈ TB := tw_f (tw_t3 (List.mem_of_getElem? (i := 94) rfl)) rfl
set_option maxRecDepth 100000 in
theorem tw_92 : (.instanceMethod y_WM_numberInForce) ∈ TB := tw_f (tw_t3 (List.mem_of_getElem? (i := 96) rfl)) rfl
set_option maxRecDepth 100000 in
theorem tw_93 : (.selects R_WM y_WM_numberInForce y_WM_numberInForce) ∈ TB := tw_f (tw_s1 (List.mem_of_getElem? (i := 4) rfl)) rfl
set_option maxRecDepth 100000 in
theorem tw_94 : (.code y_WM_orderAt b_WM_orderAt 2 (some (.object "WaterMen$Order"))) ∈ TB := tw_f (tw_t3 (List.mem_of_getElem? (i := 101) rfl)) rfl
set_option maxRecDepth 100000 in
theorem tw_95 : (.methodLink R_WM 226 y_WM_orderAt) ∈ TB := tw_f (tw_t3 (List.mem_of_getElem? (i := 98) rfl)) rfl
set_option maxRecDepth 100000 in
theorem tw_96 : (.instanceMethod y_WM_orderAt) ∈ TB := tw_f (tw_t3 (List.mem_of_getElem? (i := 100) rfl)) rfl
set_option maxRecDepth 100000 in
theorem tw_97 : (.selects R_WM y_WM_orderAt y_WM_orderAt) ∈ TB := tw_f (tw_s1 (List.mem_of_getElem? (i := 5) rfl)) rfl
set_option maxRecDepth 100000 in
theorem tw_98 : (.fieldLink R_WM 243 "WaterMen" "tripCount" "I") ∈ TB := tw_f (tw_t1 (List.mem_of_getElem? (i := 203) rfl)) rfl
set_option maxRecDepth 100000 in
theorem tw_99 : (.code y_WM_tripAt b_WM_tripAt 2 (some (.object "WaterMen$Trip"))) ∈ TB := tw_f (tw_t4 (List.mem_of_getElem? (i := 32) rfl)) rfl
set_option maxRecDepth 100000 in
theorem tw_100 : (.methodLink R_WM 293 y_WM_tripAt) ∈ TB := tw_f (tw_t4 (List.mem_of_getElem? (i := 29) rfl)) rfl
set_option maxRecDepth 100000 in
theorem tw_101 : (.instanceMethod y_WM_tripAt) ∈ TB := tw_f (tw_t4 (List.mem_of_getElem? (i := 31) rfl)) rfl
set_option maxRecDepth 100000 in
theorem tw_102 : (.selects R_WM y_WM_tripAt y_WM_tripAt) ∈ TB := tw_f (tw_s1 (List.mem_of_getElem? (i := 15) rfl)) rfl
set_option maxRecDepth 100000 in
theorem tw_103 : (.fieldLink R_WM 50 "WaterMen" "box" "LWaterMen$Box;") ∈ TB := tw_f (tw_t1 (List.mem_of_getElem? (i := 200) rfl)) rfl
set_option maxRecDepth 100000 in
theorem tw_104 : (.methodLink R_Bx 51 Lib.Math.max.name) ∈ TB := tw_f (tw_t4 (List.mem_of_getElem? (i := 89) rfl)) rfl
set_option maxRecDepth 100000 in
theorem tw_105 : (.static Lib.Math.max.name) ∈ TB := tw_f (tw_t3 (List.mem_of_getElem? (i := 143) rfl)) rfl
set_option maxRecDepth 100000 in
theorem tw_106 : (.initialized "java/lang/Math") ∈ TB := tw_f (tw_t1 (List.mem_of_getElem? (i := 9) rfl)) rfl
set_option maxRecDepth 100000 in
theorem tw_107 : (.code Lib.Math.max.name Lib.Math.max.code 2 (some .int)) ∈ TB := tw_f (tw_t3 (List.mem_of_getElem? (i := 144) rfl)) rfl
set_option maxRecDepth 100000 in
theorem tw_108 : (.fieldLink R_Bx 9 "WaterMen$Box" "income" "[I") ∈ TB := tw_f (tw_t1 (List.mem_of_getElem? (i := 107) rfl)) rfl
set_option maxRecDepth 100000 in
theorem tw_109 : (.fieldLink R_Bx 21 "WaterMen$Box" "coins" "I") ∈ TB := tw_f (tw_t1 (List.mem_of_getElem? (i := 101) rfl)) rfl
set_option maxRecDepth 100000 in
theorem tw_110 : (.fieldLink R_Bx 29 "WaterMen$Box" "pensionerCount" "I") ∈ TB := tw_f (tw_t1 (List.mem_of_getElem? (i := 109) rfl)) rfl
set_option maxRecDepth 100000 in
theorem tw_111 : (.code y_Bx_owedOn b_Bx_owedOn 5 (some .int)) ∈ TB := tw_f (tw_t4 (List.mem_of_getElem? (i := 93) rfl)) rfl
set_option maxRecDepth 100000 in
theorem tw_112 : (.initialized R_Bx) ∈ TB := tw_f (tw_t1 (List.mem_of_getElem? (i := 4) rfl)) rfl
set_option maxRecDepth 100000 in
theorem tw_113 : (.methodLink R_Bx 57 y_Bx_owedOn) ∈ TB := tw_f (tw_t4 (List.mem_of_getElem? (i := 90) rfl)) rfl
set_option maxRecDepth 100000 in
theorem tw_114 : (.instanceMethod y_Bx_owedOn) ∈ TB := tw_f (tw_t4 (List.mem_of_getElem? (i := 91) rfl)) rfl
set_option maxRecDepth 100000 in
theorem tw_115 : (.selects R_Bx y_Bx_owedOn y_Bx_owedOn) ∈ TB := tw_f (tw_t4 (List.mem_of_getElem? (i := 92) rfl)) rfl
set_option maxRecDepth 100000 in
theorem tw_116 : (.code y_Bx_firstShortDay b_Bx_firstShortDay 8 (some .int)) ∈ TB := tw_f (tw_t4 (List.mem_of_getElem? (i := 88) rfl)) rfl
set_option maxRecDepth 100000 in
theorem tw_117 : (.methodLink R_WM 322 y_Bx_firstShortDay) ∈ TB := tw_f (tw_t4 (List.mem_of_getElem? (i := 85) rfl)) rfl
set_option maxRecDepth 100000 in
theorem tw_118 : (.instanceMethod y_Bx_firstShortDay) ∈ TB := tw_f (tw_t4 (List.mem_of_getElem? (i := 86) rfl)) rfl
set_option maxRecDepth 100000 in
theorem tw_119 : (.selects R_Bx y_Bx_firstShortDay y_Bx_firstShortDay) ∈ TB := tw_f (tw_t4 (List.mem_of_getElem? (i := 87) rfl)) rfl
set_option maxRecDepth 100000 in
theorem tw_120 : (.code y_Bx_pensionerAt b_Bx_pensionerAt 2 (some (.object "WaterMen$Pensioner"))) ∈ TB := tw_f (tw_t4 (List.mem_of_getElem? (i := 21) rfl)) rfl
set_option maxRecDepth 100000 in
theorem tw_121 : (.methodLink R_WM 325 y_Bx_pensionerAt) ∈ TB := tw_f (tw_t4 (List.mem_of_getElem? (i := 98) rfl)) rfl
set_option maxRecDepth 100000 in
theorem tw_122 : (.instanceMethod y_Bx_pensionerAt) ∈ TB := tw_f (tw_t4 (List.mem_of_getElem? (i := 19) rfl)) rfl
set_option maxRecDepth 100000 in
theorem tw_123 : (.selects R_Bx y_Bx_pensionerAt y_Bx_pensionerAt) ∈ TB := tw_f (tw_t4 (List.mem_of_getElem? (i := 20) rfl)) rfl
set_option maxRecDepth 100000 in
theorem tw_124 : (.code y_WM_menThatAre b_WM_menThatAre 5 (some .int)) ∈ TB := tw_f (tw_t4 (List.mem_of_getElem? (i := 106) rfl)) rfl
set_option maxRecDepth 100000 in
theorem tw_125 : (.methodLink R_WM 340 y_WM_menThatAre) ∈ TB := tw_f (tw_t4 (List.mem_of_getElem? (i := 103) rfl)) rfl
set_option maxRecDepth 100000 in
theorem tw_126 : (.instanceMethod y_WM_menThatAre) ∈ TB := tw_f (tw_t4 (List.mem_of_getElem? (i := 105) rfl)) rfl
set_option maxRecDepth 100000 in
theorem tw_127 : (.selects R_WM y_WM_menThatAre y_WM_menThatAre) ∈ TB := tw_f (tw_s2 (List.mem_of_getElem? (i := 2) rfl)) rfl
set_option maxRecDepth 100000 in
theorem tw_128 : (.fieldLink R_WM 280 "WaterMen$Box" "pensionerCount" "I") ∈ TB := tw_f (tw_t1 (List.mem_of_getElem? (i := 110) rfl)) rfl
set_option maxRecDepth 100000 in
theorem tw_129 : (.fieldLink R_WM 343 "WaterMen$Box" "coins" "I") ∈ TB := tw_f (tw_t1 (List.mem_of_getElem? (i := 102) rfl)) rfl
set_option maxRecDepth 100000 in
theorem tw_130 : (.fieldLink R_WM 344 "WaterMen$Box" "pot" "I") ∈ TB := tw_f (tw_t1 (List.mem_of_getElem? (i := 103) rfl)) rfl
set_option maxRecDepth 100000 in
theorem tw_131 : (.code y_WM_coinsOfMen b_WM_coinsOfMen 4 (some .int)) ∈ TB := tw_f (tw_t4 (List.mem_of_getElem? (i := 114) rfl)) rfl
set_option maxRecDepth 100000 in
theorem tw_132 : (.methodLink R_WM 347 y_WM_coinsOfMen) ∈ TB := tw_f (tw_t4 (List.mem_of_getElem? (i := 111) rfl)) rfl
set_option maxRecDepth 100000 in
theorem tw_133 : (.instanceMethod y_WM_coinsOfMen) ∈ TB := tw_f (tw_t4 (List.mem_of_getElem? (i := 113) rfl)) rfl
set_option maxRecDepth 100000 in
theorem tw_134 : (.selects R_WM y_WM_coinsOfMen y_WM_coinsOfMen) ∈ TB := tw_f (tw_s2 (List.mem_of_getElem? (i := 3) rfl)) rfl
set_option maxRecDepth 100000 in
theorem tw_135 : (.fieldLink R_WM 350 "WaterMen$Box" "allPaid" "I") ∈ TB := tw_f (tw_t1 (List.mem_of_getElem? (i := 104) rfl)) rfl
set_option maxRecDepth 100000 in
theorem tw_136 : (.fieldLink R_WM 353 "WaterMen$Box" "allPensions" "I") ∈ TB := tw_f (tw_t1 (List.mem_of_getElem? (i := 106) rfl)) rfl
set_option maxRecDepth 100000 in
theorem tw_137 : (.code y_Md_in b_Md_in 3 (some .boolean)) ∈ TB := tw_f (tw_t4 (List.mem_of_getElem? (i := 121) rfl)) rfl
set_option maxRecDepth 100000 in
theorem tw_138 : (.initialized R_Md) ∈ TB := tw_f (tw_t1 (List.mem_of_getElem? (i := 7) rfl)) rfl
set_option maxRecDepth 100000 in
theorem tw_139 : (.methodLink R_Md 10 y_Md_in) ∈ TB := tw_f (tw_t4 (List.mem_of_getElem? (i := 119) rfl)) rfl
set_option maxRecDepth 100000 in
theorem tw_140 : (.static y_Md_in) ∈ TB := tw_f (tw_t4 (List.mem_of_getElem? (i := 120) rfl)) rfl
set_option maxRecDepth 100000 in
theorem tw_141 : (.fieldLink R_Md 14 "WaterMenModel" "stairs" "I") ∈ TB := tw_f (tw_t4 (List.mem_of_getElem? (i := 164) rfl)) rfl
set_option maxRecDepth 100000 in
theorem tw_142 : (.fieldLink R_Md 32 "WaterMenModel" "miles" "[I") ∈ TB := tw_f (tw_t4 (List.mem_of_getElem? (i := 165) rfl)) rfl
set_option maxRecDepth 100000 in
theorem tw_143 : (.fieldLink R_Md 35 "WaterMenModel" "bridge" "I") ∈ TB := tw_f (tw_t4 (List.mem_of_getElem? (i := 166) rfl)) rfl
set_option maxRecDepth 100000 in
theorem tw_144 : (.fieldLink R_Md 25 "WaterMenModel" "table" "[I") ∈ TB := tw_f (tw_t4 (List.mem_of_getElem? (i := 167) rfl)) rfl
set_option maxRecDepth 100000 in
theorem tw_145 : (.code y_Md_isDay b_Md_isDay 1 (some .boolean)) ∈ TB := tw_f (tw_t4 (List.mem_of_getElem? (i := 132) rfl)) rfl
set_option maxRecDepth 100000 in
theorem tw_146 : (.methodLink R_Md 38 y_Md_isDay) ∈ TB := tw_f (tw_t4 (List.mem_of_getElem? (i := 130) rfl)) rfl
set_option maxRecDepth 100000 in
theorem tw_147 : (.static y_Md_isDay) ∈ TB := tw_f (tw_t4 (List.mem_of_getElem? (i := 131) rfl)) rfl
set_option maxRecDepth 100000 in
theorem tw_148 : (.fieldLink R_Md 17 "WaterMenModel" "hasRow" "[Z") ∈ TB := tw_f (tw_t4 (List.mem_of_getElem? (i := 168) rfl)) rfl
set_option maxRecDepth 100000 in
theorem tw_149 : (.code y_Md_levelOf b_Md_levelOf 3 (some .int)) ∈ TB := tw_f (tw_t4 (List.mem_of_getElem? (i := 149) rfl)) rfl
set_option maxRecDepth 100000 in
theorem tw_150 : (.methodLink R_Md 28 y_Md_levelOf) ∈ TB := tw_f (tw_t4 (List.mem_of_getElem? (i := 146) rfl)) rfl
set_option maxRecDepth 100000 in
theorem tw_151 : (.instanceMethod y_Md_levelOf) ∈ TB := tw_f (tw_t4 (List.mem_of_getElem? (i := 148) rfl)) rfl
set_option maxRecDepth 100000 in
theorem tw_152 : (.selects R_Md y_Md_levelOf y_Md_levelOf) ∈ TB := tw_f (tw_s2 (List.mem_of_getElem? (i := 5) rfl)) rfl
set_option maxRecDepth 100000 in
theorem tw_153 : (.code y_Md_flowOf b_Md_flowOf 3 (some .int)) ∈ TB := tw_f (tw_t4 (List.mem_of_getElem? (i := 145) rfl)) rfl
set_option maxRecDepth 100000 in
theorem tw_154 : (.methodLink R_Md 42 y_Md_flowOf) ∈ TB := tw_f (tw_t4 (List.mem_of_getElem? (i := 141) rfl)) rfl
set_option maxRecDepth 100000 in
theorem tw_155 : (.instanceMethod y_Md_flowOf) ∈ TB := tw_f (tw_t4 (List.mem_of_getElem? (i := 143) rfl)) rfl
set_option maxRecDepth 100000 in
theorem tw_156 : (.selects R_Md y_Md_flowOf y_Md_flowOf) ∈ TB := tw_f (tw_s2 (List.mem_of_getElem? (i := 4) rfl)) rfl
set_option maxRecDepth 100000 in
theorem tw_157 : (.fieldLink R_Md 7 "WaterMenModel" "time" "I") ∈ TB := tw_f (tw_t4 (List.mem_of_getElem? (i := 163) rfl)) rfl
set_option maxRecDepth 100000 in
theorem tw_158 : (.code y_Md_today b_Md_today 1 (some .int)) ∈ TB := tw_f (tw_t4 (List.mem_of_getElem? (i := 157) rfl)) rfl
set_option maxRecDepth 100000 in
theorem tw_159 : (.methodLink R_Md 45 y_Md_today) ∈ TB := tw_f (tw_t4 (List.mem_of_getElem? (i := 154) rfl)) rfl
set_option maxRecDepth 100000 in
theorem tw_160 : (.instanceMethod y_Md_today) ∈ TB := tw_f (tw_t4 (List.mem_of_getElem? (i := 156) rfl)) rfl
set_option maxRecDepth 100000 in
theorem tw_161 : (.selects R_Md y_Md_today y_Md_today) ∈ TB := tw_f (tw_s2 (List.mem_of_getElem? (i := 6) rfl)) rfl
set_option maxRecDepth 100000 in
theorem tw_162 : (.fieldLink R_Md 49 "WaterMenModel" "frosts" "[Z") ∈ TB := tw_f (tw_t4 (List.mem_of_getElem? (i := 170) rfl)) rfl
set_option maxRecDepth 100000 in
theorem tw_163 : (.code y_Md_isMan b_Md_isMan 1 (some .boolean)) ∈ TB := tw_f (tw_t5 (List.mem_of_getElem? (i := 122) rfl)) rfl
set_option maxRecDepth 100000 in
theorem tw_164 : (.methodLink R_Md 186 y_Md_isMan) ∈ TB := tw_f (tw_t5 (List.mem_of_getElem? (i := 120) rfl)) rfl
set_option maxRecDepth 100000 in
theorem tw_165 : (.static y_Md_isMan) ∈ TB := tw_f (tw_t5 (List.mem_of_getElem? (i := 121) rfl)) rfl
set_option maxRecDepth 100000 in
theorem tw_166 : (.fieldLink R_Md 58 "WaterMenModel" "state" "[I") ∈ TB := tw_f (tw_t4 (List.mem_of_getElem? (i := 171) rfl)) rfl
set_option maxRecDepth 100000 in
theorem tw_167 : (.fieldLink R_Md 61 "WaterMenModel" "master" "[I") ∈ TB := tw_f (tw_t4 (List.mem_of_getElem? (i := 172) rfl)) rfl
set_option maxRecDepth 100000 in
theorem tw_168 : (.code y_Md_rowOf b_Md_rowOf 4 (some .int)) ∈ TB := tw_f (tw_t5 (List.mem_of_getElem? (i := 150) rfl)) rfl
set_option maxRecDepth 100000 in
theorem tw_169 : (.methodLink R_Md 193 y_Md_rowOf) ∈ TB := tw_f (tw_t5 (List.mem_of_getElem? (i := 147) rfl)) rfl
set_option maxRecDepth 100000 in
theorem tw_170 : (.instanceMethod y_Md_rowOf) ∈ TB := tw_f (tw_t5 (List.mem_of_getElem? (i := 149) rfl)) rfl
set_option maxRecDepth 100000 in
theorem tw_171 : (.selects R_Md y_Md_rowOf y_Md_rowOf) ∈ TB := tw_f (tw_s2 (List.mem_of_getElem? (i := 8) rfl)) rfl
set_option maxRecDepth 100000 in
theorem tw_172 : (.code y_Md_placeOf b_Md_placeOf 4 (some .int)) ∈ TB := tw_f (tw_t5 (List.mem_of_getElem? (i := 154) rfl)) rfl
set_option maxRecDepth 100000 in
theorem tw_173 : (.methodLink R_Md 196 y_Md_placeOf) ∈ TB := tw_f (tw_t5 (List.mem_of_getElem? (i := 151) rfl)) rfl
set_option maxRecDepth 100000 in
theorem tw_174 : (.instanceMethod y_Md_placeOf) ∈ TB := tw_f (tw_t5 (List.mem_of_getElem? (i := 153) rfl)) rfl
set_option maxRecDepth 100000 in
theorem tw_175 : (.selects R_Md y_Md_placeOf y_Md_placeOf) ∈ TB := tw_f (tw_s2 (List.mem_of_getElem? (i := 9) rfl)) rfl
set_option maxRecDepth 100000 in
theorem tw_176 : (.fieldLink R_Md 76 "WaterMenModel" "coins" "[I") ∈ TB := tw_f (tw_t4 (List.mem_of_getElem? (i := 177) rfl)) rfl
set_option maxRecDepth 100000 in
theorem tw_177 : (.fieldLink R_Md 79 "WaterMenModel" "wayOf" "[I") ∈ TB := tw_f (tw_t4 (List.mem_of_getElem? (i := 178) rfl)) rfl
set_option maxRecDepth 100000 in
theorem tw_178 : (.fieldLink R_Md 82 "WaterMenModel" "tripsOf" "[I") ∈ TB := tw_f (tw_t4 (List.mem_of_getElem? (i := 179) rfl)) rfl
set_option maxRecDepth 100000 in
theorem tw_179 : (.code y_Md_isStairs b_Md_isStairs 2 (some .boolean)) ∈ TB := tw_f (tw_t5 (List.mem_of_getElem? (i := 162) rfl)) rfl
set_option maxRecDepth 100000 in
theorem tw_180 : (.methodLink R_Md 199 y_Md_isStairs) ∈ TB := tw_f (tw_t5 (List.mem_of_getElem? (i := 159) rfl)) rfl
set_option maxRecDepth 100000 in
theorem tw_181 : (.instanceMethod y_Md_isStairs) ∈ TB := tw_f (tw_t5 (List.mem_of_getElem? (i := 161) rfl)) rfl
set_option maxRecDepth 100000 in
theorem tw_182 : (.selects R_Md y_Md_isStairs y_Md_isStairs) ∈ TB := tw_f (tw_s2 (List.mem_of_getElem? (i := 10) rfl)) rfl
set_option maxRecDepth 100000 in
theorem tw_183 : (.fieldLink R_Md 206 "WaterMenModel" "boats" "I") ∈ TB := tw_f (tw_t4 (List.mem_of_getElem? (i := 183) rfl)) rfl
set_option maxRecDepth 100000 in
theorem tw_184 : (.code y_Md_isBoat b_Md_isBoat 2 (some .boolean)) ∈ TB := tw_f (tw_t5 (List.mem_of_getElem? (i := 182) rfl)) rfl
set_option maxRecDepth 100000 in
theorem tw_185 : (.methodLink R_Md 209 y_Md_isBoat) ∈ TB := tw_f (tw_t5 (List.mem_of_getElem? (i := 179) rfl)) rfl
set_option maxRecDepth 100000 in
theorem tw_186 : (.instanceMethod y_Md_isBoat) ∈ TB := tw_f (tw_t5 (List.mem_of_getElem? (i := 181) rfl)) rfl
set_option maxRecDepth 100000 in
theorem tw_187 : (.selects R_Md y_Md_isBoat y_Md_isBoat) ∈ TB := tw_f (tw_s2 (List.mem_of_getElem? (i := 12) rfl)) rfl
set_option maxRecDepth 100000 in
theorem tw_188 : (.fieldLink R_Md 212 "WaterMenModel" "taped" "I") ∈ TB := tw_f (tw_t4 (List.mem_of_getElem? (i := 190) rfl)) rfl
set_option maxRecDepth 100000 in
theorem tw_189 : (.fieldLink R_Md 275 "WaterMenModel" "orders" "I") ∈ TB := tw_f (tw_t4 (List.mem_of_getElem? (i := 191) rfl)) rfl
set_option maxRecDepth 100000 in
theorem tw_190 : (.code y_Md_forceOn b_Md_forceOn 4 (some .int)) ∈ TB := tw_f (tw_t6 (List.mem_of_getElem? (i := 0) rfl)) rfl
set_option maxRecDepth 100000 in
theorem tw_191 : (.methodLink R_Md 281 y_Md_forceOn) ∈ TB := tw_f (tw_t5 (List.mem_of_getElem? (i := 237) rfl)) rfl
set_option maxRecDepth 100000 in
theorem tw_192 : (.instanceMethod y_Md_forceOn) ∈ TB := tw_f (tw_t5 (List.mem_of_getElem? (i := 239) rfl)) rfl
set_option maxRecDepth 100000 in
theorem tw_193 : (.selects R_Md y_Md_forceOn y_Md_forceOn) ∈ TB := tw_f (tw_s3 (List.mem_of_getElem? (i := 1) rfl)) rfl
set_option maxRecDepth 100000 in
theorem tw_194 : (.code y_Md_isAsked b_Md_isAsked 4 (some .boolean)) ∈ TB := tw_f (tw_t6 (List.mem_of_getElem? (i := 26) rfl)) rfl
set_option maxRecDepth 100000 in
theorem tw_195 : (.methodLink R_Md 306 y_Md_isAsked) ∈ TB := tw_f (tw_t6 (List.mem_of_getElem? (i := 23) rfl)) rfl
set_option maxRecDepth 100000 in
theorem tw_196 : (.instanceMethod y_Md_isAsked) ∈ TB := tw_f (tw_t6 (List.mem_of_getElem? (i := 25) rfl)) rfl
set_option maxRecDepth 100000 in
theorem tw_197 : (.selects R_Md y_Md_isAsked y_Md_isAsked) ∈ TB := tw_f (tw_s3 (List.mem_of_getElem? (i := 4) rfl)) rfl
set_option maxRecDepth 100000 in
theorem tw_198 : (.fieldLink R_Md 313 "WaterMenModel" "trips" "I") ∈ TB := tw_f (tw_t4 (List.mem_of_getElem? (i := 209) rfl)) rfl
set_option maxRecDepth 100000 in
theorem tw_199 : (.code y_Md_isPension b_Md_isPension 2 (some .boolean)) ∈ TB := tw_f (tw_t6 (List.mem_of_getElem? (i := 66) rfl)) rfl
set_option maxRecDepth 100000 in
theorem tw_200 : (.methodLink R_Md 338 y_Md_isPension) ∈ TB := tw_f (tw_t6 (List.mem_of_getElem? (i := 64) rfl)) rfl
set_option maxRecDepth 100000 in
theorem tw_201 : (.static y_Md_isPension) ∈ TB := tw_f (tw_t6 (List.mem_of_getElem? (i := 65) rfl)) rfl
set_option maxRecDepth 100000 in
theorem tw_202 : (.fieldLink R_Md 323 "WaterMenModel" "pensioners" "I") ∈ TB := tw_f (tw_t4 (List.mem_of_getElem? (i := 222) rfl)) rfl
set_option maxRecDepth 100000 in
theorem tw_203 : (.fieldLink R_Md 177 "WaterMenModel" "pensionOf" "[I") ∈ TB := tw_f (tw_t4 (List.mem_of_getElem? (i := 223) rfl)) rfl
set_option maxRecDepth 100000 in
theorem tw_204 : (.fieldLink R_Md 180 "WaterMenModel" "pensionEnd" "[I") ∈ TB := tw_f (tw_t4 (List.mem_of_getElem? (i := 224) rfl)) rfl
set_option maxRecDepth 100000 in
theorem tw_205 : (.code y_Md_newPensioner b_Md_newPensioner 3 (some .int)) ∈ TB := tw_f (tw_t6 (List.mem_of_getElem? (i := 70) rfl)) rfl
set_option maxRecDepth 100000 in
theorem tw_206 : (.methodLink R_Md 342 y_Md_newPensioner) ∈ TB := tw_f (tw_t6 (List.mem_of_getElem? (i := 67) rfl)) rfl
set_option maxRecDepth 100000 in
theorem tw_207 : (.instanceMethod y_Md_newPensioner) ∈ TB := tw_f (tw_t6 (List.mem_of_getElem? (i := 69) rfl)) rfl
set_option maxRecDepth 100000 in
theorem tw_208 : (.selects R_Md y_Md_newPensioner y_Md_newPensioner) ∈ TB := tw_f (tw_s3 (List.mem_of_getElem? (i := 11) rfl)) rfl
set_option maxRecDepth 100000 in
theorem tw_209 : (.fieldLink R_Md 173 "WaterMenModel" "boxIn" "[J") ∈ TB := tw_f (tw_t4 (List.mem_of_getElem? (i := 221) rfl)) rfl
set_option maxRecDepth 100000 in
theorem tw_210 : (.fieldLink R_Md 316 "WaterMenModel" "box" "J") ∈ TB := tw_f (tw_t4 (List.mem_of_getElem? (i := 218) rfl)) rfl
set_option maxRecDepth 100000 in
theorem tw_211 : (.code y_Md_menAs b_Md_menAs 4 (some .int)) ∈ TB := tw_f (tw_t6 (List.mem_of_getElem? (i := 106) rfl)) rfl
set_option maxRecDepth 100000 in
theorem tw_212 : (.methodLink R_Md 348 y_Md_menAs) ∈ TB := tw_f (tw_t6 (List.mem_of_getElem? (i := 103) rfl)) rfl
set_option maxRecDepth 100000 in
theorem tw_213 : (.instanceMethod y_Md_menAs) ∈ TB := tw_f (tw_t6 (List.mem_of_getElem? (i := 105) rfl)) rfl
set_option maxRecDepth 100000 in
theorem tw_214 : (.selects R_Md y_Md_menAs y_Md_menAs) ∈ TB := tw_f (tw_s3 (List.mem_of_getElem? (i := 13) rfl)) rfl
set_option maxRecDepth 100000 in
theorem tw_215 : (.fieldLink R_Md 320 "WaterMenModel" "pot" "J") ∈ TB := tw_f (tw_t4 (List.mem_of_getElem? (i := 219) rfl)) rfl
set_option maxRecDepth 100000 in
theorem tw_216 : (.fieldLink R_Md 326 "WaterMenModel" "paidOut" "J") ∈ TB := tw_f (tw_t4 (List.mem_of_getElem? (i := 220) rfl)) rfl
end
section
set_option maxRecDepth 100000 in
theorem d_Bx_firstShortDay_0 : decode b_Bx_firstShortDay 0 = .ok (.lconst 0, 1) := by decide +kernel
set_option maxRecDepth 100000 in
theorem d_Bx_firstShortDay_1 : decode b_Bx_firstShortDay 1 = .ok (.lstore_n 2, 1) := by decide +kernel
set_option maxRecDepth 100000 in
theorem d_Bx_firstShortDay_2 : decode b_Bx_firstShortDay 2 = .ok (.iconst 0, 1) := by decide +kernel
set_option maxRecDepth 100000 in
theorem d_Bx_firstShortDay_3 : decode b_Bx_firstShortDay 3 = .ok (.iload_n 1, 1) := by decide +kernel
set_option maxRecDepth 100000 in
theorem d_Bx_firstShortDay_4 : decode b_Bx_firstShortDay 4 = .ok (.bipush 100, 2) := by decide +kernel
set_option maxRecDepth 100000 in
theorem d_Bx_firstShortDay_6 : decode b_Bx_firstShortDay 6 = .ok (.isub, 1) := by decide +kernel
set_option maxRecDepth 100000 in
theorem d_Bx_firstShortDay_7 : decode b_Bx_firstShortDay 7 = .ok (.invokestatic 51, 3) := by decide +kernel
set_option maxRecDepth 100000 in
theorem d_Bx_firstShortDay_10 : decode b_Bx_firstShortDay 10 = .ok (.istore 4, 2) := by decide +kernel
set_option maxRecDepth 100000 in
theorem d_Bx_firstShortDay_12 : decode b_Bx_firstShortDay 12 = .ok (.iload 4, 2) := by decide +kernel
set_option maxRecDepth 100000 in
theorem d_Bx_firstShortDay_14 : decode b_Bx_firstShortDay 14 = .ok (.iload_n 1, 1) := by decide +kernel
set_option maxRecDepth 100000 in
theorem d_Bx_firstShortDay_15 : decode b_Bx_firstShortDay 15 = .ok (.if_icmp .gt 20, 3) := by decide +kernel
set_option maxRecDepth 100000 in
theorem d_Bx_firstShortDay_18 : decode b_Bx_firstShortDay 18 = .ok (.lload_n 2, 1) := by decide +kernel
set_option maxRecDepth 100000 in
theorem d_Bx_firstShortDay_19 : decode b_Bx_firstShortDay 19 = .ok (.aload_n 0, 1) := by decide +kernel
set_option maxRecDepth 100000 in
theorem d_Bx_firstShortDay_20 : decode b_Bx_firstShortDay 20 = .ok (.getfield 9, 3) := by decide +kernel
set_option maxRecDepth 100000 in
theorem d_Bx_firstShortDay_23 : decode b_Bx_firstShortDay 23 = .ok (.iload 4, 2) := by decide +kernel
set_option maxRecDepth 100000 in
theorem d_Bx_firstShortDay_25 : decode b_Bx_firstShortDay 25 = .ok (.iaload, 1) := by decide +kernel
set_option maxRecDepth 100000 in
theorem d_Bx_firstShortDay_26 : decode b_Bx_firstShortDay 26 = .ok (.i2l, 1) := by decide +kernel
set_option maxRecDepth 100000 in
theorem d_Bx_firstShortDay_27 : decode b_Bx_firstShortDay 27 = .ok (.ladd, 1) := by decide +kernel
set_option maxRecDepth 100000 in
theorem d_Bx_firstShortDay_28 : decode b_Bx_firstShortDay 28 = .ok (.lstore_n 2, 1) := by decide +kernel
set_option maxRecDepth 100000 in
theorem d_Bx_firstShortDay_29 : decode b_Bx_firstShortDay 29 = .ok (.iinc 4 1, 3) := by decide +kernel
set_option maxRecDepth 100000 in
theorem d_Bx_firstShortDay_32 : decode b_Bx_firstShortDay 32 = .ok (.goto (-20), 3) := by decide +kernel
set_option maxRecDepth 100000 in
theorem d_Bx_firstShortDay_35 : decode b_Bx_firstShortDay 35 = .ok (.aload_n 0, 1) := by decide +kernel
set_option maxRecDepth 100000 in
theorem d_Bx_firstShortDay_36 : decode b_Bx_firstShortDay 36 = .ok (.getfield 21, 3) := by decide +kernel
set_option maxRecDepth 100000 in
theorem d_Bx_firstShortDay_39 : decode b_Bx_firstShortDay 39 = .ok (.i2l, 1) := by decide +kernel
set_option maxRecDepth 100000 in
theorem d_Bx_firstShortDay_40 : decode b_Bx_firstShortDay 40 = .ok (.lstore 4, 2) := by decide +kernel
set_option maxRecDepth 100000 in
theorem d_Bx_firstShortDay_42 : decode b_Bx_firstShortDay 42 = .ok (.iload_n 1, 1) := by decide +kernel
set_option maxRecDepth 100000 in
theorem d_Bx_firstShortDay_43 : decode b_Bx_firstShortDay 43 = .ok (.iload_n 1, 1) := by decide +kernel
set_option maxRecDepth 100000 in
theorem d_Bx_firstShortDay_44 : decode b_Bx_firstShortDay 44 = .ok (.bipush 100, 2) := by decide +kernel
set_option maxRecDepth 100000 in
theorem d_Bx_firstShortDay_46 : decode b_Bx_firstShortDay 46 = .ok (.irem, 1) := by decide +kernel
set_option maxRecDepth 100000 in
theorem d_Bx_firstShortDay_47 : decode b_Bx_firstShortDay 47 = .ok (.isub, 1) := by decide +kernel
set_option maxRecDepth 100000 in
theorem d_Bx_firstShortDay_48 : decode b_Bx_firstShortDay 48 = .ok (.istore 6, 2) := by decide +kernel
set_option maxRecDepth 100000 in
theorem d_Bx_firstShortDay_50 : decode b_Bx_firstShortDay 50 = .ok (.iconst 0, 1) := by decide +kernel
set_option maxRecDepth 100000 in
theorem d_Bx_firstShortDay_51 : decode b_Bx_firstShortDay 51 = .ok (.istore 7, 2) := by decide +kernel
set_option maxRecDepth 100000 in
theorem d_Bx_firstShortDay_53 : decode b_Bx_firstShortDay 53 = .ok (.iload 7, 2) := by decide +kernel
set_option maxRecDepth 100000 in
theorem d_Bx_firstShortDay_55 : decode b_Bx_firstShortDay 55 = .ok (.bipush 40, 2) := by decide +kernel
set_option maxRecDepth 100000 in
theorem d_Bx_firstShortDay_57 : decode b_Bx_firstShortDay 57 = .ok (.if_icmp .ge 36, 3) := by decide +kernel
set_option maxRecDepth 100000 in
theorem d_Bx_firstShortDay_60 : decode b_Bx_firstShortDay 60 = .ok (.iinc 6 100, 3) := by decide +kernel
set_option maxRecDepth 100000 in
theorem d_Bx_firstShortDay_63 : decode b_Bx_firstShortDay 63 = .ok (.lload 4, 2) := by decide +kernel
set_option maxRecDepth 100000 in
theorem d_Bx_firstShortDay_65 : decode b_Bx_firstShortDay 65 = .ok (.lload_n 2, 1) := by decide +kernel
set_option maxRecDepth 100000 in
theorem d_Bx_firstShortDay_66 : decode b_Bx_firstShortDay 66 = .ok (.aload_n 0, 1) := by decide +kernel
set_option maxRecDepth 100000 in
theorem d_Bx_firstShortDay_67 : decode b_Bx_firstShortDay 67 = .ok (.iload 6, 2) := by decide +kernel
set_option maxRecDepth 100000 in
theorem d_Bx_firstShortDay_69 : decode b_Bx_firstShortDay 69 = .ok (.invokevirtual 57, 3) := by decide +kernel
set_option maxRecDepth 100000 in
theorem d_Bx_firstShortDay_72 : decode b_Bx_firstShortDay 72 = .ok (.i2l, 1) := by decide +kernel
set_option maxRecDepth 100000 in
theorem d_Bx_firstShortDay_73 : decode b_Bx_firstShortDay 73 = .ok (.lsub, 1) := by decide +kernel
set_option maxRecDepth 100000 in
theorem d_Bx_firstShortDay_74 : decode b_Bx_firstShortDay 74 = .ok (.ladd, 1) := by decide +kernel
set_option maxRecDepth 100000 in
theorem d_Bx_firstShortDay_75 : decode b_Bx_firstShortDay 75 = .ok (.lstore 4, 2) := by decide +kernel
set_option maxRecDepth 100000 in
theorem d_Bx_firstShortDay_77 : decode b_Bx_firstShortDay 77 = .ok (.lload 4, 2) := by decide +kernel
set_option maxRecDepth 100000 in
theorem d_Bx_firstShortDay_79 : decode b_Bx_firstShortDay 79 = .ok (.lconst 0, 1) := by decide +kernel
set_option maxRecDepth 100000 in
theorem d_Bx_firstShortDay_80 : decode b_Bx_firstShortDay 80 = .ok (.lcmp, 1) := by decide +kernel
set_option maxRecDepth 100000 in
theorem d_Bx_firstShortDay_81 : decode b_Bx_firstShortDay 81 = .ok (.ifCond .ge 6, 3) := by decide +kernel
set_option maxRecDepth 100000 in
theorem d_Bx_firstShortDay_87 : decode b_Bx_firstShortDay 87 = .ok (.iinc 7 1, 3) := by decide +kernel
set_option maxRecDepth 100000 in
theorem d_Bx_firstShortDay_90 : decode b_Bx_firstShortDay 90 = .ok (.goto (-37), 3) := by decide +kernel
set_option maxRecDepth 100000 in
theorem d_Bx_firstShortDay_93 : decode b_Bx_firstShortDay 93 = .ok (.iconst (-1), 1) := by decide +kernel
set_option maxRecDepth 100000 in
theorem d_Bx_firstShortDay_94 : decode b_Bx_firstShortDay 94 = .ok (.ireturn, 1) := by decide +kernel
set_option maxRecDepth 100000 in
theorem d_Bx_owedOn_0 : decode b_Bx_owedOn 0 = .ok (.iconst 0, 1) := by decide +kernel
set_option maxRecDepth 100000 in
theorem d_Bx_owedOn_1 : decode b_Bx_owedOn 1 = .ok (.istore_n 2, 1) := by decide +kernel
set_option maxRecDepth 100000 in
theorem d_Bx_owedOn_2 : decode b_Bx_owedOn 2 = .ok (.iconst 0, 1) := by decide +kernel
set_option maxRecDepth 100000 in
theorem d_Bx_owedOn_3 : decode b_Bx_owedOn 3 = .ok (.istore_n 3, 1) := by decide +kernel
set_option maxRecDepth 100000 in
theorem d_Bx_owedOn_4 : decode b_Bx_owedOn 4 = .ok (.iload_n 3, 1) := by decide +kernel
set_option maxRecDepth 100000 in
theorem d_Bx_owedOn_5 : decode b_Bx_owedOn 5 = .ok (.aload_n 0, 1) := by decide +kernel
set_option maxRecDepth 100000 in
theorem d_Bx_owedOn_6 : decode b_Bx_owedOn 6 = .ok (.getfield 29, 3) := by decide +kernel
set_option maxRecDepth 100000 in
theorem d_Bx_owedOn_9 : decode b_Bx_owedOn 9 = .ok (.if_icmp .ge 38, 3) := by decide +kernel
set_option maxRecDepth 100000 in
theorem d_Bx_owedOn_47 : decode b_Bx_owedOn 47 = .ok (.iload_n 2, 1) := by decide +kernel
set_option maxRecDepth 100000 in
theorem d_Bx_owedOn_48 : decode b_Bx_owedOn 48 = .ok (.ireturn, 1) := by decide +kernel
set_option maxRecDepth 100000 in
theorem d_Bx_pensionerAt_0 : decode b_Bx_pensionerAt 0 = .ok (.iload_n 1, 1) := by decide +kernel
set_option maxRecDepth 100000 in
theorem d_Bx_pensionerAt_1 : decode b_Bx_pensionerAt 1 = .ok (.ifCond .lt 20, 3) := by decide +kernel
set_option maxRecDepth 100000 in
theorem d_Bx_pensionerAt_4 : decode b_Bx_pensionerAt 4 = .ok (.iload_n 1, 1) := by decide +kernel
set_option maxRecDepth 100000 in
theorem d_Bx_pensionerAt_5 : decode b_Bx_pensionerAt 5 = .ok (.aload_n 0, 1) := by decide +kernel
set_option maxRecDepth 100000 in
theorem d_Bx_pensionerAt_6 : decode b_Bx_pensionerAt 6 = .ok (.getfield 29, 3) := by decide +kernel
set_option maxRecDepth 100000 in
theorem d_Bx_pensionerAt_9 : decode b_Bx_pensionerAt 9 = .ok (.if_icmp .ge 12, 3) := by decide +kernel
set_option maxRecDepth 100000 in
theorem d_Bx_pensionerAt_21 : decode b_Bx_pensionerAt 21 = .ok (.aconst_null, 1) := by decide +kernel
set_option maxRecDepth 100000 in
theorem d_Bx_pensionerAt_22 : decode b_Bx_pensionerAt 22 = .ok (.areturn, 1) := by decide +kernel
set_option maxRecDepth 100000 in
theorem d_Md_absent_0 : decode b_Md_absent 0 = .ok (.iload_n 1, 1) := by decide +kernel
set_option maxRecDepth 100000 in
theorem d_Md_absent_1 : decode b_Md_absent 1 = .ok (.invokestatic 186, 3) := by decide +kernel
set_option maxRecDepth 100000 in
theorem d_Md_absent_4 : decode b_Md_absent 4 = .ok (.ifCond .eq 20, 3) := by decide +kernel
set_option maxRecDepth 100000 in
theorem d_Md_absent_7 : decode b_Md_absent 7 = .ok (.iload_n 2, 1) := by decide +kernel
set_option maxRecDepth 100000 in
theorem d_Md_absent_8 : decode b_Md_absent 8 = .ok (.ifCond .lt 16, 3) := by decide +kernel
set_option maxRecDepth 100000 in
theorem d_Md_absent_11 : decode b_Md_absent 11 = .ok (.iload_n 2, 1) := by decide +kernel
set_option maxRecDepth 100000 in
theorem d_Md_absent_12 : decode b_Md_absent 12 = .ok (.iload_n 3, 1) := by decide +kernel
set_option maxRecDepth 100000 in
theorem d_Md_absent_13 : decode b_Md_absent 13 = .ok (.if_icmp .gt 11, 3) := by decide +kernel
set_option maxRecDepth 100000 in
theorem d_Md_absent_16 : decode b_Md_absent 16 = .ok (.iload_n 3, 1) := by decide +kernel
set_option maxRecDepth 100000 in
theorem d_Md_absent_17 : decode b_Md_absent 17 = .ok (.aload_n 0, 1) := by decide +kernel
set_option maxRecDepth 100000 in
theorem d_Md_absent_18 : decode b_Md_absent 18 = .ok (.invokevirtual 45, 3) := by decide +kernel
set_option maxRecDepth 100000 in
theorem d_Md_absent_21 : decode b_Md_absent 21 = .ok (.if_icmp .le 5, 3) := by decide +kernel
set_option maxRecDepth 100000 in
theorem d_Md_absent_24 : decode b_Md_absent 24 = .ok (.iconst (-1), 1) := by decide +kernel
set_option maxRecDepth 100000 in
theorem d_Md_absent_25 : decode b_Md_absent 25 = .ok (.ireturn, 1) := by decide +kernel
set_option maxRecDepth 100000 in
theorem d_Md_absent_26 : decode b_Md_absent 26 = .ok (.aload_n 0, 1) := by decide +kernel
set_option maxRecDepth 100000 in
theorem d_Md_absent_27 : decode b_Md_absent 27 = .ok (.getfield 58, 3) := by decide +kernel
set_option maxRecDepth 100000 in
theorem d_Md_absent_30 : decode b_Md_absent 30 = .ok (.iload_n 1, 1) := by decide +kernel
set_option maxRecDepth 100000 in
theorem d_Md_absent_31 : decode b_Md_absent 31 = .ok (.iaload, 1) := by decide +kernel
set_option maxRecDepth 100000 in
theorem d_Md_absent_32 : decode b_Md_absent 32 = .ok (.iconst 1, 1) := by decide +kernel
set_option maxRecDepth 100000 in
theorem d_Md_absent_33 : decode b_Md_absent 33 = .ok (.if_icmp .eq 6, 3) := by decide +kernel
set_option maxRecDepth 100000 in
theorem d_Md_absent_36 : decode b_Md_absent 36 = .ok (.bipush (-2), 2) := by decide +kernel
set_option maxRecDepth 100000 in
theorem d_Md_absent_38 : decode b_Md_absent 38 = .ok (.ireturn, 1) := by decide +kernel
set_option maxRecDepth 100000 in
theorem d_Md_bind_0 : decode b_Md_bind 0 = .ok (.iload_n 1, 1) := by decide +kernel
set_option maxRecDepth 100000 in
theorem d_Md_bind_1 : decode b_Md_bind 1 = .ok (.invokestatic 186, 3) := by decide +kernel
set_option maxRecDepth 100000 in
theorem d_Md_bind_4 : decode b_Md_bind 4 = .ok (.ifCond .eq 10, 3) := by decide +kernel
set_option maxRecDepth 100000 in
theorem d_Md_bind_7 : decode b_Md_bind 7 = .ok (.iload_n 2, 1) := by decide +kernel
set_option maxRecDepth 100000 in
theorem d_Md_bind_8 : decode b_Md_bind 8 = .ok (.invokestatic 186, 3) := by decide +kernel
set_option maxRecDepth 100000 in
theorem d_Md_bind_11 : decode b_Md_bind 11 = .ok (.ifCond .ne 5, 3) := by decide +kernel
set_option maxRecDepth 100000 in
theorem d_Md_bind_14 : decode b_Md_bind 14 = .ok (.iconst (-1), 1) := by decide +kernel
set_option maxRecDepth 100000 in
theorem d_Md_bind_15 : decode b_Md_bind 15 = .ok (.ireturn, 1) := by decide +kernel
set_option maxRecDepth 100000 in
theorem d_Md_bind_16 : decode b_Md_bind 16 = .ok (.aload_n 0, 1) := by decide +kernel
set_option maxRecDepth 100000 in
theorem d_Md_bind_17 : decode b_Md_bind 17 = .ok (.getfield 58, 3) := by decide +kernel
set_option maxRecDepth 100000 in
theorem d_Md_bind_20 : decode b_Md_bind 20 = .ok (.iload_n 1, 1) := by decide +kernel
set_option maxRecDepth 100000 in
theorem d_Md_bind_21 : decode b_Md_bind 21 = .ok (.iaload, 1) := by decide +kernel
set_option maxRecDepth 100000 in
theorem d_Md_bind_22 : decode b_Md_bind 22 = .ok (.ifCond .ne 13, 3) := by decide +kernel
set_option maxRecDepth 100000 in
theorem d_Md_bind_25 : decode b_Md_bind 25 = .ok (.aload_n 0, 1) := by decide +kernel
set_option maxRecDepth 100000 in
theorem d_Md_bind_26 : decode b_Md_bind 26 = .ok (.getfield 58, 3) := by decide +kernel
set_option maxRecDepth 100000 in
theorem d_Md_bind_29 : decode b_Md_bind 29 = .ok (.iload_n 2, 1) := by decide +kernel
set_option maxRecDepth 100000 in
theorem d_Md_bind_30 : decode b_Md_bind 30 = .ok (.iaload, 1) := by decide +kernel
set_option maxRecDepth 100000 in
theorem d_Md_bind_31 : decode b_Md_bind 31 = .ok (.iconst 2, 1) := by decide +kernel
set_option maxRecDepth 100000 in
theorem d_Md_bind_32 : decode b_Md_bind 32 = .ok (.if_icmp .eq 6, 3) := by decide +kernel
set_option maxRecDepth 100000 in
theorem d_Md_bind_35 : decode b_Md_bind 35 = .ok (.bipush (-2), 2) := by decide +kernel
set_option maxRecDepth 100000 in
theorem d_Md_bind_37 : decode b_Md_bind 37 = .ok (.ireturn, 1) := by decide +kernel
set_option maxRecDepth 100000 in
theorem d_Md_boat_0 : decode b_Md_boat 0 = .ok (.iload_n 1, 1) := by decide +kernel
set_option maxRecDepth 100000 in
theorem d_Md_boat_1 : decode b_Md_boat 1 = .ok (.iconst 1, 1) := by decide +kernel
set_option maxRecDepth 100000 in
theorem d_Md_boat_2 : decode b_Md_boat 2 = .ok (.iconst 2, 1) := by decide +kernel
set_option maxRecDepth 100000 in
theorem d_Md_boat_3 : decode b_Md_boat 3 = .ok (.invokestatic 10, 3) := by decide +kernel
set_option maxRecDepth 100000 in
theorem d_Md_boat_6 : decode b_Md_boat 6 = .ok (.ifCond .eq 11, 3) := by decide +kernel
set_option maxRecDepth 100000 in
theorem d_Md_boat_9 : decode b_Md_boat 9 = .ok (.aload_n 0, 1) := by decide +kernel
set_option maxRecDepth 100000 in
theorem d_Md_boat_10 : decode b_Md_boat 10 = .ok (.iload_n 2, 1) := by decide +kernel
set_option maxRecDepth 100000 in
theorem d_Md_boat_11 : decode b_Md_boat 11 = .ok (.invokevirtual 199, 3) := by decide +kernel
set_option maxRecDepth 100000 in
theorem d_Md_boat_14 : decode b_Md_boat 14 = .ok (.ifCond .ne 5, 3) := by decide +kernel
set_option maxRecDepth 100000 in
theorem d_Md_boat_17 : decode b_Md_boat 17 = .ok (.iconst (-1), 1) := by decide +kernel
set_option maxRecDepth 100000 in
theorem d_Md_boat_18 : decode b_Md_boat 18 = .ok (.ireturn, 1) := by decide +kernel
set_option maxRecDepth 100000 in
theorem d_Md_bridge_0 : decode b_Md_bridge 0 = .ok (.iload_n 1, 1) := by decide +kernel
set_option maxRecDepth 100000 in
theorem d_Md_bridge_1 : decode b_Md_bridge 1 = .ok (.iconst (-1), 1) := by decide +kernel
set_option maxRecDepth 100000 in
theorem d_Md_bridge_2 : decode b_Md_bridge 2 = .ok (.if_icmp .eq 19, 3) := by decide +kernel
set_option maxRecDepth 100000 in
theorem d_Md_bridge_5 : decode b_Md_bridge 5 = .ok (.iload_n 1, 1) := by decide +kernel
set_option maxRecDepth 100000 in
theorem d_Md_bridge_6 : decode b_Md_bridge 6 = .ok (.iconst 0, 1) := by decide +kernel
set_option maxRecDepth 100000 in
theorem d_Md_bridge_7 : decode b_Md_bridge 7 = .ok (.aload_n 0, 1) := by decide +kernel
set_option maxRecDepth 100000 in
theorem d_Md_bridge_8 : decode b_Md_bridge 8 = .ok (.getfield 14, 3) := by decide +kernel
set_option maxRecDepth 100000 in
theorem d_Md_bridge_11 : decode b_Md_bridge 11 = .ok (.iconst 2, 1) := by decide +kernel
set_option maxRecDepth 100000 in
theorem d_Md_bridge_12 : decode b_Md_bridge 12 = .ok (.isub, 1) := by decide +kernel
set_option maxRecDepth 100000 in
theorem d_Md_bridge_13 : decode b_Md_bridge 13 = .ok (.invokestatic 10, 3) := by decide +kernel
set_option maxRecDepth 100000 in
theorem d_Md_bridge_16 : decode b_Md_bridge 16 = .ok (.ifCond .ne 5, 3) := by decide +kernel
set_option maxRecDepth 100000 in
theorem d_Md_bridge_19 : decode b_Md_bridge 19 = .ok (.iconst (-1), 1) := by decide +kernel
set_option maxRecDepth 100000 in
theorem d_Md_bridge_20 : decode b_Md_bridge 20 = .ok (.ireturn, 1) := by decide +kernel
set_option maxRecDepth 100000 in
theorem d_Md_bridge_21 : decode b_Md_bridge 21 = .ok (.aload_n 0, 1) := by decide +kernel
set_option maxRecDepth 100000 in
theorem d_Md_bridge_22 : decode b_Md_bridge 22 = .ok (.iload_n 1, 1) := by decide +kernel
set_option maxRecDepth 100000 in
theorem d_Md_bridge_23 : decode b_Md_bridge 23 = .ok (.putfield 35, 3) := by decide +kernel
set_option maxRecDepth 100000 in
theorem d_Md_bridge_26 : decode b_Md_bridge 26 = .ok (.iconst 1, 1) := by decide +kernel
set_option maxRecDepth 100000 in
theorem d_Md_bridge_27 : decode b_Md_bridge 27 = .ok (.ireturn, 1) := by decide +kernel
set_option maxRecDepth 100000 in
theorem d_Md_coins_0 : decode b_Md_coins 0 = .ok (.lconst 0, 1) := by decide +kernel
set_option maxRecDepth 100000 in
theorem d_Md_coins_1 : decode b_Md_coins 1 = .ok (.lstore_n 2, 1) := by decide +kernel
set_option maxRecDepth 100000 in
theorem d_Md_coins_2 : decode b_Md_coins 2 = .ok (.iload_n 1, 1) := by decide +kernel
set_option maxRecDepth 100000 in
theorem d_Md_coins_3 : decode b_Md_coins 3 = .ok (.tableswitch 113 0 4 #[33, 39, 45, 75, 107], 33) := by decide +kernel
set_option maxRecDepth 100000 in
theorem d_Md_coins_36 : decode b_Md_coins 36 = .ok (.aload_n 0, 1) := by decide +kernel
set_option maxRecDepth 100000 in
theorem d_Md_coins_37 : decode b_Md_coins 37 = .ok (.getfield 316, 3) := by decide +kernel
set_option maxRecDepth 100000 in
theorem d_Md_coins_40 : decode b_Md_coins 40 = .ok (.l2i, 1) := by decide +kernel
set_option maxRecDepth 100000 in
theorem d_Md_coins_41 : decode b_Md_coins 41 = .ok (.ireturn, 1) := by decide +kernel
set_option maxRecDepth 100000 in
theorem d_Md_coins_42 : decode b_Md_coins 42 = .ok (.aload_n 0, 1) := by decide +kernel
set_option maxRecDepth 100000 in
theorem d_Md_coins_43 : decode b_Md_coins 43 = .ok (.getfield 320, 3) := by decide +kernel
set_option maxRecDepth 100000 in
theorem d_Md_coins_46 : decode b_Md_coins 46 = .ok (.l2i, 1) := by decide +kernel
set_option maxRecDepth 100000 in
theorem d_Md_coins_47 : decode b_Md_coins 47 = .ok (.ireturn, 1) := by decide +kernel
set_option maxRecDepth 100000 in
theorem d_Md_coins_48 : decode b_Md_coins 48 = .ok (.iconst 0, 1) := by decide +kernel
set_option maxRecDepth 100000 in
theorem d_Md_coins_49 : decode b_Md_coins 49 = .ok (.istore 4, 2) := by decide +kernel
set_option maxRecDepth 100000 in
theorem d_Md_coins_51 : decode b_Md_coins 51 = .ok (.iload 4, 2) := by decide +kernel
set_option maxRecDepth 100000 in
theorem d_Md_coins_53 : decode b_Md_coins 53 = .ok (.bipush 40, 2) := by decide +kernel
set_option maxRecDepth 100000 in
theorem d_Md_coins_55 : decode b_Md_coins 55 = .ok (.if_icmp .ge 20, 3) := by decide +kernel
set_option maxRecDepth 100000 in
theorem d_Md_coins_58 : decode b_Md_coins 58 = .ok (.lload_n 2, 1) := by decide +kernel
set_option maxRecDepth 100000 in
theorem d_Md_coins_59 : decode b_Md_coins 59 = .ok (.aload_n 0, 1) := by decide +kernel
set_option maxRecDepth 100000 in
theorem d_Md_coins_60 : decode b_Md_coins 60 = .ok (.getfield 76, 3) := by decide +kernel
set_option maxRecDepth 100000 in
theorem d_Md_coins_63 : decode b_Md_coins 63 = .ok (.iload 4, 2) := by decide +kernel
set_option maxRecDepth 100000 in
theorem d_Md_coins_65 : decode b_Md_coins 65 = .ok (.iaload, 1) := by decide +kernel
set_option maxRecDepth 100000 in
theorem d_Md_coins_66 : decode b_Md_coins 66 = .ok (.i2l, 1) := by decide +kernel
set_option maxRecDepth 100000 in
theorem d_Md_coins_67 : decode b_Md_coins 67 = .ok (.ladd, 1) := by decide +kernel
set_option maxRecDepth 100000 in
theorem d_Md_coins_68 : decode b_Md_coins 68 = .ok (.lstore_n 2, 1) := by decide +kernel
set_option maxRecDepth 100000 in
theorem d_Md_coins_69 : decode b_Md_coins 69 = .ok (.iinc 4 1, 3) := by decide +kernel
set_option maxRecDepth 100000 in
theorem d_Md_coins_72 : decode b_Md_coins 72 = .ok (.goto (-21), 3) := by decide +kernel
set_option maxRecDepth 100000 in
theorem d_Md_coins_75 : decode b_Md_coins 75 = .ok (.lload_n 2, 1) := by decide +kernel
set_option maxRecDepth 100000 in
theorem d_Md_coins_76 : decode b_Md_coins 76 = .ok (.l2i, 1) := by decide +kernel
set_option maxRecDepth 100000 in
theorem d_Md_coins_77 : decode b_Md_coins 77 = .ok (.ireturn, 1) := by decide +kernel
set_option maxRecDepth 100000 in
theorem d_Md_coins_78 : decode b_Md_coins 78 = .ok (.iconst 0, 1) := by decide +kernel
set_option maxRecDepth 100000 in
theorem d_Md_coins_79 : decode b_Md_coins 79 = .ok (.istore 4, 2) := by decide +kernel
set_option maxRecDepth 100000 in
theorem d_Md_coins_81 : decode b_Md_coins 81 = .ok (.iload 4, 2) := by decide +kernel
set_option maxRecDepth 100000 in
theorem d_Md_coins_83 : decode b_Md_coins 83 = .ok (.aload_n 0, 1) := by decide +kernel
set_option maxRecDepth 100000 in
theorem d_Md_coins_84 : decode b_Md_coins 84 = .ok (.getfield 313, 3) := by decide +kernel
set_option maxRecDepth 100000 in
theorem d_Md_coins_87 : decode b_Md_coins 87 = .ok (.if_icmp .ge 20, 3) := by decide +kernel
set_option maxRecDepth 100000 in
theorem d_Md_coins_107 : decode b_Md_coins 107 = .ok (.lload_n 2, 1) := by decide +kernel
set_option maxRecDepth 100000 in
theorem d_Md_coins_108 : decode b_Md_coins 108 = .ok (.l2i, 1) := by decide +kernel
set_option maxRecDepth 100000 in
theorem d_Md_coins_109 : decode b_Md_coins 109 = .ok (.ireturn, 1) := by decide +kernel
set_option maxRecDepth 100000 in
theorem d_Md_coins_110 : decode b_Md_coins 110 = .ok (.aload_n 0, 1) := by decide +kernel
set_option maxRecDepth 100000 in
theorem d_Md_coins_111 : decode b_Md_coins 111 = .ok (.getfield 326, 3) := by decide +kernel
set_option maxRecDepth 100000 in
theorem d_Md_coins_114 : decode b_Md_coins 114 = .ok (.l2i, 1) := by decide +kernel
set_option maxRecDepth 100000 in
theorem d_Md_coins_115 : decode b_Md_coins 115 = .ok (.ireturn, 1) := by decide +kernel
set_option maxRecDepth 100000 in
theorem d_Md_coins_116 : decode b_Md_coins 116 = .ok (.iconst (-1), 1) := by decide +kernel
set_option maxRecDepth 100000 in
theorem d_Md_coins_117 : decode b_Md_coins 117 = .ok (.ireturn, 1) := by decide +kernel
set_option maxRecDepth 100000 in
theorem d_Md_count_0 : decode b_Md_count 0 = .ok (.iload_n 1, 1) := by decide +kernel
set_option maxRecDepth 100000 in
theorem d_Md_count_1 : decode b_Md_count 1 = .ok (.tableswitch 108 0 9 #[55, 60, 65, 70, 75, 80, 86, 92, 98, 103], 55) := by decide +kernel
set_option maxRecDepth 100000 in
theorem d_Md_count_56 : decode b_Md_count 56 = .ok (.aload_n 0, 1) := by decide +kernel
set_option maxRecDepth 100000 in
theorem d_Md_count_57 : decode b_Md_count 57 = .ok (.getfield 14, 3) := by decide +kernel
set_option maxRecDepth 100000 in
theorem d_Md_count_60 : decode b_Md_count 60 = .ok (.ireturn, 1) := by decide +kernel
set_option maxRecDepth 100000 in
theorem d_Md_count_61 : decode b_Md_count 61 = .ok (.aload_n 0, 1) := by decide +kernel
set_option maxRecDepth 100000 in
theorem d_Md_count_62 : decode b_Md_count 62 = .ok (.getfield 206, 3) := by decide +kernel
set_option maxRecDepth 100000 in
theorem d_Md_count_65 : decode b_Md_count 65 = .ok (.ireturn, 1) := by decide +kernel
set_option maxRecDepth 100000 in
theorem d_Md_count_66 : decode b_Md_count 66 = .ok (.aload_n 0, 1) := by decide +kernel
set_option maxRecDepth 100000 in
theorem d_Md_count_67 : decode b_Md_count 67 = .ok (.getfield 313, 3) := by decide +kernel
set_option maxRecDepth 100000 in
theorem d_Md_count_70 : decode b_Md_count 70 = .ok (.ireturn, 1) := by decide +kernel
set_option maxRecDepth 100000 in
theorem d_Md_count_71 : decode b_Md_count 71 = .ok (.aload_n 0, 1) := by decide +kernel
set_option maxRecDepth 100000 in
theorem d_Md_count_72 : decode b_Md_count 72 = .ok (.getfield 275, 3) := by decide +kernel
set_option maxRecDepth 100000 in
theorem d_Md_count_75 : decode b_Md_count 75 = .ok (.ireturn, 1) := by decide +kernel
set_option maxRecDepth 100000 in
theorem d_Md_count_76 : decode b_Md_count 76 = .ok (.aload_n 0, 1) := by decide +kernel
set_option maxRecDepth 100000 in
theorem d_Md_count_77 : decode b_Md_count 77 = .ok (.getfield 7, 3) := by decide +kernel
set_option maxRecDepth 100000 in
theorem d_Md_count_80 : decode b_Md_count 80 = .ok (.ireturn, 1) := by decide +kernel
set_option maxRecDepth 100000 in
theorem d_Md_count_81 : decode b_Md_count 81 = .ok (.aload_n 0, 1) := by decide +kernel
set_option maxRecDepth 100000 in
theorem d_Md_count_82 : decode b_Md_count 82 = .ok (.iconst 2, 1) := by decide +kernel
set_option maxRecDepth 100000 in
theorem d_Md_count_83 : decode b_Md_count 83 = .ok (.invokevirtual 348, 3) := by decide +kernel
set_option maxRecDepth 100000 in
theorem d_Md_count_86 : decode b_Md_count 86 = .ok (.ireturn, 1) := by decide +kernel
set_option maxRecDepth 100000 in
theorem d_Md_count_87 : decode b_Md_count 87 = .ok (.aload_n 0, 1) := by decide +kernel
set_option maxRecDepth 100000 in
theorem d_Md_count_88 : decode b_Md_count 88 = .ok (.iconst 1, 1) := by decide +kernel
set_option maxRecDepth 100000 in
theorem d_Md_count_89 : decode b_Md_count 89 = .ok (.invokevirtual 348, 3) := by decide +kernel
set_option maxRecDepth 100000 in
theorem d_Md_count_92 : decode b_Md_count 92 = .ok (.ireturn, 1) := by decide +kernel
set_option maxRecDepth 100000 in
theorem d_Md_count_93 : decode b_Md_count 93 = .ok (.aload_n 0, 1) := by decide +kernel
set_option maxRecDepth 100000 in
theorem d_Md_count_94 : decode b_Md_count 94 = .ok (.iconst 3, 1) := by decide +kernel
set_option maxRecDepth 100000 in
theorem d_Md_count_95 : decode b_Md_count 95 = .ok (.invokevirtual 348, 3) := by decide +kernel
set_option maxRecDepth 100000 in
theorem d_Md_count_98 : decode b_Md_count 98 = .ok (.ireturn, 1) := by decide +kernel
set_option maxRecDepth 100000 in
theorem d_Md_count_99 : decode b_Md_count 99 = .ok (.aload_n 0, 1) := by decide +kernel
set_option maxRecDepth 100000 in
theorem d_Md_count_100 : decode b_Md_count 100 = .ok (.getfield 323, 3) := by decide +kernel
set_option maxRecDepth 100000 in
theorem d_Md_count_103 : decode b_Md_count 103 = .ok (.ireturn, 1) := by decide +kernel
set_option maxRecDepth 100000 in
theorem d_Md_count_104 : decode b_Md_count 104 = .ok (.aload_n 0, 1) := by decide +kernel
set_option maxRecDepth 100000 in
theorem d_Md_count_105 : decode b_Md_count 105 = .ok (.getfield 212, 3) := by decide +kernel
set_option maxRecDepth 100000 in
theorem d_Md_count_108 : decode b_Md_count 108 = .ok (.ireturn, 1) := by decide +kernel
set_option maxRecDepth 100000 in
theorem d_Md_count_109 : decode b_Md_count 109 = .ok (.iconst (-1), 1) := by decide +kernel
set_option maxRecDepth 100000 in
theorem d_Md_count_110 : decode b_Md_count 110 = .ok (.ireturn, 1) := by decide +kernel
set_option maxRecDepth 100000 in
theorem d_Md_craft_0 : decode b_Md_craft 0 = .ok (.aload_n 0, 1) := by decide +kernel
set_option maxRecDepth 100000 in
theorem d_Md_craft_1 : decode b_Md_craft 1 = .ok (.iload_n 1, 1) := by decide +kernel
set_option maxRecDepth 100000 in
theorem d_Md_craft_2 : decode b_Md_craft 2 = .ok (.invokevirtual 209, 3) := by decide +kernel
set_option maxRecDepth 100000 in
theorem d_Md_craft_5 : decode b_Md_craft 5 = .ok (.ifCond .ne 5, 3) := by decide +kernel
set_option maxRecDepth 100000 in
theorem d_Md_craft_8 : decode b_Md_craft 8 = .ok (.iconst (-1), 1) := by decide +kernel
set_option maxRecDepth 100000 in
theorem d_Md_craft_9 : decode b_Md_craft 9 = .ok (.ireturn, 1) := by decide +kernel
set_option maxRecDepth 100000 in
theorem d_Md_due_0 : decode b_Md_due 0 = .ok (.iload_n 1, 1) := by decide +kernel
set_option maxRecDepth 100000 in
theorem d_Md_due_1 : decode b_Md_due 1 = .ok (.iconst 0, 1) := by decide +kernel
set_option maxRecDepth 100000 in
theorem d_Md_due_2 : decode b_Md_due 2 = .ok (.aload_n 0, 1) := by decide +kernel
set_option maxRecDepth 100000 in
theorem d_Md_due_3 : decode b_Md_due 3 = .ok (.getfield 313, 3) := by decide +kernel
set_option maxRecDepth 100000 in
theorem d_Md_due_6 : decode b_Md_due 6 = .ok (.iconst 1, 1) := by decide +kernel
set_option maxRecDepth 100000 in
theorem d_Md_due_7 : decode b_Md_due 7 = .ok (.isub, 1) := by decide +kernel
set_option maxRecDepth 100000 in
theorem d_Md_due_8 : decode b_Md_due 8 = .ok (.invokestatic 10, 3) := by decide +kernel
set_option maxRecDepth 100000 in
theorem d_Md_due_11 : decode b_Md_due 11 = .ok (.ifCond .eq 19, 3) := by decide +kernel
set_option maxRecDepth 100000 in
theorem d_Md_due_30 : decode b_Md_due 30 = .ok (.bipush (-2), 2) := by decide +kernel
set_option maxRecDepth 100000 in
theorem d_Md_due_32 : decode b_Md_due 32 = .ok (.ireturn, 1) := by decide +kernel
set_option maxRecDepth 100000 in
theorem d_Md_end_0 : decode b_Md_end 0 = .ok (.iload_n 1, 1) := by decide +kernel
set_option maxRecDepth 100000 in
theorem d_Md_end_1 : decode b_Md_end 1 = .ok (.iconst 0, 1) := by decide +kernel
set_option maxRecDepth 100000 in
theorem d_Md_end_2 : decode b_Md_end 2 = .ok (.aload_n 0, 1) := by decide +kernel
set_option maxRecDepth 100000 in
theorem d_Md_end_3 : decode b_Md_end 3 = .ok (.getfield 212, 3) := by decide +kernel
set_option maxRecDepth 100000 in
theorem d_Md_end_6 : decode b_Md_end 6 = .ok (.invokestatic 10, 3) := by decide +kernel
set_option maxRecDepth 100000 in
theorem d_Md_end_9 : decode b_Md_end 9 = .ok (.ifCond .ne 5, 3) := by decide +kernel
set_option maxRecDepth 100000 in
theorem d_Md_end_12 : decode b_Md_end 12 = .ok (.iconst (-1), 1) := by decide +kernel
set_option maxRecDepth 100000 in
theorem d_Md_end_13 : decode b_Md_end 13 = .ok (.ireturn, 1) := by decide +kernel
set_option maxRecDepth 100000 in
theorem d_Md_end_14 : decode b_Md_end 14 = .ok (.aload_n 0, 1) := by decide +kernel
set_option maxRecDepth 100000 in
theorem d_Md_end_15 : decode b_Md_end 15 = .ok (.iload_n 1, 1) := by decide +kernel
set_option maxRecDepth 100000 in
theorem d_Md_end_16 : decode b_Md_end 16 = .ok (.putfield 212, 3) := by decide +kernel
set_option maxRecDepth 100000 in
theorem d_Md_end_19 : decode b_Md_end 19 = .ok (.iload_n 1, 1) := by decide +kernel
set_option maxRecDepth 100000 in
theorem d_Md_end_20 : decode b_Md_end 20 = .ok (.ireturn, 1) := by decide +kernel
set_option maxRecDepth 100000 in
theorem d_Md_fare_0 : decode b_Md_fare 0 = .ok (.iload_n 1, 1) := by decide +kernel
set_option maxRecDepth 100000 in
theorem d_Md_fare_1 : decode b_Md_fare 1 = .ok (.iconst 0, 1) := by decide +kernel
set_option maxRecDepth 100000 in
theorem d_Md_fare_2 : decode b_Md_fare 2 = .ok (.aload_n 0, 1) := by decide +kernel
set_option maxRecDepth 100000 in
theorem d_Md_fare_3 : decode b_Md_fare 3 = .ok (.getfield 275, 3) := by decide +kernel
set_option maxRecDepth 100000 in
theorem d_Md_fare_6 : decode b_Md_fare 6 = .ok (.iconst 1, 1) := by decide +kernel
set_option maxRecDepth 100000 in
theorem d_Md_fare_7 : decode b_Md_fare 7 = .ok (.isub, 1) := by decide +kernel
set_option maxRecDepth 100000 in
theorem d_Md_fare_8 : decode b_Md_fare 8 = .ok (.invokestatic 10, 3) := by decide +kernel
set_option maxRecDepth 100000 in
theorem d_Md_fare_11 : decode b_Md_fare 11 = .ok (.ifCond .eq 46, 3) := by decide +kernel
set_option maxRecDepth 100000 in
theorem d_Md_fare_57 : decode b_Md_fare 57 = .ok (.iconst (-1), 1) := by decide +kernel
set_option maxRecDepth 100000 in
theorem d_Md_fare_58 : decode b_Md_fare 58 = .ok (.ireturn, 1) := by decide +kernel
set_option maxRecDepth 100000 in
theorem d_Md_flow_0 : decode b_Md_flow 0 = .ok (.iload_n 1, 1) := by decide +kernel
set_option maxRecDepth 100000 in
theorem d_Md_flow_1 : decode b_Md_flow 1 = .ok (.invokestatic 38, 3) := by decide +kernel
set_option maxRecDepth 100000 in
theorem d_Md_flow_4 : decode b_Md_flow 4 = .ok (.ifCond .eq 22, 3) := by decide +kernel
set_option maxRecDepth 100000 in
theorem d_Md_flow_7 : decode b_Md_flow 7 = .ok (.iload_n 2, 1) := by decide +kernel
set_option maxRecDepth 100000 in
theorem d_Md_flow_8 : decode b_Md_flow 8 = .ok (.iconst 0, 1) := by decide +kernel
set_option maxRecDepth 100000 in
theorem d_Md_flow_9 : decode b_Md_flow 9 = .ok (.bipush 11, 2) := by decide +kernel
set_option maxRecDepth 100000 in
theorem d_Md_flow_11 : decode b_Md_flow 11 = .ok (.invokestatic 10, 3) := by decide +kernel
set_option maxRecDepth 100000 in
theorem d_Md_flow_14 : decode b_Md_flow 14 = .ok (.ifCond .eq 12, 3) := by decide +kernel
set_option maxRecDepth 100000 in
theorem d_Md_flow_17 : decode b_Md_flow 17 = .ok (.aload_n 0, 1) := by decide +kernel
set_option maxRecDepth 100000 in
theorem d_Md_flow_18 : decode b_Md_flow 18 = .ok (.iload_n 1, 1) := by decide +kernel
set_option maxRecDepth 100000 in
theorem d_Md_flow_19 : decode b_Md_flow 19 = .ok (.iload_n 2, 1) := by decide +kernel
set_option maxRecDepth 100000 in
theorem d_Md_flow_20 : decode b_Md_flow 20 = .ok (.invokevirtual 42, 3) := by decide +kernel
set_option maxRecDepth 100000 in
theorem d_Md_flow_23 : decode b_Md_flow 23 = .ok (.goto 6, 3) := by decide +kernel
set_option maxRecDepth 100000 in
theorem d_Md_flow_26 : decode b_Md_flow 26 = .ok (.sipush (-1000), 3) := by decide +kernel
set_option maxRecDepth 100000 in
theorem d_Md_flow_29 : decode b_Md_flow 29 = .ok (.ireturn, 1) := by decide +kernel
set_option maxRecDepth 100000 in
theorem d_Md_flowOf_0 : decode b_Md_flowOf 0 = .ok (.iload_n 2, 1) := by decide +kernel
set_option maxRecDepth 100000 in
theorem d_Md_flowOf_1 : decode b_Md_flowOf 1 = .ok (.bipush 11, 2) := by decide +kernel
set_option maxRecDepth 100000 in
theorem d_Md_flowOf_3 : decode b_Md_flowOf 3 = .ok (.if_icmp .ne 14, 3) := by decide +kernel
set_option maxRecDepth 100000 in
theorem d_Md_flowOf_6 : decode b_Md_flowOf 6 = .ok (.aload_n 0, 1) := by decide +kernel
set_option maxRecDepth 100000 in
theorem d_Md_flowOf_7 : decode b_Md_flowOf 7 = .ok (.iload_n 1, 1) := by decide +kernel
set_option maxRecDepth 100000 in
theorem d_Md_flowOf_8 : decode b_Md_flowOf 8 = .ok (.iconst 1, 1) := by decide +kernel
set_option maxRecDepth 100000 in
theorem d_Md_flowOf_9 : decode b_Md_flowOf 9 = .ok (.iadd, 1) := by decide +kernel
set_option maxRecDepth 100000 in
theorem d_Md_flowOf_10 : decode b_Md_flowOf 10 = .ok (.iconst 0, 1) := by decide +kernel
set_option maxRecDepth 100000 in
theorem d_Md_flowOf_11 : decode b_Md_flowOf 11 = .ok (.invokevirtual 28, 3) := by decide +kernel
set_option maxRecDepth 100000 in
theorem d_Md_flowOf_14 : decode b_Md_flowOf 14 = .ok (.goto 11, 3) := by decide +kernel
set_option maxRecDepth 100000 in
theorem d_Md_flowOf_17 : decode b_Md_flowOf 17 = .ok (.aload_n 0, 1) := by decide +kernel
set_option maxRecDepth 100000 in
theorem d_Md_flowOf_18 : decode b_Md_flowOf 18 = .ok (.iload_n 1, 1) := by decide +kernel
set_option maxRecDepth 100000 in
theorem d_Md_flowOf_19 : decode b_Md_flowOf 19 = .ok (.iload_n 2, 1) := by decide +kernel
set_option maxRecDepth 100000 in
theorem d_Md_flowOf_20 : decode b_Md_flowOf 20 = .ok (.iconst 1, 1) := by decide +kernel
set_option maxRecDepth 100000 in
theorem d_Md_flowOf_21 : decode b_Md_flowOf 21 = .ok (.iadd, 1) := by decide +kernel
set_option maxRecDepth 100000 in
theorem d_Md_flowOf_22 : decode b_Md_flowOf 22 = .ok (.invokevirtual 28, 3) := by decide +kernel
set_option maxRecDepth 100000 in
theorem d_Md_flowOf_25 : decode b_Md_flowOf 25 = .ok (.aload_n 0, 1) := by decide +kernel
set_option maxRecDepth 100000 in
theorem d_Md_flowOf_26 : decode b_Md_flowOf 26 = .ok (.iload_n 1, 1) := by decide +kernel
set_option maxRecDepth 100000 in
theorem d_Md_flowOf_27 : decode b_Md_flowOf 27 = .ok (.iload_n 2, 1) := by decide +kernel
set_option maxRecDepth 100000 in
theorem d_Md_flowOf_28 : decode b_Md_flowOf 28 = .ok (.invokevirtual 28, 3) := by decide +kernel
set_option maxRecDepth 100000 in
theorem d_Md_flowOf_31 : decode b_Md_flowOf 31 = .ok (.isub, 1) := by decide +kernel
set_option maxRecDepth 100000 in
theorem d_Md_flowOf_32 : decode b_Md_flowOf 32 = .ok (.ireturn, 1) := by decide +kernel
set_option maxRecDepth 100000 in
theorem d_Md_forceOn_0 : decode b_Md_forceOn 0 = .ok (.aload_n 0, 1) := by decide +kernel
set_option maxRecDepth 100000 in
theorem d_Md_forceOn_1 : decode b_Md_forceOn 1 = .ok (.getfield 275, 3) := by decide +kernel
set_option maxRecDepth 100000 in
theorem d_Md_forceOn_4 : decode b_Md_forceOn 4 = .ok (.iconst 1, 1) := by decide +kernel
set_option maxRecDepth 100000 in
theorem d_Md_forceOn_5 : decode b_Md_forceOn 5 = .ok (.isub, 1) := by decide +kernel
set_option maxRecDepth 100000 in
theorem d_Md_forceOn_6 : decode b_Md_forceOn 6 = .ok (.istore_n 3, 1) := by decide +kernel
set_option maxRecDepth 100000 in
theorem d_Md_forceOn_7 : decode b_Md_forceOn 7 = .ok (.iload_n 3, 1) := by decide +kernel
set_option maxRecDepth 100000 in
theorem d_Md_forceOn_8 : decode b_Md_forceOn 8 = .ok (.ifCond .lt 31, 3) := by decide +kernel
set_option maxRecDepth 100000 in
theorem d_Md_forceOn_39 : decode b_Md_forceOn 39 = .ok (.bipush (-2), 2) := by decide +kernel
set_option maxRecDepth 100000 in
theorem d_Md_forceOn_41 : decode b_Md_forceOn 41 = .ok (.ireturn, 1) := by decide +kernel
set_option maxRecDepth 100000 in
theorem d_Md_foretold_0 : decode b_Md_foretold 0 = .ok (.lconst 0, 1) := by decide +kernel
set_option maxRecDepth 100000 in
theorem d_Md_foretold_1 : decode b_Md_foretold 1 = .ok (.lstore_n 1, 1) := by decide +kernel
set_option maxRecDepth 100000 in
theorem d_Md_foretold_2 : decode b_Md_foretold 2 = .ok (.aload_n 0, 1) := by decide +kernel
set_option maxRecDepth 100000 in
theorem d_Md_foretold_3 : decode b_Md_foretold 3 = .ok (.invokevirtual 45, 3) := by decide +kernel
set_option maxRecDepth 100000 in
theorem d_Md_foretold_6 : decode b_Md_foretold 6 = .ok (.bipush 100, 2) := by decide +kernel
set_option maxRecDepth 100000 in
theorem d_Md_foretold_8 : decode b_Md_foretold 8 = .ok (.if_icmp .ge 7, 3) := by decide +kernel
set_option maxRecDepth 100000 in
theorem d_Md_foretold_11 : decode b_Md_foretold 11 = .ok (.iconst 0, 1) := by decide +kernel
set_option maxRecDepth 100000 in
theorem d_Md_foretold_12 : decode b_Md_foretold 12 = .ok (.goto 10, 3) := by decide +kernel
set_option maxRecDepth 100000 in
theorem d_Md_foretold_22 : decode b_Md_foretold 22 = .ok (.istore_n 3, 1) := by decide +kernel
set_option maxRecDepth 100000 in
theorem d_Md_foretold_23 : decode b_Md_foretold 23 = .ok (.iload_n 3, 1) := by decide +kernel
set_option maxRecDepth 100000 in
theorem d_Md_foretold_24 : decode b_Md_foretold 24 = .ok (.aload_n 0, 1) := by decide +kernel
set_option maxRecDepth 100000 in
theorem d_Md_foretold_25 : decode b_Md_foretold 25 = .ok (.invokevirtual 45, 3) := by decide +kernel
set_option maxRecDepth 100000 in
theorem d_Md_foretold_28 : decode b_Md_foretold 28 = .ok (.if_icmp .gt 18, 3) := by decide +kernel
set_option maxRecDepth 100000 in
theorem d_Md_foretold_31 : decode b_Md_foretold 31 = .ok (.lload_n 1, 1) := by decide +kernel
set_option maxRecDepth 100000 in
theorem d_Md_foretold_32 : decode b_Md_foretold 32 = .ok (.aload_n 0, 1) := by decide +kernel
set_option maxRecDepth 100000 in
theorem d_Md_foretold_33 : decode b_Md_foretold 33 = .ok (.getfield 173, 3) := by decide +kernel
set_option maxRecDepth 100000 in
theorem d_Md_foretold_36 : decode b_Md_foretold 36 = .ok (.iload_n 3, 1) := by decide +kernel
set_option maxRecDepth 100000 in
theorem d_Md_foretold_37 : decode b_Md_foretold 37 = .ok (.laload, 1) := by decide +kernel
set_option maxRecDepth 100000 in
theorem d_Md_foretold_38 : decode b_Md_foretold 38 = .ok (.ladd, 1) := by decide +kernel
set_option maxRecDepth 100000 in
theorem d_Md_foretold_39 : decode b_Md_foretold 39 = .ok (.lstore_n 1, 1) := by decide +kernel
set_option maxRecDepth 100000 in
theorem d_Md_foretold_40 : decode b_Md_foretold 40 = .ok (.iinc 3 1, 3) := by decide +kernel
set_option maxRecDepth 100000 in
theorem d_Md_foretold_43 : decode b_Md_foretold 43 = .ok (.goto (-20), 3) := by decide +kernel
set_option maxRecDepth 100000 in
theorem d_Md_foretold_46 : decode b_Md_foretold 46 = .ok (.aload_n 0, 1) := by decide +kernel
set_option maxRecDepth 100000 in
theorem d_Md_foretold_47 : decode b_Md_foretold 47 = .ok (.getfield 316, 3) := by decide +kernel
set_option maxRecDepth 100000 in
theorem d_Md_foretold_50 : decode b_Md_foretold 50 = .ok (.lstore_n 3, 1) := by decide +kernel
set_option maxRecDepth 100000 in
theorem d_Md_foretold_51 : decode b_Md_foretold 51 = .ok (.iconst 1, 1) := by decide +kernel
set_option maxRecDepth 100000 in
theorem d_Md_foretold_52 : decode b_Md_foretold 52 = .ok (.istore 5, 2) := by decide +kernel
set_option maxRecDepth 100000 in
theorem d_Md_foretold_54 : decode b_Md_foretold 54 = .ok (.iload 5, 2) := by decide +kernel
set_option maxRecDepth 100000 in
theorem d_Md_foretold_56 : decode b_Md_foretold 56 = .ok (.bipush 40, 2) := by decide +kernel
set_option maxRecDepth 100000 in
theorem d_Md_foretold_58 : decode b_Md_foretold 58 = .ok (.if_icmp .gt 88, 3) := by decide +kernel
set_option maxRecDepth 100000 in
theorem d_Md_foretold_61 : decode b_Md_foretold 61 = .ok (.aload_n 0, 1) := by decide +kernel
set_option maxRecDepth 100000 in
theorem d_Md_foretold_62 : decode b_Md_foretold 62 = .ok (.invokevirtual 45, 3) := by decide +kernel
set_option maxRecDepth 100000 in
theorem d_Md_foretold_65 : decode b_Md_foretold 65 = .ok (.bipush 100, 2) := by decide +kernel
set_option maxRecDepth 100000 in
theorem d_Md_foretold_67 : decode b_Md_foretold 67 = .ok (.idiv, 1) := by decide +kernel
set_option maxRecDepth 100000 in
theorem d_Md_foretold_68 : decode b_Md_foretold 68 = .ok (.iload 5, 2) := by decide +kernel
set_option maxRecDepth 100000 in
theorem d_Md_foretold_70 : decode b_Md_foretold 70 = .ok (.iadd, 1) := by decide +kernel
set_option maxRecDepth 100000 in
theorem d_Md_foretold_71 : decode b_Md_foretold 71 = .ok (.bipush 100, 2) := by decide +kernel
set_option maxRecDepth 100000 in
theorem d_Md_foretold_73 : decode b_Md_foretold 73 = .ok (.imul, 1) := by decide +kernel
set_option maxRecDepth 100000 in
theorem d_Md_foretold_74 : decode b_Md_foretold 74 = .ok (.istore 6, 2) := by decide +kernel
set_option maxRecDepth 100000 in
theorem d_Md_foretold_76 : decode b_Md_foretold 76 = .ok (.lload_n 3, 1) := by decide +kernel
set_option maxRecDepth 100000 in
theorem d_Md_foretold_77 : decode b_Md_foretold 77 = .ok (.lload_n 1, 1) := by decide +kernel
set_option maxRecDepth 100000 in
theorem d_Md_foretold_78 : decode b_Md_foretold 78 = .ok (.ladd, 1) := by decide +kernel
set_option maxRecDepth 100000 in
theorem d_Md_foretold_79 : decode b_Md_foretold 79 = .ok (.lstore_n 3, 1) := by decide +kernel
set_option maxRecDepth 100000 in
theorem d_Md_foretold_80 : decode b_Md_foretold 80 = .ok (.iconst 0, 1) := by decide +kernel
set_option maxRecDepth 100000 in
theorem d_Md_foretold_81 : decode b_Md_foretold 81 = .ok (.istore 7, 2) := by decide +kernel
set_option maxRecDepth 100000 in
theorem d_Md_foretold_83 : decode b_Md_foretold 83 = .ok (.iload 7, 2) := by decide +kernel
set_option maxRecDepth 100000 in
theorem d_Md_foretold_85 : decode b_Md_foretold 85 = .ok (.aload_n 0, 1) := by decide +kernel
set_option maxRecDepth 100000 in
theorem d_Md_foretold_86 : decode b_Md_foretold 86 = .ok (.getfield 323, 3) := by decide +kernel
set_option maxRecDepth 100000 in
theorem d_Md_foretold_89 : decode b_Md_foretold 89 = .ok (.if_icmp .ge 51, 3) := by decide +kernel
set_option maxRecDepth 100000 in
theorem d_Md_foretold_140 : decode b_Md_foretold 140 = .ok (.iinc 5 1, 3) := by decide +kernel
set_option maxRecDepth 100000 in
theorem d_Md_foretold_143 : decode b_Md_foretold 143 = .ok (.goto (-89), 3) := by decide +kernel
set_option maxRecDepth 100000 in
theorem d_Md_foretold_146 : decode b_Md_foretold 146 = .ok (.bipush (-2), 2) := by decide +kernel
set_option maxRecDepth 100000 in
theorem d_Md_foretold_148 : decode b_Md_foretold 148 = .ok (.ireturn, 1) := by decide +kernel
set_option maxRecDepth 100000 in
theorem d_Md_free_0 : decode b_Md_free 0 = .ok (.iload_n 1, 1) := by decide +kernel
set_option maxRecDepth 100000 in
theorem d_Md_free_1 : decode b_Md_free 1 = .ok (.invokestatic 186, 3) := by decide +kernel
set_option maxRecDepth 100000 in
theorem d_Md_free_4 : decode b_Md_free 4 = .ok (.ifCond .ne 5, 3) := by decide +kernel
set_option maxRecDepth 100000 in
theorem d_Md_free_7 : decode b_Md_free 7 = .ok (.iconst (-1), 1) := by decide +kernel
set_option maxRecDepth 100000 in
theorem d_Md_free_8 : decode b_Md_free 8 = .ok (.ireturn, 1) := by decide +kernel
set_option maxRecDepth 100000 in
theorem d_Md_free_9 : decode b_Md_free 9 = .ok (.aload_n 0, 1) := by decide +kernel
set_option maxRecDepth 100000 in
theorem d_Md_free_10 : decode b_Md_free 10 = .ok (.getfield 58, 3) := by decide +kernel
set_option maxRecDepth 100000 in
theorem d_Md_free_13 : decode b_Md_free 13 = .ok (.iload_n 1, 1) := by decide +kernel
set_option maxRecDepth 100000 in
theorem d_Md_free_14 : decode b_Md_free 14 = .ok (.iaload, 1) := by decide +kernel
set_option maxRecDepth 100000 in
theorem d_Md_free_15 : decode b_Md_free 15 = .ok (.ifCond .eq 6, 3) := by decide +kernel
set_option maxRecDepth 100000 in
theorem d_Md_free_21 : decode b_Md_free 21 = .ok (.aload_n 0, 1) := by decide +kernel
set_option maxRecDepth 100000 in
theorem d_Md_free_22 : decode b_Md_free 22 = .ok (.getfield 58, 3) := by decide +kernel
set_option maxRecDepth 100000 in
theorem d_Md_free_25 : decode b_Md_free 25 = .ok (.iload_n 1, 1) := by decide +kernel
set_option maxRecDepth 100000 in
theorem d_Md_free_26 : decode b_Md_free 26 = .ok (.iconst 2, 1) := by decide +kernel
set_option maxRecDepth 100000 in
theorem d_Md_free_27 : decode b_Md_free 27 = .ok (.iastore, 1) := by decide +kernel
set_option maxRecDepth 100000 in
theorem d_Md_free_28 : decode b_Md_free 28 = .ok (.iconst 1, 1) := by decide +kernel
set_option maxRecDepth 100000 in
theorem d_Md_free_29 : decode b_Md_free 29 = .ok (.ireturn, 1) := by decide +kernel
set_option maxRecDepth 100000 in
theorem d_Md_frost_0 : decode b_Md_frost 0 = .ok (.iload_n 1, 1) := by decide +kernel
set_option maxRecDepth 100000 in
theorem d_Md_frost_1 : decode b_Md_frost 1 = .ok (.aload_n 0, 1) := by decide +kernel
set_option maxRecDepth 100000 in
theorem d_Md_frost_2 : decode b_Md_frost 2 = .ok (.invokevirtual 45, 3) := by decide +kernel
set_option maxRecDepth 100000 in
theorem d_Md_frost_5 : decode b_Md_frost 5 = .ok (.sipush 499, 3) := by decide +kernel
set_option maxRecDepth 100000 in
theorem d_Md_frost_8 : decode b_Md_frost 8 = .ok (.invokestatic 10, 3) := by decide +kernel
set_option maxRecDepth 100000 in
theorem d_Md_frost_11 : decode b_Md_frost 11 = .ok (.ifCond .eq 12, 3) := by decide +kernel
set_option maxRecDepth 100000 in
theorem d_Md_frost_14 : decode b_Md_frost 14 = .ok (.iload_n 2, 1) := by decide +kernel
set_option maxRecDepth 100000 in
theorem d_Md_frost_15 : decode b_Md_frost 15 = .ok (.iconst 0, 1) := by decide +kernel
set_option maxRecDepth 100000 in
theorem d_Md_frost_16 : decode b_Md_frost 16 = .ok (.iconst 1, 1) := by decide +kernel
set_option maxRecDepth 100000 in
theorem d_Md_frost_17 : decode b_Md_frost 17 = .ok (.invokestatic 10, 3) := by decide +kernel
set_option maxRecDepth 100000 in
theorem d_Md_frost_20 : decode b_Md_frost 20 = .ok (.ifCond .ne 5, 3) := by decide +kernel
set_option maxRecDepth 100000 in
theorem d_Md_frost_23 : decode b_Md_frost 23 = .ok (.iconst (-1), 1) := by decide +kernel
set_option maxRecDepth 100000 in
theorem d_Md_frost_24 : decode b_Md_frost 24 = .ok (.ireturn, 1) := by decide +kernel
set_option maxRecDepth 100000 in
theorem d_Md_frost_25 : decode b_Md_frost 25 = .ok (.aload_n 0, 1) := by decide +kernel
set_option maxRecDepth 100000 in
theorem d_Md_frost_26 : decode b_Md_frost 26 = .ok (.getfield 49, 3) := by decide +kernel
set_option maxRecDepth 100000 in
theorem d_Md_frost_29 : decode b_Md_frost 29 = .ok (.iload_n 1, 1) := by decide +kernel
set_option maxRecDepth 100000 in
theorem d_Md_frost_30 : decode b_Md_frost 30 = .ok (.baload, 1) := by decide +kernel
set_option maxRecDepth 100000 in
theorem d_Md_frost_31 : decode b_Md_frost 31 = .ok (.ifCond .eq 7, 3) := by decide +kernel
set_option maxRecDepth 100000 in
theorem d_Md_frost_38 : decode b_Md_frost 38 = .ok (.iconst 0, 1) := by decide +kernel
set_option maxRecDepth 100000 in
theorem d_Md_frost_39 : decode b_Md_frost 39 = .ok (.istore_n 3, 1) := by decide +kernel
set_option maxRecDepth 100000 in
theorem d_Md_frost_40 : decode b_Md_frost 40 = .ok (.aload_n 0, 1) := by decide +kernel
set_option maxRecDepth 100000 in
theorem d_Md_frost_41 : decode b_Md_frost 41 = .ok (.getfield 49, 3) := by decide +kernel
set_option maxRecDepth 100000 in
theorem d_Md_frost_44 : decode b_Md_frost 44 = .ok (.iload_n 1, 1) := by decide +kernel
set_option maxRecDepth 100000 in
theorem d_Md_frost_45 : decode b_Md_frost 45 = .ok (.iload_n 2, 1) := by decide +kernel
set_option maxRecDepth 100000 in
theorem d_Md_frost_46 : decode b_Md_frost 46 = .ok (.iconst 1, 1) := by decide +kernel
set_option maxRecDepth 100000 in
theorem d_Md_frost_47 : decode b_Md_frost 47 = .ok (.if_icmp .ne 7, 3) := by decide +kernel
set_option maxRecDepth 100000 in
theorem d_Md_frost_50 : decode b_Md_frost 50 = .ok (.iconst 1, 1) := by decide +kernel
set_option maxRecDepth 100000 in
theorem d_Md_frost_51 : decode b_Md_frost 51 = .ok (.goto 4, 3) := by decide +kernel
set_option maxRecDepth 100000 in
theorem d_Md_frost_54 : decode b_Md_frost 54 = .ok (.iconst 0, 1) := by decide +kernel
set_option maxRecDepth 100000 in
theorem d_Md_frost_55 : decode b_Md_frost 55 = .ok (.bastore, 1) := by decide +kernel
set_option maxRecDepth 100000 in
theorem d_Md_frost_56 : decode b_Md_frost 56 = .ok (.iload_n 3, 1) := by decide +kernel
set_option maxRecDepth 100000 in
theorem d_Md_frost_57 : decode b_Md_frost 57 = .ok (.ireturn, 1) := by decide +kernel
set_option maxRecDepth 100000 in
theorem d_Md_in_0 : decode b_Md_in 0 = .ok (.iload_n 0, 1) := by decide +kernel
set_option maxRecDepth 100000 in
theorem d_Md_in_1 : decode b_Md_in 1 = .ok (.iload_n 1, 1) := by decide +kernel
set_option maxRecDepth 100000 in
theorem d_Md_in_2 : decode b_Md_in 2 = .ok (.if_icmp .lt 12, 3) := by decide +kernel
set_option maxRecDepth 100000 in
theorem d_Md_in_5 : decode b_Md_in 5 = .ok (.iload_n 0, 1) := by decide +kernel
set_option maxRecDepth 100000 in
theorem d_Md_in_6 : decode b_Md_in 6 = .ok (.iload_n 2, 1) := by decide +kernel
set_option maxRecDepth 100000 in
theorem d_Md_in_7 : decode b_Md_in 7 = .ok (.if_icmp .gt 7, 3) := by decide +kernel
set_option maxRecDepth 100000 in
theorem d_Md_in_10 : decode b_Md_in 10 = .ok (.iconst 1, 1) := by decide +kernel
set_option maxRecDepth 100000 in
theorem d_Md_in_11 : decode b_Md_in 11 = .ok (.goto 4, 3) := by decide +kernel
set_option maxRecDepth 100000 in
theorem d_Md_in_14 : decode b_Md_in 14 = .ok (.iconst 0, 1) := by decide +kernel
set_option maxRecDepth 100000 in
theorem d_Md_in_15 : decode b_Md_in 15 = .ok (.ireturn, 1) := by decide +kernel
set_option maxRecDepth 100000 in
theorem d_Md_inForce_0 : decode b_Md_inForce 0 = .ok (.iload_n 1, 1) := by decide +kernel
set_option maxRecDepth 100000 in
theorem d_Md_inForce_1 : decode b_Md_inForce 1 = .ok (.invokestatic 38, 3) := by decide +kernel
set_option maxRecDepth 100000 in
theorem d_Md_inForce_4 : decode b_Md_inForce 4 = .ok (.ifCond .eq 19, 3) := by decide +kernel
set_option maxRecDepth 100000 in
theorem d_Md_inForce_7 : decode b_Md_inForce 7 = .ok (.iload_n 2, 1) := by decide +kernel
set_option maxRecDepth 100000 in
theorem d_Md_inForce_8 : decode b_Md_inForce 8 = .ok (.invokestatic 38, 3) := by decide +kernel
set_option maxRecDepth 100000 in
theorem d_Md_inForce_11 : decode b_Md_inForce 11 = .ok (.ifCond .eq 12, 3) := by decide +kernel
set_option maxRecDepth 100000 in
theorem d_Md_inForce_14 : decode b_Md_inForce 14 = .ok (.aload_n 0, 1) := by decide +kernel
set_option maxRecDepth 100000 in
theorem d_Md_inForce_15 : decode b_Md_inForce 15 = .ok (.iload_n 1, 1) := by decide +kernel
set_option maxRecDepth 100000 in
theorem d_Md_inForce_16 : decode b_Md_inForce 16 = .ok (.iload_n 2, 1) := by decide +kernel
set_option maxRecDepth 100000 in
theorem d_Md_inForce_17 : decode b_Md_inForce 17 = .ok (.invokevirtual 281, 3) := by decide +kernel
set_option maxRecDepth 100000 in
theorem d_Md_inForce_20 : decode b_Md_inForce 20 = .ok (.goto 4, 3) := by decide +kernel
set_option maxRecDepth 100000 in
theorem d_Md_inForce_23 : decode b_Md_inForce 23 = .ok (.iconst (-1), 1) := by decide +kernel
set_option maxRecDepth 100000 in
theorem d_Md_inForce_24 : decode b_Md_inForce 24 = .ok (.ireturn, 1) := by decide +kernel
set_option maxRecDepth 100000 in
theorem d_Md_isAsked_0 : decode b_Md_isAsked 0 = .ok (.aload_n 0, 1) := by decide +kernel
set_option maxRecDepth 100000 in
theorem d_Md_isAsked_1 : decode b_Md_isAsked 1 = .ok (.iload_n 1, 1) := by decide +kernel
set_option maxRecDepth 100000 in
theorem d_Md_isAsked_2 : decode b_Md_isAsked 2 = .ok (.invokevirtual 209, 3) := by decide +kernel
set_option maxRecDepth 100000 in
theorem d_Md_isAsked_5 : decode b_Md_isAsked 5 = .ok (.ifCond .eq 41, 3) := by decide +kernel
set_option maxRecDepth 100000 in
theorem d_Md_isAsked_46 : decode b_Md_isAsked 46 = .ok (.iconst 0, 1) := by decide +kernel
set_option maxRecDepth 100000 in
theorem d_Md_isAsked_47 : decode b_Md_isAsked 47 = .ok (.ireturn, 1) := by decide +kernel
set_option maxRecDepth 100000 in
theorem d_Md_isBoat_0 : decode b_Md_isBoat 0 = .ok (.iload_n 1, 1) := by decide +kernel
set_option maxRecDepth 100000 in
theorem d_Md_isBoat_1 : decode b_Md_isBoat 1 = .ok (.iconst 0, 1) := by decide +kernel
set_option maxRecDepth 100000 in
theorem d_Md_isBoat_2 : decode b_Md_isBoat 2 = .ok (.aload_n 0, 1) := by decide +kernel
set_option maxRecDepth 100000 in
theorem d_Md_isBoat_3 : decode b_Md_isBoat 3 = .ok (.getfield 206, 3) := by decide +kernel
set_option maxRecDepth 100000 in
theorem d_Md_isBoat_6 : decode b_Md_isBoat 6 = .ok (.iconst 1, 1) := by decide +kernel
set_option maxRecDepth 100000 in
theorem d_Md_isBoat_7 : decode b_Md_isBoat 7 = .ok (.isub, 1) := by decide +kernel
set_option maxRecDepth 100000 in
theorem d_Md_isBoat_8 : decode b_Md_isBoat 8 = .ok (.invokestatic 10, 3) := by decide +kernel
set_option maxRecDepth 100000 in
theorem d_Md_isBoat_11 : decode b_Md_isBoat 11 = .ok (.ireturn, 1) := by decide +kernel
set_option maxRecDepth 100000 in
theorem d_Md_isDay_0 : decode b_Md_isDay 0 = .ok (.iload_n 0, 1) := by decide +kernel
set_option maxRecDepth 100000 in
theorem d_Md_isDay_1 : decode b_Md_isDay 1 = .ok (.iconst 0, 1) := by decide +kernel
set_option maxRecDepth 100000 in
theorem d_Md_isDay_2 : decode b_Md_isDay 2 = .ok (.sipush 499, 3) := by decide +kernel
set_option maxRecDepth 100000 in
theorem d_Md_isDay_5 : decode b_Md_isDay 5 = .ok (.invokestatic 10, 3) := by decide +kernel
set_option maxRecDepth 100000 in
theorem d_Md_isDay_8 : decode b_Md_isDay 8 = .ok (.ireturn, 1) := by decide +kernel
set_option maxRecDepth 100000 in
theorem d_Md_isMan_0 : decode b_Md_isMan 0 = .ok (.iload_n 0, 1) := by decide +kernel
set_option maxRecDepth 100000 in
theorem d_Md_isMan_1 : decode b_Md_isMan 1 = .ok (.iconst 0, 1) := by decide +kernel
set_option maxRecDepth 100000 in
theorem d_Md_isMan_2 : decode b_Md_isMan 2 = .ok (.bipush 39, 2) := by decide +kernel
set_option maxRecDepth 100000 in
theorem d_Md_isMan_4 : decode b_Md_isMan 4 = .ok (.invokestatic 10, 3) := by decide +kernel
set_option maxRecDepth 100000 in
theorem d_Md_isMan_7 : decode b_Md_isMan 7 = .ok (.ireturn, 1) := by decide +kernel
set_option maxRecDepth 100000 in
theorem d_Md_isPension_0 : decode b_Md_isPension 0 = .ok (.iload_n 0, 1) := by decide +kernel
set_option maxRecDepth 100000 in
theorem d_Md_isPension_1 : decode b_Md_isPension 1 = .ok (.iconst 1, 1) := by decide +kernel
set_option maxRecDepth 100000 in
theorem d_Md_isPension_2 : decode b_Md_isPension 2 = .ok (.sipush 10000, 3) := by decide +kernel
set_option maxRecDepth 100000 in
theorem d_Md_isPension_5 : decode b_Md_isPension 5 = .ok (.invokestatic 10, 3) := by decide +kernel
set_option maxRecDepth 100000 in
theorem d_Md_isPension_8 : decode b_Md_isPension 8 = .ok (.ifCond .eq 18, 3) := by decide +kernel
set_option maxRecDepth 100000 in
theorem d_Md_isPension_11 : decode b_Md_isPension 11 = .ok (.iload_n 1, 1) := by decide +kernel
set_option maxRecDepth 100000 in
theorem d_Md_isPension_12 : decode b_Md_isPension 12 = .ok (.iconst 0, 1) := by decide +kernel
set_option maxRecDepth 100000 in
theorem d_Md_isPension_13 : decode b_Md_isPension 13 = .ok (.sipush 9999, 3) := by decide +kernel
set_option maxRecDepth 100000 in
theorem d_Md_isPension_16 : decode b_Md_isPension 16 = .ok (.invokestatic 10, 3) := by decide +kernel
set_option maxRecDepth 100000 in
theorem d_Md_isPension_19 : decode b_Md_isPension 19 = .ok (.ifCond .eq 7, 3) := by decide +kernel
set_option maxRecDepth 100000 in
theorem d_Md_isPension_22 : decode b_Md_isPension 22 = .ok (.iconst 1, 1) := by decide +kernel
set_option maxRecDepth 100000 in
theorem d_Md_isPension_23 : decode b_Md_isPension 23 = .ok (.goto 4, 3) := by decide +kernel
set_option maxRecDepth 100000 in
theorem d_Md_isPension_26 : decode b_Md_isPension 26 = .ok (.iconst 0, 1) := by decide +kernel
set_option maxRecDepth 100000 in
theorem d_Md_isPension_27 : decode b_Md_isPension 27 = .ok (.ireturn, 1) := by decide +kernel
set_option maxRecDepth 100000 in
theorem d_Md_isStairs_0 : decode b_Md_isStairs 0 = .ok (.iload_n 1, 1) := by decide +kernel
set_option maxRecDepth 100000 in
theorem d_Md_isStairs_1 : decode b_Md_isStairs 1 = .ok (.iconst 0, 1) := by decide +kernel
set_option maxRecDepth 100000 in
theorem d_Md_isStairs_2 : decode b_Md_isStairs 2 = .ok (.aload_n 0, 1) := by decide +kernel
set_option maxRecDepth 100000 in
theorem d_Md_isStairs_3 : decode b_Md_isStairs 3 = .ok (.getfield 14, 3) := by decide +kernel
set_option maxRecDepth 100000 in
theorem d_Md_isStairs_6 : decode b_Md_isStairs 6 = .ok (.iconst 1, 1) := by decide +kernel
set_option maxRecDepth 100000 in
theorem d_Md_isStairs_7 : decode b_Md_isStairs 7 = .ok (.isub, 1) := by decide +kernel
set_option maxRecDepth 100000 in
theorem d_Md_isStairs_8 : decode b_Md_isStairs 8 = .ok (.invokestatic 10, 3) := by decide +kernel
set_option maxRecDepth 100000 in
theorem d_Md_isStairs_11 : decode b_Md_isStairs 11 = .ok (.ireturn, 1) := by decide +kernel
set_option maxRecDepth 100000 in
theorem d_Md_join_0 : decode b_Md_join 0 = .ok (.aload_n 0, 1) := by decide +kernel
set_option maxRecDepth 100000 in
theorem d_Md_join_1 : decode b_Md_join 1 = .ok (.iload_n 1, 1) := by decide +kernel
set_option maxRecDepth 100000 in
theorem d_Md_join_2 : decode b_Md_join 2 = .ok (.invokevirtual 199, 3) := by decide +kernel
set_option maxRecDepth 100000 in
theorem d_Md_join_5 : decode b_Md_join 5 = .ok (.ifCond .eq 10, 3) := by decide +kernel
set_option maxRecDepth 100000 in
theorem d_Md_join_15 : decode b_Md_join 15 = .ok (.iconst (-1), 1) := by decide +kernel
set_option maxRecDepth 100000 in
theorem d_Md_join_16 : decode b_Md_join 16 = .ok (.ireturn, 1) := by decide +kernel
set_option maxRecDepth 100000 in
theorem d_Md_leave_0 : decode b_Md_leave 0 = .ok (.iload_n 1, 1) := by decide +kernel
set_option maxRecDepth 100000 in
theorem d_Md_leave_1 : decode b_Md_leave 1 = .ok (.invokestatic 186, 3) := by decide +kernel
set_option maxRecDepth 100000 in
theorem d_Md_leave_4 : decode b_Md_leave 4 = .ok (.ifCond .ne 5, 3) := by decide +kernel
set_option maxRecDepth 100000 in
theorem d_Md_leave_7 : decode b_Md_leave 7 = .ok (.iconst (-1), 1) := by decide +kernel
set_option maxRecDepth 100000 in
theorem d_Md_leave_8 : decode b_Md_leave 8 = .ok (.ireturn, 1) := by decide +kernel
set_option maxRecDepth 100000 in
theorem d_Md_leave_9 : decode b_Md_leave 9 = .ok (.aload_n 0, 1) := by decide +kernel
set_option maxRecDepth 100000 in
theorem d_Md_leave_10 : decode b_Md_leave 10 = .ok (.iload_n 1, 1) := by decide +kernel
set_option maxRecDepth 100000 in
theorem d_Md_leave_11 : decode b_Md_leave 11 = .ok (.invokevirtual 193, 3) := by decide +kernel
set_option maxRecDepth 100000 in
theorem d_Md_leave_14 : decode b_Md_leave 14 = .ok (.ifCond .ge 6, 3) := by decide +kernel
set_option maxRecDepth 100000 in
theorem d_Md_leave_17 : decode b_Md_leave 17 = .ok (.bipush (-2), 2) := by decide +kernel
set_option maxRecDepth 100000 in
theorem d_Md_leave_19 : decode b_Md_leave 19 = .ok (.ireturn, 1) := by decide +kernel
set_option maxRecDepth 100000 in
theorem d_Md_levelOf_0 : decode b_Md_levelOf 0 = .ok (.iload_n 1, 1) := by decide +kernel
set_option maxRecDepth 100000 in
theorem d_Md_levelOf_1 : decode b_Md_levelOf 1 = .ok (.sipush 500, 3) := by decide +kernel
set_option maxRecDepth 100000 in
theorem d_Md_levelOf_4 : decode b_Md_levelOf 4 = .ok (.if_icmp .ge 26, 3) := by decide +kernel
set_option maxRecDepth 100000 in
theorem d_Md_levelOf_7 : decode b_Md_levelOf 7 = .ok (.aload_n 0, 1) := by decide +kernel
set_option maxRecDepth 100000 in
theorem d_Md_levelOf_8 : decode b_Md_levelOf 8 = .ok (.getfield 17, 3) := by decide +kernel
set_option maxRecDepth 100000 in
theorem d_Md_levelOf_11 : decode b_Md_levelOf 11 = .ok (.iload_n 1, 1) := by decide +kernel
set_option maxRecDepth 100000 in
theorem d_Md_levelOf_12 : decode b_Md_levelOf 12 = .ok (.baload, 1) := by decide +kernel
set_option maxRecDepth 100000 in
theorem d_Md_levelOf_13 : decode b_Md_levelOf 13 = .ok (.ifCond .eq 17, 3) := by decide +kernel
set_option maxRecDepth 100000 in
theorem d_Md_levelOf_30 : decode b_Md_levelOf 30 = .ok (.aload_n 0, 1) := by decide +kernel
set_option maxRecDepth 100000 in
theorem d_Md_levelOf_31 : decode b_Md_levelOf 31 = .ok (.getfield 25, 3) := by decide +kernel
set_option maxRecDepth 100000 in
theorem d_Md_levelOf_34 : decode b_Md_levelOf 34 = .ok (.iload_n 2, 1) := by decide +kernel
set_option maxRecDepth 100000 in
theorem d_Md_levelOf_35 : decode b_Md_levelOf 35 = .ok (.iload_n 1, 1) := by decide +kernel
set_option maxRecDepth 100000 in
theorem d_Md_levelOf_36 : decode b_Md_levelOf 36 = .ok (.iadd, 1) := by decide +kernel
set_option maxRecDepth 100000 in
theorem d_Md_levelOf_37 : decode b_Md_levelOf 37 = .ok (.bipush 12, 2) := by decide +kernel
set_option maxRecDepth 100000 in
theorem d_Md_levelOf_39 : decode b_Md_levelOf 39 = .ok (.irem, 1) := by decide +kernel
set_option maxRecDepth 100000 in
theorem d_Md_levelOf_40 : decode b_Md_levelOf 40 = .ok (.iaload, 1) := by decide +kernel
set_option maxRecDepth 100000 in
theorem d_Md_levelOf_41 : decode b_Md_levelOf 41 = .ok (.ireturn, 1) := by decide +kernel
set_option maxRecDepth 100000 in
theorem d_Md_man_0 : decode b_Md_man 0 = .ok (.iload_n 1, 1) := by decide +kernel
set_option maxRecDepth 100000 in
theorem d_Md_man_1 : decode b_Md_man 1 = .ok (.invokestatic 186, 3) := by decide +kernel
set_option maxRecDepth 100000 in
theorem d_Md_man_4 : decode b_Md_man 4 = .ok (.ifCond .ne 6, 3) := by decide +kernel
set_option maxRecDepth 100000 in
theorem d_Md_man_7 : decode b_Md_man 7 = .ok (.bipush (-2), 2) := by decide +kernel
set_option maxRecDepth 100000 in
theorem d_Md_man_9 : decode b_Md_man 9 = .ok (.ireturn, 1) := by decide +kernel
set_option maxRecDepth 100000 in
theorem d_Md_man_10 : decode b_Md_man 10 = .ok (.iload_n 2, 1) := by decide +kernel
set_option maxRecDepth 100000 in
theorem d_Md_man_11 : decode b_Md_man 11 = .ok (.tableswitch 96 0 6 #[41, 48, 55, 61, 67, 74, 89], 41) := by decide +kernel
set_option maxRecDepth 100000 in
theorem d_Md_man_52 : decode b_Md_man 52 = .ok (.aload_n 0, 1) := by decide +kernel
set_option maxRecDepth 100000 in
theorem d_Md_man_53 : decode b_Md_man 53 = .ok (.getfield 58, 3) := by decide +kernel
set_option maxRecDepth 100000 in
theorem d_Md_man_56 : decode b_Md_man 56 = .ok (.iload_n 1, 1) := by decide +kernel
set_option maxRecDepth 100000 in
theorem d_Md_man_57 : decode b_Md_man 57 = .ok (.iaload, 1) := by decide +kernel
set_option maxRecDepth 100000 in
theorem d_Md_man_58 : decode b_Md_man 58 = .ok (.ireturn, 1) := by decide +kernel
set_option maxRecDepth 100000 in
theorem d_Md_man_59 : decode b_Md_man 59 = .ok (.aload_n 0, 1) := by decide +kernel
set_option maxRecDepth 100000 in
theorem d_Md_man_60 : decode b_Md_man 60 = .ok (.getfield 61, 3) := by decide +kernel
set_option maxRecDepth 100000 in
theorem d_Md_man_63 : decode b_Md_man 63 = .ok (.iload_n 1, 1) := by decide +kernel
set_option maxRecDepth 100000 in
theorem d_Md_man_64 : decode b_Md_man 64 = .ok (.iaload, 1) := by decide +kernel
set_option maxRecDepth 100000 in
theorem d_Md_man_65 : decode b_Md_man 65 = .ok (.ireturn, 1) := by decide +kernel
set_option maxRecDepth 100000 in
theorem d_Md_man_66 : decode b_Md_man 66 = .ok (.aload_n 0, 1) := by decide +kernel
set_option maxRecDepth 100000 in
theorem d_Md_man_67 : decode b_Md_man 67 = .ok (.iload_n 1, 1) := by decide +kernel
set_option maxRecDepth 100000 in
theorem d_Md_man_68 : decode b_Md_man 68 = .ok (.invokevirtual 193, 3) := by decide +kernel
set_option maxRecDepth 100000 in
theorem d_Md_man_71 : decode b_Md_man 71 = .ok (.ireturn, 1) := by decide +kernel
set_option maxRecDepth 100000 in
theorem d_Md_man_72 : decode b_Md_man 72 = .ok (.aload_n 0, 1) := by decide +kernel
set_option maxRecDepth 100000 in
theorem d_Md_man_73 : decode b_Md_man 73 = .ok (.iload_n 1, 1) := by decide +kernel
set_option maxRecDepth 100000 in
theorem d_Md_man_74 : decode b_Md_man 74 = .ok (.invokevirtual 196, 3) := by decide +kernel
set_option maxRecDepth 100000 in
theorem d_Md_man_77 : decode b_Md_man 77 = .ok (.ireturn, 1) := by decide +kernel
set_option maxRecDepth 100000 in
theorem d_Md_man_78 : decode b_Md_man 78 = .ok (.aload_n 0, 1) := by decide +kernel
set_option maxRecDepth 100000 in
theorem d_Md_man_79 : decode b_Md_man 79 = .ok (.getfield 76, 3) := by decide +kernel
set_option maxRecDepth 100000 in
theorem d_Md_man_82 : decode b_Md_man 82 = .ok (.iload_n 1, 1) := by decide +kernel
set_option maxRecDepth 100000 in
theorem d_Md_man_83 : decode b_Md_man 83 = .ok (.iaload, 1) := by decide +kernel
set_option maxRecDepth 100000 in
theorem d_Md_man_84 : decode b_Md_man 84 = .ok (.ireturn, 1) := by decide +kernel
set_option maxRecDepth 100000 in
theorem d_Md_man_85 : decode b_Md_man 85 = .ok (.aload_n 0, 1) := by decide +kernel
set_option maxRecDepth 100000 in
theorem d_Md_man_86 : decode b_Md_man 86 = .ok (.getfield 79, 3) := by decide +kernel
set_option maxRecDepth 100000 in
theorem d_Md_man_89 : decode b_Md_man 89 = .ok (.iload_n 1, 1) := by decide +kernel
set_option maxRecDepth 100000 in
theorem d_Md_man_90 : decode b_Md_man 90 = .ok (.iaload, 1) := by decide +kernel
set_option maxRecDepth 100000 in
theorem d_Md_man_91 : decode b_Md_man 91 = .ok (.ifCond .lt 7, 3) := by decide +kernel
set_option maxRecDepth 100000 in
theorem d_Md_man_98 : decode b_Md_man 98 = .ok (.iconst 0, 1) := by decide +kernel
set_option maxRecDepth 100000 in
theorem d_Md_man_99 : decode b_Md_man 99 = .ok (.ireturn, 1) := by decide +kernel
set_option maxRecDepth 100000 in
theorem d_Md_man_100 : decode b_Md_man 100 = .ok (.aload_n 0, 1) := by decide +kernel
set_option maxRecDepth 100000 in
theorem d_Md_man_101 : decode b_Md_man 101 = .ok (.getfield 82, 3) := by decide +kernel
set_option maxRecDepth 100000 in
theorem d_Md_man_104 : decode b_Md_man 104 = .ok (.iload_n 1, 1) := by decide +kernel
set_option maxRecDepth 100000 in
theorem d_Md_man_105 : decode b_Md_man 105 = .ok (.iaload, 1) := by decide +kernel
set_option maxRecDepth 100000 in
theorem d_Md_man_106 : decode b_Md_man 106 = .ok (.ireturn, 1) := by decide +kernel
set_option maxRecDepth 100000 in
theorem d_Md_man_107 : decode b_Md_man 107 = .ok (.bipush (-2), 2) := by decide +kernel
set_option maxRecDepth 100000 in
theorem d_Md_man_109 : decode b_Md_man 109 = .ok (.ireturn, 1) := by decide +kernel
set_option maxRecDepth 100000 in
theorem d_Md_menAs_0 : decode b_Md_menAs 0 = .ok (.iconst 0, 1) := by decide +kernel
set_option maxRecDepth 100000 in
theorem d_Md_menAs_1 : decode b_Md_menAs 1 = .ok (.istore_n 2, 1) := by decide +kernel
set_option maxRecDepth 100000 in
theorem d_Md_menAs_2 : decode b_Md_menAs 2 = .ok (.iconst 0, 1) := by decide +kernel
set_option maxRecDepth 100000 in
theorem d_Md_menAs_3 : decode b_Md_menAs 3 = .ok (.istore_n 3, 1) := by decide +kernel
set_option maxRecDepth 100000 in
theorem d_Md_menAs_4 : decode b_Md_menAs 4 = .ok (.iload_n 3, 1) := by decide +kernel
set_option maxRecDepth 100000 in
theorem d_Md_menAs_5 : decode b_Md_menAs 5 = .ok (.bipush 40, 2) := by decide +kernel
set_option maxRecDepth 100000 in
theorem d_Md_menAs_7 : decode b_Md_menAs 7 = .ok (.if_icmp .ge 27, 3) := by decide +kernel
set_option maxRecDepth 100000 in
theorem d_Md_menAs_10 : decode b_Md_menAs 10 = .ok (.iload_n 2, 1) := by decide +kernel
set_option maxRecDepth 100000 in
theorem d_Md_menAs_11 : decode b_Md_menAs 11 = .ok (.aload_n 0, 1) := by decide +kernel
set_option maxRecDepth 100000 in
theorem d_Md_menAs_12 : decode b_Md_menAs 12 = .ok (.getfield 58, 3) := by decide +kernel
set_option maxRecDepth 100000 in
theorem d_Md_menAs_15 : decode b_Md_menAs 15 = .ok (.iload_n 3, 1) := by decide +kernel
set_option maxRecDepth 100000 in
theorem d_Md_menAs_16 : decode b_Md_menAs 16 = .ok (.iaload, 1) := by decide +kernel
set_option maxRecDepth 100000 in
theorem d_Md_menAs_17 : decode b_Md_menAs 17 = .ok (.iload_n 1, 1) := by decide +kernel
set_option maxRecDepth 100000 in
theorem d_Md_menAs_18 : decode b_Md_menAs 18 = .ok (.if_icmp .ne 7, 3) := by decide +kernel
set_option maxRecDepth 100000 in
theorem d_Md_menAs_21 : decode b_Md_menAs 21 = .ok (.iconst 1, 1) := by decide +kernel
set_option maxRecDepth 100000 in
theorem d_Md_menAs_22 : decode b_Md_menAs 22 = .ok (.goto 4, 3) := by decide +kernel
set_option maxRecDepth 100000 in
theorem d_Md_menAs_25 : decode b_Md_menAs 25 = .ok (.iconst 0, 1) := by decide +kernel
set_option maxRecDepth 100000 in
theorem d_Md_menAs_26 : decode b_Md_menAs 26 = .ok (.iadd, 1) := by decide +kernel
set_option maxRecDepth 100000 in
theorem d_Md_menAs_27 : decode b_Md_menAs 27 = .ok (.istore_n 2, 1) := by decide +kernel
set_option maxRecDepth 100000 in
theorem d_Md_menAs_28 : decode b_Md_menAs 28 = .ok (.iinc 3 1, 3) := by decide +kernel
set_option maxRecDepth 100000 in
theorem d_Md_menAs_31 : decode b_Md_menAs 31 = .ok (.goto (-27), 3) := by decide +kernel
set_option maxRecDepth 100000 in
theorem d_Md_menAs_34 : decode b_Md_menAs 34 = .ok (.iload_n 2, 1) := by decide +kernel
set_option maxRecDepth 100000 in
theorem d_Md_menAs_35 : decode b_Md_menAs 35 = .ok (.ireturn, 1) := by decide +kernel
set_option maxRecDepth 100000 in
theorem d_Md_newPensioner_0 : decode b_Md_newPensioner 0 = .ok (.aload_n 0, 1) := by decide +kernel
set_option maxRecDepth 100000 in
theorem d_Md_newPensioner_1 : decode b_Md_newPensioner 1 = .ok (.getfield 177, 3) := by decide +kernel
set_option maxRecDepth 100000 in
theorem d_Md_newPensioner_4 : decode b_Md_newPensioner 4 = .ok (.aload_n 0, 1) := by decide +kernel
set_option maxRecDepth 100000 in
theorem d_Md_newPensioner_5 : decode b_Md_newPensioner 5 = .ok (.getfield 323, 3) := by decide +kernel
set_option maxRecDepth 100000 in
theorem d_Md_newPensioner_8 : decode b_Md_newPensioner 8 = .ok (.iload_n 1, 1) := by decide +kernel
set_option maxRecDepth 100000 in
theorem d_Md_newPensioner_9 : decode b_Md_newPensioner 9 = .ok (.iastore, 1) := by decide +kernel
set_option maxRecDepth 100000 in
theorem d_Md_newPensioner_10 : decode b_Md_newPensioner 10 = .ok (.aload_n 0, 1) := by decide +kernel
set_option maxRecDepth 100000 in
theorem d_Md_newPensioner_11 : decode b_Md_newPensioner 11 = .ok (.getfield 180, 3) := by decide +kernel
set_option maxRecDepth 100000 in
theorem d_Md_newPensioner_14 : decode b_Md_newPensioner 14 = .ok (.aload_n 0, 1) := by decide +kernel
set_option maxRecDepth 100000 in
theorem d_Md_newPensioner_15 : decode b_Md_newPensioner 15 = .ok (.getfield 323, 3) := by decide +kernel
set_option maxRecDepth 100000 in
theorem d_Md_newPensioner_18 : decode b_Md_newPensioner 18 = .ok (.iload_n 2, 1) := by decide +kernel
set_option maxRecDepth 100000 in
theorem d_Md_newPensioner_19 : decode b_Md_newPensioner 19 = .ok (.iastore, 1) := by decide +kernel
set_option maxRecDepth 100000 in
theorem d_Md_newPensioner_20 : decode b_Md_newPensioner 20 = .ok (.aload_n 0, 1) := by decide +kernel
set_option maxRecDepth 100000 in
theorem d_Md_newPensioner_21 : decode b_Md_newPensioner 21 = .ok (.dup, 1) := by decide +kernel
set_option maxRecDepth 100000 in
theorem d_Md_newPensioner_22 : decode b_Md_newPensioner 22 = .ok (.getfield 323, 3) := by decide +kernel
set_option maxRecDepth 100000 in
theorem d_Md_newPensioner_25 : decode b_Md_newPensioner 25 = .ok (.iconst 1, 1) := by decide +kernel
set_option maxRecDepth 100000 in
theorem d_Md_newPensioner_26 : decode b_Md_newPensioner 26 = .ok (.iadd, 1) := by decide +kernel
set_option maxRecDepth 100000 in
theorem d_Md_newPensioner_27 : decode b_Md_newPensioner 27 = .ok (.putfield 323, 3) := by decide +kernel
set_option maxRecDepth 100000 in
theorem d_Md_newPensioner_30 : decode b_Md_newPensioner 30 = .ok (.aload_n 0, 1) := by decide +kernel
set_option maxRecDepth 100000 in
theorem d_Md_newPensioner_31 : decode b_Md_newPensioner 31 = .ok (.getfield 323, 3) := by decide +kernel
set_option maxRecDepth 100000 in
theorem d_Md_newPensioner_34 : decode b_Md_newPensioner 34 = .ok (.iconst 1, 1) := by decide +kernel
set_option maxRecDepth 100000 in
theorem d_Md_newPensioner_35 : decode b_Md_newPensioner 35 = .ok (.isub, 1) := by decide +kernel
set_option maxRecDepth 100000 in
theorem d_Md_newPensioner_36 : decode b_Md_newPensioner 36 = .ok (.ireturn, 1) := by decide +kernel
set_option maxRecDepth 100000 in
theorem d_Md_over_0 : decode b_Md_over 0 = .ok (.iload_n 1, 1) := by decide +kernel
set_option maxRecDepth 100000 in
theorem d_Md_over_1 : decode b_Md_over 1 = .ok (.invokestatic 186, 3) := by decide +kernel
set_option maxRecDepth 100000 in
theorem d_Md_over_4 : decode b_Md_over 4 = .ok (.ifCond .eq 10, 3) := by decide +kernel
set_option maxRecDepth 100000 in
theorem d_Md_over_7 : decode b_Md_over 7 = .ok (.iload_n 2, 1) := by decide +kernel
set_option maxRecDepth 100000 in
theorem d_Md_over_8 : decode b_Md_over 8 = .ok (.invokestatic 38, 3) := by decide +kernel
set_option maxRecDepth 100000 in
theorem d_Md_over_11 : decode b_Md_over 11 = .ok (.ifCond .ne 5, 3) := by decide +kernel
set_option maxRecDepth 100000 in
theorem d_Md_over_14 : decode b_Md_over 14 = .ok (.iconst (-1), 1) := by decide +kernel
set_option maxRecDepth 100000 in
theorem d_Md_over_15 : decode b_Md_over 15 = .ok (.ireturn, 1) := by decide +kernel
set_option maxRecDepth 100000 in
theorem d_Md_over_16 : decode b_Md_over 16 = .ok (.iconst 0, 1) := by decide +kernel
set_option maxRecDepth 100000 in
theorem d_Md_over_17 : decode b_Md_over 17 = .ok (.istore_n 3, 1) := by decide +kernel
set_option maxRecDepth 100000 in
theorem d_Md_over_18 : decode b_Md_over 18 = .ok (.iconst 0, 1) := by decide +kernel
set_option maxRecDepth 100000 in
theorem d_Md_over_19 : decode b_Md_over 19 = .ok (.istore 4, 2) := by decide +kernel
set_option maxRecDepth 100000 in
theorem d_Md_over_21 : decode b_Md_over 21 = .ok (.iload 4, 2) := by decide +kernel
set_option maxRecDepth 100000 in
theorem d_Md_over_23 : decode b_Md_over 23 = .ok (.aload_n 0, 1) := by decide +kernel
set_option maxRecDepth 100000 in
theorem d_Md_over_24 : decode b_Md_over 24 = .ok (.getfield 313, 3) := by decide +kernel
set_option maxRecDepth 100000 in
theorem d_Md_over_27 : decode b_Md_over 27 = .ok (.if_icmp .ge 66, 3) := by decide +kernel
set_option maxRecDepth 100000 in
theorem d_Md_over_93 : decode b_Md_over 93 = .ok (.iload_n 3, 1) := by decide +kernel
set_option maxRecDepth 100000 in
theorem d_Md_over_94 : decode b_Md_over 94 = .ok (.ireturn, 1) := by decide +kernel
set_option maxRecDepth 100000 in
theorem d_Md_pass_0 : decode b_Md_pass 0 = .ok (.iload_n 1, 1) := by decide +kernel
set_option maxRecDepth 100000 in
theorem d_Md_pass_1 : decode b_Md_pass 1 = .ok (.invokestatic 186, 3) := by decide +kernel
set_option maxRecDepth 100000 in
theorem d_Md_pass_4 : decode b_Md_pass 4 = .ok (.ifCond .ne 5, 3) := by decide +kernel
set_option maxRecDepth 100000 in
theorem d_Md_pass_7 : decode b_Md_pass 7 = .ok (.iconst (-1), 1) := by decide +kernel
set_option maxRecDepth 100000 in
theorem d_Md_pass_8 : decode b_Md_pass 8 = .ok (.ireturn, 1) := by decide +kernel
set_option maxRecDepth 100000 in
theorem d_Md_pass_9 : decode b_Md_pass 9 = .ok (.aload_n 0, 1) := by decide +kernel
set_option maxRecDepth 100000 in
theorem d_Md_pass_10 : decode b_Md_pass 10 = .ok (.getfield 58, 3) := by decide +kernel
set_option maxRecDepth 100000 in
theorem d_Md_pass_13 : decode b_Md_pass 13 = .ok (.iload_n 1, 1) := by decide +kernel
set_option maxRecDepth 100000 in
theorem d_Md_pass_14 : decode b_Md_pass 14 = .ok (.iaload, 1) := by decide +kernel
set_option maxRecDepth 100000 in
theorem d_Md_pass_15 : decode b_Md_pass 15 = .ok (.iconst 1, 1) := by decide +kernel
set_option maxRecDepth 100000 in
theorem d_Md_pass_16 : decode b_Md_pass 16 = .ok (.if_icmp .eq 6, 3) := by decide +kernel
set_option maxRecDepth 100000 in
theorem d_Md_pass_19 : decode b_Md_pass 19 = .ok (.bipush (-2), 2) := by decide +kernel
set_option maxRecDepth 100000 in
theorem d_Md_pass_21 : decode b_Md_pass 21 = .ok (.ireturn, 1) := by decide +kernel
set_option maxRecDepth 100000 in
theorem d_Md_pension_0 : decode b_Md_pension 0 = .ok (.iload_n 1, 1) := by decide +kernel
set_option maxRecDepth 100000 in
theorem d_Md_pension_1 : decode b_Md_pension 1 = .ok (.iload_n 2, 1) := by decide +kernel
set_option maxRecDepth 100000 in
theorem d_Md_pension_2 : decode b_Md_pension 2 = .ok (.invokestatic 338, 3) := by decide +kernel
set_option maxRecDepth 100000 in
theorem d_Md_pension_5 : decode b_Md_pension 5 = .ok (.ifCond .ne 5, 3) := by decide +kernel
set_option maxRecDepth 100000 in
theorem d_Md_pension_8 : decode b_Md_pension 8 = .ok (.iconst (-1), 1) := by decide +kernel
set_option maxRecDepth 100000 in
theorem d_Md_pension_9 : decode b_Md_pension 9 = .ok (.ireturn, 1) := by decide +kernel
set_option maxRecDepth 100000 in
theorem d_Md_pension_10 : decode b_Md_pension 10 = .ok (.aload_n 0, 1) := by decide +kernel
set_option maxRecDepth 100000 in
theorem d_Md_pension_11 : decode b_Md_pension 11 = .ok (.getfield 323, 3) := by decide +kernel
set_option maxRecDepth 100000 in
theorem d_Md_pension_14 : decode b_Md_pension 14 = .ok (.bipush 30, 2) := by decide +kernel
set_option maxRecDepth 100000 in
theorem d_Md_pension_16 : decode b_Md_pension 16 = .ok (.if_icmp .ne 8, 3) := by decide +kernel
set_option maxRecDepth 100000 in
theorem d_Md_pension_24 : decode b_Md_pension 24 = .ok (.aload_n 0, 1) := by decide +kernel
set_option maxRecDepth 100000 in
theorem d_Md_pension_25 : decode b_Md_pension 25 = .ok (.iload_n 1, 1) := by decide +kernel
set_option maxRecDepth 100000 in
theorem d_Md_pension_26 : decode b_Md_pension 26 = .ok (.iload_n 2, 1) := by decide +kernel
set_option maxRecDepth 100000 in
theorem d_Md_pension_27 : decode b_Md_pension 27 = .ok (.invokevirtual 342, 3) := by decide +kernel
set_option maxRecDepth 100000 in
theorem d_Md_pension_30 : decode b_Md_pension 30 = .ok (.ireturn, 1) := by decide +kernel
set_option maxRecDepth 100000 in
theorem d_Md_pensioner_0 : decode b_Md_pensioner 0 = .ok (.iload_n 1, 1) := by decide +kernel
set_option maxRecDepth 100000 in
theorem d_Md_pensioner_1 : decode b_Md_pensioner 1 = .ok (.iconst 0, 1) := by decide +kernel
set_option maxRecDepth 100000 in
theorem d_Md_pensioner_2 : decode b_Md_pensioner 2 = .ok (.aload_n 0, 1) := by decide +kernel
set_option maxRecDepth 100000 in
theorem d_Md_pensioner_3 : decode b_Md_pensioner 3 = .ok (.getfield 323, 3) := by decide +kernel
set_option maxRecDepth 100000 in
theorem d_Md_pensioner_6 : decode b_Md_pensioner 6 = .ok (.iconst 1, 1) := by decide +kernel
set_option maxRecDepth 100000 in
theorem d_Md_pensioner_7 : decode b_Md_pensioner 7 = .ok (.isub, 1) := by decide +kernel
set_option maxRecDepth 100000 in
theorem d_Md_pensioner_8 : decode b_Md_pensioner 8 = .ok (.invokestatic 10, 3) := by decide +kernel
set_option maxRecDepth 100000 in
theorem d_Md_pensioner_11 : decode b_Md_pensioner 11 = .ok (.ifCond .ne 5, 3) := by decide +kernel
set_option maxRecDepth 100000 in
theorem d_Md_pensioner_14 : decode b_Md_pensioner 14 = .ok (.iconst (-1), 1) := by decide +kernel
set_option maxRecDepth 100000 in
theorem d_Md_pensioner_15 : decode b_Md_pensioner 15 = .ok (.ireturn, 1) := by decide +kernel
set_option maxRecDepth 100000 in
theorem d_Md_placeOf_0 : decode b_Md_placeOf 0 = .ok (.aload_n 0, 1) := by decide +kernel
set_option maxRecDepth 100000 in
theorem d_Md_placeOf_1 : decode b_Md_placeOf 1 = .ok (.iload_n 1, 1) := by decide +kernel
set_option maxRecDepth 100000 in
theorem d_Md_placeOf_2 : decode b_Md_placeOf 2 = .ok (.invokevirtual 193, 3) := by decide +kernel
set_option maxRecDepth 100000 in
theorem d_Md_placeOf_5 : decode b_Md_placeOf 5 = .ok (.istore_n 2, 1) := by decide +kernel
set_option maxRecDepth 100000 in
theorem d_Md_placeOf_6 : decode b_Md_placeOf 6 = .ok (.iconst 0, 1) := by decide +kernel
set_option maxRecDepth 100000 in
theorem d_Md_placeOf_7 : decode b_Md_placeOf 7 = .ok (.istore_n 3, 1) := by decide +kernel
set_option maxRecDepth 100000 in
theorem d_Md_placeOf_8 : decode b_Md_placeOf 8 = .ok (.iload_n 2, 1) := by decide +kernel
set_option maxRecDepth 100000 in
theorem d_Md_placeOf_9 : decode b_Md_placeOf 9 = .ok (.ifCond .lt 24, 3) := by decide +kernel
set_option maxRecDepth 100000 in
theorem d_Md_placeOf_33 : decode b_Md_placeOf 33 = .ok (.iload_n 2, 1) := by decide +kernel
set_option maxRecDepth 100000 in
theorem d_Md_placeOf_34 : decode b_Md_placeOf 34 = .ok (.ifCond .ge 7, 3) := by decide +kernel
set_option maxRecDepth 100000 in
theorem d_Md_placeOf_37 : decode b_Md_placeOf 37 = .ok (.iconst (-1), 1) := by decide +kernel
set_option maxRecDepth 100000 in
theorem d_Md_placeOf_38 : decode b_Md_placeOf 38 = .ok (.goto 4, 3) := by decide +kernel
set_option maxRecDepth 100000 in
theorem d_Md_placeOf_42 : decode b_Md_placeOf 42 = .ok (.ireturn, 1) := by decide +kernel
set_option maxRecDepth 100000 in
theorem d_Md_row_0 : decode b_Md_row 0 = .ok (.aload_n 0, 1) := by decide +kernel
set_option maxRecDepth 100000 in
theorem d_Md_row_1 : decode b_Md_row 1 = .ok (.iload_n 1, 1) := by decide +kernel
set_option maxRecDepth 100000 in
theorem d_Md_row_2 : decode b_Md_row 2 = .ok (.iload_n 2, 1) := by decide +kernel
set_option maxRecDepth 100000 in
theorem d_Md_row_3 : decode b_Md_row 3 = .ok (.iload_n 3, 1) := by decide +kernel
set_option maxRecDepth 100000 in
theorem d_Md_row_4 : decode b_Md_row 4 = .ok (.invokevirtual 306, 3) := by decide +kernel
set_option maxRecDepth 100000 in
theorem d_Md_row_7 : decode b_Md_row 7 = .ok (.ifCond .eq 15, 3) := by decide +kernel
set_option maxRecDepth 100000 in
theorem d_Md_row_22 : decode b_Md_row 22 = .ok (.iconst (-1), 1) := by decide +kernel
set_option maxRecDepth 100000 in
theorem d_Md_row_23 : decode b_Md_row 23 = .ok (.ireturn, 1) := by decide +kernel
set_option maxRecDepth 100000 in
theorem d_Md_rowOf_0 : decode b_Md_rowOf 0 = .ok (.iconst 0, 1) := by decide +kernel
set_option maxRecDepth 100000 in
theorem d_Md_rowOf_1 : decode b_Md_rowOf 1 = .ok (.istore_n 2, 1) := by decide +kernel
set_option maxRecDepth 100000 in
theorem d_Md_rowOf_2 : decode b_Md_rowOf 2 = .ok (.iload_n 2, 1) := by decide +kernel
set_option maxRecDepth 100000 in
theorem d_Md_rowOf_3 : decode b_Md_rowOf 3 = .ok (.aload_n 0, 1) := by decide +kernel
set_option maxRecDepth 100000 in
theorem d_Md_rowOf_4 : decode b_Md_rowOf 4 = .ok (.getfield 14, 3) := by decide +kernel
set_option maxRecDepth 100000 in
theorem d_Md_rowOf_7 : decode b_Md_rowOf 7 = .ok (.if_icmp .ge 44, 3) := by decide +kernel
set_option maxRecDepth 100000 in
theorem d_Md_rowOf_51 : decode b_Md_rowOf 51 = .ok (.iconst (-1), 1) := by decide +kernel
set_option maxRecDepth 100000 in
theorem d_Md_rowOf_52 : decode b_Md_rowOf 52 = .ok (.ireturn, 1) := by decide +kernel
set_option maxRecDepth 100000 in
theorem d_Md_served_0 : decode b_Md_served 0 = .ok (.iload_n 1, 1) := by decide +kernel
set_option maxRecDepth 100000 in
theorem d_Md_served_1 : decode b_Md_served 1 = .ok (.invokestatic 186, 3) := by decide +kernel
set_option maxRecDepth 100000 in
theorem d_Md_served_4 : decode b_Md_served 4 = .ok (.ifCond .ne 7, 3) := by decide +kernel
set_option maxRecDepth 100000 in
theorem d_Md_served_7 : decode b_Md_served 7 = .ok (.iconst (-1), 1) := by decide +kernel
set_option maxRecDepth 100000 in
theorem d_Md_served_8 : decode b_Md_served 8 = .ok (.goto 23, 3) := by decide +kernel
set_option maxRecDepth 100000 in
theorem d_Md_served_11 : decode b_Md_served 11 = .ok (.aload_n 0, 1) := by decide +kernel
set_option maxRecDepth 100000 in
theorem d_Md_served_12 : decode b_Md_served 12 = .ok (.getfield 58, 3) := by decide +kernel
set_option maxRecDepth 100000 in
theorem d_Md_served_15 : decode b_Md_served 15 = .ok (.iload_n 1, 1) := by decide +kernel
set_option maxRecDepth 100000 in
theorem d_Md_served_16 : decode b_Md_served 16 = .ok (.iaload, 1) := by decide +kernel
set_option maxRecDepth 100000 in
theorem d_Md_served_17 : decode b_Md_served 17 = .ok (.iconst 1, 1) := by decide +kernel
set_option maxRecDepth 100000 in
theorem d_Md_served_18 : decode b_Md_served 18 = .ok (.if_icmp .eq 8, 3) := by decide +kernel
set_option maxRecDepth 100000 in
theorem d_Md_served_21 : decode b_Md_served 21 = .ok (.bipush (-2), 2) := by decide +kernel
set_option maxRecDepth 100000 in
theorem d_Md_served_23 : decode b_Md_served 23 = .ok (.goto 8, 3) := by decide +kernel
set_option maxRecDepth 100000 in
theorem d_Md_served_31 : decode b_Md_served 31 = .ok (.ireturn, 1) := by decide +kernel
set_option maxRecDepth 100000 in
theorem d_Md_sink_0 : decode b_Md_sink 0 = .ok (.aload_n 0, 1) := by decide +kernel
set_option maxRecDepth 100000 in
theorem d_Md_sink_1 : decode b_Md_sink 1 = .ok (.iload_n 1, 1) := by decide +kernel
set_option maxRecDepth 100000 in
theorem d_Md_sink_2 : decode b_Md_sink 2 = .ok (.invokevirtual 209, 3) := by decide +kernel
set_option maxRecDepth 100000 in
theorem d_Md_sink_5 : decode b_Md_sink 5 = .ok (.ifCond .eq 11, 3) := by decide +kernel
set_option maxRecDepth 100000 in
theorem d_Md_sink_16 : decode b_Md_sink 16 = .ok (.iconst (-1), 1) := by decide +kernel
set_option maxRecDepth 100000 in
theorem d_Md_sink_17 : decode b_Md_sink 17 = .ok (.ireturn, 1) := by decide +kernel
set_option maxRecDepth 100000 in
theorem d_Md_stairs_0 : decode b_Md_stairs 0 = .ok (.iload_n 1, 1) := by decide +kernel
set_option maxRecDepth 100000 in
theorem d_Md_stairs_1 : decode b_Md_stairs 1 = .ok (.iconst 0, 1) := by decide +kernel
set_option maxRecDepth 100000 in
theorem d_Md_stairs_2 : decode b_Md_stairs 2 = .ok (.bipush 60, 2) := by decide +kernel
set_option maxRecDepth 100000 in
theorem d_Md_stairs_4 : decode b_Md_stairs 4 = .ok (.invokestatic 10, 3) := by decide +kernel
set_option maxRecDepth 100000 in
theorem d_Md_stairs_7 : decode b_Md_stairs 7 = .ok (.ifCond .eq 25, 3) := by decide +kernel
set_option maxRecDepth 100000 in
theorem d_Md_stairs_10 : decode b_Md_stairs 10 = .ok (.aload_n 0, 1) := by decide +kernel
set_option maxRecDepth 100000 in
theorem d_Md_stairs_11 : decode b_Md_stairs 11 = .ok (.getfield 14, 3) := by decide +kernel
set_option maxRecDepth 100000 in
theorem d_Md_stairs_14 : decode b_Md_stairs 14 = .ok (.ifCond .le 20, 3) := by decide +kernel
set_option maxRecDepth 100000 in
theorem d_Md_stairs_32 : decode b_Md_stairs 32 = .ok (.iconst (-1), 1) := by decide +kernel
set_option maxRecDepth 100000 in
theorem d_Md_stairs_33 : decode b_Md_stairs 33 = .ok (.ireturn, 1) := by decide +kernel
set_option maxRecDepth 100000 in
theorem d_Md_stairs_34 : decode b_Md_stairs 34 = .ok (.aload_n 0, 1) := by decide +kernel
set_option maxRecDepth 100000 in
theorem d_Md_stairs_35 : decode b_Md_stairs 35 = .ok (.getfield 14, 3) := by decide +kernel
set_option maxRecDepth 100000 in
theorem d_Md_stairs_38 : decode b_Md_stairs 38 = .ok (.bipush 12, 2) := by decide +kernel
set_option maxRecDepth 100000 in
theorem d_Md_stairs_40 : decode b_Md_stairs 40 = .ok (.if_icmp .ne 6, 3) := by decide +kernel
set_option maxRecDepth 100000 in
theorem d_Md_stairs_46 : decode b_Md_stairs 46 = .ok (.aload_n 0, 1) := by decide +kernel
set_option maxRecDepth 100000 in
theorem d_Md_stairs_47 : decode b_Md_stairs 47 = .ok (.getfield 32, 3) := by decide +kernel
set_option maxRecDepth 100000 in
theorem d_Md_stairs_50 : decode b_Md_stairs 50 = .ok (.aload_n 0, 1) := by decide +kernel
set_option maxRecDepth 100000 in
theorem d_Md_stairs_51 : decode b_Md_stairs 51 = .ok (.getfield 14, 3) := by decide +kernel
set_option maxRecDepth 100000 in
theorem d_Md_stairs_54 : decode b_Md_stairs 54 = .ok (.iload_n 1, 1) := by decide +kernel
set_option maxRecDepth 100000 in
theorem d_Md_stairs_55 : decode b_Md_stairs 55 = .ok (.iastore, 1) := by decide +kernel
set_option maxRecDepth 100000 in
theorem d_Md_stairs_56 : decode b_Md_stairs 56 = .ok (.aload_n 0, 1) := by decide +kernel
set_option maxRecDepth 100000 in
theorem d_Md_stairs_57 : decode b_Md_stairs 57 = .ok (.dup, 1) := by decide +kernel
set_option maxRecDepth 100000 in
theorem d_Md_stairs_58 : decode b_Md_stairs 58 = .ok (.getfield 14, 3) := by decide +kernel
set_option maxRecDepth 100000 in
theorem d_Md_stairs_61 : decode b_Md_stairs 61 = .ok (.iconst 1, 1) := by decide +kernel
set_option maxRecDepth 100000 in
theorem d_Md_stairs_62 : decode b_Md_stairs 62 = .ok (.iadd, 1) := by decide +kernel
set_option maxRecDepth 100000 in
theorem d_Md_stairs_63 : decode b_Md_stairs 63 = .ok (.putfield 14, 3) := by decide +kernel
set_option maxRecDepth 100000 in
theorem d_Md_stairs_66 : decode b_Md_stairs 66 = .ok (.aload_n 0, 1) := by decide +kernel
set_option maxRecDepth 100000 in
theorem d_Md_stairs_67 : decode b_Md_stairs 67 = .ok (.getfield 14, 3) := by decide +kernel
set_option maxRecDepth 100000 in
theorem d_Md_stairs_70 : decode b_Md_stairs 70 = .ok (.iconst 1, 1) := by decide +kernel
set_option maxRecDepth 100000 in
theorem d_Md_stairs_71 : decode b_Md_stairs 71 = .ok (.isub, 1) := by decide +kernel
set_option maxRecDepth 100000 in
theorem d_Md_stairs_72 : decode b_Md_stairs 72 = .ok (.ireturn, 1) := by decide +kernel
set_option maxRecDepth 100000 in
theorem d_Md_table_0 : decode b_Md_table 0 = .ok (.iload_n 1, 1) := by decide +kernel
set_option maxRecDepth 100000 in
theorem d_Md_table_1 : decode b_Md_table 1 = .ok (.iconst 0, 1) := by decide +kernel
set_option maxRecDepth 100000 in
theorem d_Md_table_2 : decode b_Md_table 2 = .ok (.bipush 11, 2) := by decide +kernel
set_option maxRecDepth 100000 in
theorem d_Md_table_4 : decode b_Md_table 4 = .ok (.invokestatic 10, 3) := by decide +kernel
set_option maxRecDepth 100000 in
theorem d_Md_table_7 : decode b_Md_table 7 = .ok (.ifCond .eq 14, 3) := by decide +kernel
set_option maxRecDepth 100000 in
theorem d_Md_table_10 : decode b_Md_table 10 = .ok (.iload_n 2, 1) := by decide +kernel
set_option maxRecDepth 100000 in
theorem d_Md_table_11 : decode b_Md_table 11 = .ok (.bipush (-90), 2) := by decide +kernel
set_option maxRecDepth 100000 in
theorem d_Md_table_13 : decode b_Md_table 13 = .ok (.bipush 90, 2) := by decide +kernel
set_option maxRecDepth 100000 in
theorem d_Md_table_15 : decode b_Md_table 15 = .ok (.invokestatic 10, 3) := by decide +kernel
set_option maxRecDepth 100000 in
theorem d_Md_table_18 : decode b_Md_table 18 = .ok (.ifCond .ne 7, 3) := by decide +kernel
set_option maxRecDepth 100000 in
theorem d_Md_table_21 : decode b_Md_table 21 = .ok (.sipush (-1000), 3) := by decide +kernel
set_option maxRecDepth 100000 in
theorem d_Md_table_24 : decode b_Md_table 24 = .ok (.ireturn, 1) := by decide +kernel
set_option maxRecDepth 100000 in
theorem d_Md_table_25 : decode b_Md_table 25 = .ok (.aload_n 0, 1) := by decide +kernel
set_option maxRecDepth 100000 in
theorem d_Md_table_26 : decode b_Md_table 26 = .ok (.getfield 25, 3) := by decide +kernel
set_option maxRecDepth 100000 in
theorem d_Md_table_29 : decode b_Md_table 29 = .ok (.iload_n 1, 1) := by decide +kernel
set_option maxRecDepth 100000 in
theorem d_Md_table_30 : decode b_Md_table 30 = .ok (.iaload, 1) := by decide +kernel
set_option maxRecDepth 100000 in
theorem d_Md_table_31 : decode b_Md_table 31 = .ok (.istore_n 3, 1) := by decide +kernel
set_option maxRecDepth 100000 in
theorem d_Md_table_32 : decode b_Md_table 32 = .ok (.aload_n 0, 1) := by decide +kernel
set_option maxRecDepth 100000 in
theorem d_Md_table_33 : decode b_Md_table 33 = .ok (.getfield 25, 3) := by decide +kernel
set_option maxRecDepth 100000 in
theorem d_Md_table_36 : decode b_Md_table 36 = .ok (.iload_n 1, 1) := by decide +kernel
set_option maxRecDepth 100000 in
theorem d_Md_table_37 : decode b_Md_table 37 = .ok (.iload_n 2, 1) := by decide +kernel
set_option maxRecDepth 100000 in
theorem d_Md_table_38 : decode b_Md_table 38 = .ok (.iastore, 1) := by decide +kernel
set_option maxRecDepth 100000 in
theorem d_Md_table_39 : decode b_Md_table 39 = .ok (.iload_n 3, 1) := by decide +kernel
set_option maxRecDepth 100000 in
theorem d_Md_table_40 : decode b_Md_table 40 = .ok (.ireturn, 1) := by decide +kernel
set_option maxRecDepth 100000 in
theorem d_Md_today_0 : decode b_Md_today 0 = .ok (.aload_n 0, 1) := by decide +kernel
set_option maxRecDepth 100000 in
theorem d_Md_today_1 : decode b_Md_today 1 = .ok (.getfield 7, 3) := by decide +kernel
set_option maxRecDepth 100000 in
theorem d_Md_today_4 : decode b_Md_today 4 = .ok (.sipush 720, 3) := by decide +kernel
set_option maxRecDepth 100000 in
theorem d_Md_today_7 : decode b_Md_today 7 = .ok (.idiv, 1) := by decide +kernel
set_option maxRecDepth 100000 in
theorem d_Md_today_8 : decode b_Md_today 8 = .ok (.ireturn, 1) := by decide +kernel
set_option maxRecDepth 100000 in
theorem d_Md_trip_0 : decode b_Md_trip 0 = .ok (.iload_n 1, 1) := by decide +kernel
set_option maxRecDepth 100000 in
theorem d_Md_trip_1 : decode b_Md_trip 1 = .ok (.iconst 0, 1) := by decide +kernel
set_option maxRecDepth 100000 in
theorem d_Md_trip_2 : decode b_Md_trip 2 = .ok (.aload_n 0, 1) := by decide +kernel
set_option maxRecDepth 100000 in
theorem d_Md_trip_3 : decode b_Md_trip 3 = .ok (.getfield 313, 3) := by decide +kernel
set_option maxRecDepth 100000 in
theorem d_Md_trip_6 : decode b_Md_trip 6 = .ok (.iconst 1, 1) := by decide +kernel
set_option maxRecDepth 100000 in
theorem d_Md_trip_7 : decode b_Md_trip 7 = .ok (.isub, 1) := by decide +kernel
set_option maxRecDepth 100000 in
theorem d_Md_trip_8 : decode b_Md_trip 8 = .ok (.invokestatic 10, 3) := by decide +kernel
set_option maxRecDepth 100000 in
theorem d_Md_trip_11 : decode b_Md_trip 11 = .ok (.ifCond .ne 6, 3) := by decide +kernel
set_option maxRecDepth 100000 in
theorem d_Md_trip_14 : decode b_Md_trip 14 = .ok (.bipush (-2), 2) := by decide +kernel
set_option maxRecDepth 100000 in
theorem d_Md_trip_16 : decode b_Md_trip 16 = .ok (.ireturn, 1) := by decide +kernel
set_option maxRecDepth 100000 in
theorem d_Md_why_0 : decode b_Md_why 0 = .ok (.aload_n 0, 1) := by decide +kernel
set_option maxRecDepth 100000 in
theorem d_Md_why_1 : decode b_Md_why 1 = .ok (.iload_n 1, 1) := by decide +kernel
set_option maxRecDepth 100000 in
theorem d_Md_why_2 : decode b_Md_why 2 = .ok (.iload_n 2, 1) := by decide +kernel
set_option maxRecDepth 100000 in
theorem d_Md_why_3 : decode b_Md_why 3 = .ok (.iload_n 3, 1) := by decide +kernel
set_option maxRecDepth 100000 in
theorem d_Md_why_4 : decode b_Md_why 4 = .ok (.invokevirtual 306, 3) := by decide +kernel
set_option maxRecDepth 100000 in
theorem d_Md_why_7 : decode b_Md_why 7 = .ok (.ifCond .eq 13, 3) := by decide +kernel
set_option maxRecDepth 100000 in
theorem d_Md_why_20 : decode b_Md_why 20 = .ok (.iconst (-1), 1) := by decide +kernel
set_option maxRecDepth 100000 in
theorem d_Md_why_21 : decode b_Md_why 21 = .ok (.ireturn, 1) := by decide +kernel
set_option maxRecDepth 100000 in
theorem d_Mn_isOnWay_0 : decode b_Mn_isOnWay 0 = .ok (.iload_n 1, 1) := by decide +kernel
set_option maxRecDepth 100000 in
theorem d_Mn_isOnWay_1 : decode b_Mn_isOnWay 1 = .ok (.aload_n 0, 1) := by decide +kernel
set_option maxRecDepth 100000 in
theorem d_Mn_isOnWay_2 : decode b_Mn_isOnWay 2 = .ok (.getfield 21, 3) := by decide +kernel
set_option maxRecDepth 100000 in
theorem d_Mn_isOnWay_5 : decode b_Mn_isOnWay 5 = .ok (.if_icmp .ge 7, 3) := by decide +kernel
set_option maxRecDepth 100000 in
theorem d_Mn_isOnWay_8 : decode b_Mn_isOnWay 8 = .ok (.iconst 1, 1) := by decide +kernel
set_option maxRecDepth 100000 in
theorem d_Mn_isOnWay_9 : decode b_Mn_isOnWay 9 = .ok (.goto 4, 3) := by decide +kernel
set_option maxRecDepth 100000 in
theorem d_Mn_isOnWay_12 : decode b_Mn_isOnWay 12 = .ok (.iconst 0, 1) := by decide +kernel
set_option maxRecDepth 100000 in
theorem d_Mn_isOnWay_13 : decode b_Mn_isOnWay 13 = .ok (.ireturn, 1) := by decide +kernel
set_option maxRecDepth 100000 in
theorem d_Rv_addStairs_0 : decode b_Rv_addStairs 0 = .ok (.aload_n 0, 1) := by decide +kernel
set_option maxRecDepth 100000 in
theorem d_Rv_addStairs_1 : decode b_Rv_addStairs 1 = .ok (.getfield 9, 3) := by decide +kernel
set_option maxRecDepth 100000 in
theorem d_Rv_addStairs_4 : decode b_Rv_addStairs 4 = .ok (.aload_n 0, 1) := by decide +kernel
set_option maxRecDepth 100000 in
theorem d_Rv_addStairs_5 : decode b_Rv_addStairs 5 = .ok (.getfield 35, 3) := by decide +kernel
set_option maxRecDepth 100000 in
theorem d_Rv_addStairs_8 : decode b_Rv_addStairs 8 = .ok (.iload_n 1, 1) := by decide +kernel
set_option maxRecDepth 100000 in
theorem d_Rv_addStairs_9 : decode b_Rv_addStairs 9 = .ok (.iastore, 1) := by decide +kernel
set_option maxRecDepth 100000 in
theorem d_Rv_addStairs_10 : decode b_Rv_addStairs 10 = .ok (.aload_n 0, 1) := by decide +kernel
set_option maxRecDepth 100000 in
theorem d_Rv_addStairs_11 : decode b_Rv_addStairs 11 = .ok (.dup, 1) := by decide +kernel
set_option maxRecDepth 100000 in
theorem d_Rv_addStairs_12 : decode b_Rv_addStairs 12 = .ok (.getfield 35, 3) := by decide +kernel
set_option maxRecDepth 100000 in
theorem d_Rv_addStairs_15 : decode b_Rv_addStairs 15 = .ok (.iconst 1, 1) := by decide +kernel
set_option maxRecDepth 100000 in
theorem d_Rv_addStairs_16 : decode b_Rv_addStairs 16 = .ok (.iadd, 1) := by decide +kernel
set_option maxRecDepth 100000 in
theorem d_Rv_addStairs_17 : decode b_Rv_addStairs 17 = .ok (.putfield 35, 3) := by decide +kernel
set_option maxRecDepth 100000 in
theorem d_Rv_addStairs_20 : decode b_Rv_addStairs 20 = .ok (.aload_n 0, 1) := by decide +kernel
set_option maxRecDepth 100000 in
theorem d_Rv_addStairs_21 : decode b_Rv_addStairs 21 = .ok (.getfield 35, 3) := by decide +kernel
set_option maxRecDepth 100000 in
theorem d_Rv_addStairs_24 : decode b_Rv_addStairs 24 = .ok (.iconst 1, 1) := by decide +kernel
set_option maxRecDepth 100000 in
theorem d_Rv_addStairs_25 : decode b_Rv_addStairs 25 = .ok (.isub, 1) := by decide +kernel
set_option maxRecDepth 100000 in
theorem d_Rv_addStairs_26 : decode b_Rv_addStairs 26 = .ok (.ireturn, 1) := by decide +kernel
set_option maxRecDepth 100000 in
theorem d_Rv_flowIn_0 : decode b_Rv_flowIn 0 = .ok (.iload_n 2, 1) := by decide +kernel
set_option maxRecDepth 100000 in
theorem d_Rv_flowIn_1 : decode b_Rv_flowIn 1 = .ok (.bipush 11, 2) := by decide +kernel
set_option maxRecDepth 100000 in
theorem d_Rv_flowIn_3 : decode b_Rv_flowIn 3 = .ok (.if_icmp .ne 14, 3) := by decide +kernel
set_option maxRecDepth 100000 in
theorem d_Rv_flowIn_6 : decode b_Rv_flowIn 6 = .ok (.aload_n 0, 1) := by decide +kernel
set_option maxRecDepth 100000 in
theorem d_Rv_flowIn_7 : decode b_Rv_flowIn 7 = .ok (.iload_n 1, 1) := by decide +kernel
set_option maxRecDepth 100000 in
theorem d_Rv_flowIn_8 : decode b_Rv_flowIn 8 = .ok (.iconst 1, 1) := by decide +kernel
set_option maxRecDepth 100000 in
theorem d_Rv_flowIn_9 : decode b_Rv_flowIn 9 = .ok (.iadd, 1) := by decide +kernel
set_option maxRecDepth 100000 in
theorem d_Rv_flowIn_10 : decode b_Rv_flowIn 10 = .ok (.iconst 0, 1) := by decide +kernel
set_option maxRecDepth 100000 in
theorem d_Rv_flowIn_11 : decode b_Rv_flowIn 11 = .ok (.invokevirtual 51, 3) := by decide +kernel
set_option maxRecDepth 100000 in
theorem d_Rv_flowIn_14 : decode b_Rv_flowIn 14 = .ok (.goto 11, 3) := by decide +kernel
set_option maxRecDepth 100000 in
theorem d_Rv_flowIn_17 : decode b_Rv_flowIn 17 = .ok (.aload_n 0, 1) := by decide +kernel
set_option maxRecDepth 100000 in
theorem d_Rv_flowIn_18 : decode b_Rv_flowIn 18 = .ok (.iload_n 1, 1) := by decide +kernel
set_option maxRecDepth 100000 in
theorem d_Rv_flowIn_19 : decode b_Rv_flowIn 19 = .ok (.iload_n 2, 1) := by decide +kernel
set_option maxRecDepth 100000 in
theorem d_Rv_flowIn_20 : decode b_Rv_flowIn 20 = .ok (.iconst 1, 1) := by decide +kernel
set_option maxRecDepth 100000 in
theorem d_Rv_flowIn_21 : decode b_Rv_flowIn 21 = .ok (.iadd, 1) := by decide +kernel
set_option maxRecDepth 100000 in
theorem d_Rv_flowIn_22 : decode b_Rv_flowIn 22 = .ok (.invokevirtual 51, 3) := by decide +kernel
set_option maxRecDepth 100000 in
theorem d_Rv_flowIn_25 : decode b_Rv_flowIn 25 = .ok (.istore_n 3, 1) := by decide +kernel
set_option maxRecDepth 100000 in
theorem d_Rv_flowIn_26 : decode b_Rv_flowIn 26 = .ok (.iload_n 3, 1) := by decide +kernel
set_option maxRecDepth 100000 in
theorem d_Rv_flowIn_27 : decode b_Rv_flowIn 27 = .ok (.aload_n 0, 1) := by decide +kernel
set_option maxRecDepth 100000 in
theorem d_Rv_flowIn_28 : decode b_Rv_flowIn 28 = .ok (.iload_n 1, 1) := by decide +kernel
set_option maxRecDepth 100000 in
theorem d_Rv_flowIn_29 : decode b_Rv_flowIn 29 = .ok (.iload_n 2, 1) := by decide +kernel
set_option maxRecDepth 100000 in
theorem d_Rv_flowIn_30 : decode b_Rv_flowIn 30 = .ok (.invokevirtual 51, 3) := by decide +kernel
set_option maxRecDepth 100000 in
theorem d_Rv_flowIn_33 : decode b_Rv_flowIn 33 = .ok (.isub, 1) := by decide +kernel
set_option maxRecDepth 100000 in
theorem d_Rv_flowIn_34 : decode b_Rv_flowIn 34 = .ok (.ireturn, 1) := by decide +kernel
set_option maxRecDepth 100000 in
theorem d_Rv_hasStairs_0 : decode b_Rv_hasStairs 0 = .ok (.iload_n 1, 1) := by decide +kernel
set_option maxRecDepth 100000 in
theorem d_Rv_hasStairs_1 : decode b_Rv_hasStairs 1 = .ok (.ifCond .lt 15, 3) := by decide +kernel
set_option maxRecDepth 100000 in
theorem d_Rv_hasStairs_4 : decode b_Rv_hasStairs 4 = .ok (.iload_n 1, 1) := by decide +kernel
set_option maxRecDepth 100000 in
theorem d_Rv_hasStairs_5 : decode b_Rv_hasStairs 5 = .ok (.aload_n 0, 1) := by decide +kernel
set_option maxRecDepth 100000 in
theorem d_Rv_hasStairs_6 : decode b_Rv_hasStairs 6 = .ok (.getfield 35, 3) := by decide +kernel
set_option maxRecDepth 100000 in
theorem d_Rv_hasStairs_9 : decode b_Rv_hasStairs 9 = .ok (.if_icmp .ge 7, 3) := by decide +kernel
set_option maxRecDepth 100000 in
theorem d_Rv_hasStairs_16 : decode b_Rv_hasStairs 16 = .ok (.iconst 0, 1) := by decide +kernel
set_option maxRecDepth 100000 in
theorem d_Rv_hasStairs_17 : decode b_Rv_hasStairs 17 = .ok (.ireturn, 1) := by decide +kernel
set_option maxRecDepth 100000 in
theorem d_Rv_height_0 : decode b_Rv_height 0 = .ok (.iload_n 1, 1) := by decide +kernel
set_option maxRecDepth 100000 in
theorem d_Rv_height_1 : decode b_Rv_height 1 = .ok (.sipush 500, 3) := by decide +kernel
set_option maxRecDepth 100000 in
theorem d_Rv_height_4 : decode b_Rv_height 4 = .ok (.if_icmp .ge 12, 3) := by decide +kernel
set_option maxRecDepth 100000 in
theorem d_Rv_height_7 : decode b_Rv_height 7 = .ok (.aload_n 0, 1) := by decide +kernel
set_option maxRecDepth 100000 in
theorem d_Rv_height_8 : decode b_Rv_height 8 = .ok (.getfield 19, 3) := by decide +kernel
set_option maxRecDepth 100000 in
theorem d_Rv_height_11 : decode b_Rv_height 11 = .ok (.iload_n 1, 1) := by decide +kernel
set_option maxRecDepth 100000 in
theorem d_Rv_height_12 : decode b_Rv_height 12 = .ok (.aaload, 1) := by decide +kernel
set_option maxRecDepth 100000 in
theorem d_Rv_height_13 : decode b_Rv_height 13 = .ok (.goto 4, 3) := by decide +kernel
set_option maxRecDepth 100000 in
theorem d_Rv_height_16 : decode b_Rv_height 16 = .ok (.aconst_null, 1) := by decide +kernel
set_option maxRecDepth 100000 in
theorem d_Rv_height_17 : decode b_Rv_height 17 = .ok (.astore_n 3, 1) := by decide +kernel
set_option maxRecDepth 100000 in
theorem d_Rv_height_18 : decode b_Rv_height 18 = .ok (.aload_n 3, 1) := by decide +kernel
set_option maxRecDepth 100000 in
theorem d_Rv_height_19 : decode b_Rv_height 19 = .ok (.ifnonnull 17, 3) := by decide +kernel
set_option maxRecDepth 100000 in
theorem d_Rv_height_22 : decode b_Rv_height 22 = .ok (.aload_n 0, 1) := by decide +kernel
set_option maxRecDepth 100000 in
theorem d_Rv_height_23 : decode b_Rv_height 23 = .ok (.getfield 15, 3) := by decide +kernel
set_option maxRecDepth 100000 in
theorem d_Rv_height_26 : decode b_Rv_height 26 = .ok (.iload_n 2, 1) := by decide +kernel
set_option maxRecDepth 100000 in
theorem d_Rv_height_27 : decode b_Rv_height 27 = .ok (.iload_n 1, 1) := by decide +kernel
set_option maxRecDepth 100000 in
theorem d_Rv_height_28 : decode b_Rv_height 28 = .ok (.iadd, 1) := by decide +kernel
set_option maxRecDepth 100000 in
theorem d_Rv_height_29 : decode b_Rv_height 29 = .ok (.bipush 12, 2) := by decide +kernel
set_option maxRecDepth 100000 in
theorem d_Rv_height_31 : decode b_Rv_height 31 = .ok (.irem, 1) := by decide +kernel
set_option maxRecDepth 100000 in
theorem d_Rv_height_32 : decode b_Rv_height 32 = .ok (.iaload, 1) := by decide +kernel
set_option maxRecDepth 100000 in
theorem d_Rv_height_33 : decode b_Rv_height 33 = .ok (.goto 6, 3) := by decide +kernel
set_option maxRecDepth 100000 in
theorem d_Rv_height_39 : decode b_Rv_height 39 = .ok (.ireturn, 1) := by decide +kernel
set_option maxRecDepth 100000 in
theorem d_Rv_highest_0 : decode b_Rv_highest 0 = .ok (.aload_n 0, 1) := by decide +kernel
set_option maxRecDepth 100000 in
theorem d_Rv_highest_1 : decode b_Rv_highest 1 = .ok (.getfield 35, 3) := by decide +kernel
set_option maxRecDepth 100000 in
theorem d_Rv_highest_4 : decode b_Rv_highest 4 = .ok (.ifCond .ne 7, 3) := by decide +kernel
set_option maxRecDepth 100000 in
theorem d_Rv_highest_7 : decode b_Rv_highest 7 = .ok (.iconst (-1), 1) := by decide +kernel
set_option maxRecDepth 100000 in
theorem d_Rv_highest_8 : decode b_Rv_highest 8 = .ok (.goto 14, 3) := by decide +kernel
set_option maxRecDepth 100000 in
theorem d_Rv_highest_22 : decode b_Rv_highest 22 = .ok (.ireturn, 1) := by decide +kernel
set_option maxRecDepth 100000 in
theorem d_Rv_isFrozen_0 : decode b_Rv_isFrozen 0 = .ok (.iload_n 1, 1) := by decide +kernel
set_option maxRecDepth 100000 in
theorem d_Rv_isFrozen_1 : decode b_Rv_isFrozen 1 = .ok (.invokestatic 31, 3) := by decide +kernel
set_option maxRecDepth 100000 in
theorem d_Rv_isFrozen_4 : decode b_Rv_isFrozen 4 = .ok (.ifCond .eq 16, 3) := by decide +kernel
set_option maxRecDepth 100000 in
theorem d_Rv_isFrozen_7 : decode b_Rv_isFrozen 7 = .ok (.aload_n 0, 1) := by decide +kernel
set_option maxRecDepth 100000 in
theorem d_Rv_isFrozen_8 : decode b_Rv_isFrozen 8 = .ok (.getfield 23, 3) := by decide +kernel
set_option maxRecDepth 100000 in
theorem d_Rv_isFrozen_11 : decode b_Rv_isFrozen 11 = .ok (.iload_n 1, 1) := by decide +kernel
set_option maxRecDepth 100000 in
theorem d_Rv_isFrozen_12 : decode b_Rv_isFrozen 12 = .ok (.baload, 1) := by decide +kernel
set_option maxRecDepth 100000 in
theorem d_Rv_isFrozen_13 : decode b_Rv_isFrozen 13 = .ok (.ifCond .eq 7, 3) := by decide +kernel
set_option maxRecDepth 100000 in
theorem d_Rv_isFrozen_20 : decode b_Rv_isFrozen 20 = .ok (.iconst 0, 1) := by decide +kernel
set_option maxRecDepth 100000 in
theorem d_Rv_isFrozen_21 : decode b_Rv_isFrozen 21 = .ok (.ireturn, 1) := by decide +kernel
set_option maxRecDepth 100000 in
theorem d_Rv_tell_0 : decode b_Rv_tell 0 = .ok (.aload_n 0, 1) := by decide +kernel
set_option maxRecDepth 100000 in
theorem d_Rv_tell_1 : decode b_Rv_tell 1 = .ok (.getfield 19, 3) := by decide +kernel
set_option maxRecDepth 100000 in
theorem d_Rv_tell_4 : decode b_Rv_tell 4 = .ok (.iload_n 1, 1) := by decide +kernel
set_option maxRecDepth 100000 in
theorem d_Rv_tell_5 : decode b_Rv_tell 5 = .ok (.aaload, 1) := by decide +kernel
set_option maxRecDepth 100000 in
theorem d_Rv_tell_6 : decode b_Rv_tell 6 = .ok (.astore 4, 2) := by decide +kernel
set_option maxRecDepth 100000 in
theorem d_Rv_tell_8 : decode b_Rv_tell 8 = .ok (.aload 4, 2) := by decide +kernel
set_option maxRecDepth 100000 in
theorem d_Rv_tell_10 : decode b_Rv_tell 10 = .ok (.ifnonnull 50, 3) := by decide +kernel
set_option maxRecDepth 100000 in
theorem d_Rv_tell_13 : decode b_Rv_tell 13 = .ok (.bipush 12, 2) := by decide +kernel
set_option maxRecDepth 100000 in
theorem d_Rv_tell_15 : decode b_Rv_tell 15 = .ok (.newarray .int, 2) := by decide +kernel
set_option maxRecDepth 100000 in
theorem d_Rv_tell_17 : decode b_Rv_tell 17 = .ok (.astore 4, 2) := by decide +kernel
set_option maxRecDepth 100000 in
theorem d_Rv_tell_19 : decode b_Rv_tell 19 = .ok (.iconst 0, 1) := by decide +kernel
set_option maxRecDepth 100000 in
theorem d_Rv_tell_20 : decode b_Rv_tell 20 = .ok (.istore 5, 2) := by decide +kernel
set_option maxRecDepth 100000 in
theorem d_Rv_tell_22 : decode b_Rv_tell 22 = .ok (.iload 5, 2) := by decide +kernel
set_option maxRecDepth 100000 in
theorem d_Rv_tell_24 : decode b_Rv_tell 24 = .ok (.bipush 12, 2) := by decide +kernel
set_option maxRecDepth 100000 in
theorem d_Rv_tell_26 : decode b_Rv_tell 26 = .ok (.if_icmp .ge 26, 3) := by decide +kernel
set_option maxRecDepth 100000 in
theorem d_Rv_tell_29 : decode b_Rv_tell 29 = .ok (.aload 4, 2) := by decide +kernel
set_option maxRecDepth 100000 in
theorem d_Rv_tell_31 : decode b_Rv_tell 31 = .ok (.iload 5, 2) := by decide +kernel
set_option maxRecDepth 100000 in
theorem d_Rv_tell_33 : decode b_Rv_tell 33 = .ok (.aload_n 0, 1) := by decide +kernel
set_option maxRecDepth 100000 in
theorem d_Rv_tell_34 : decode b_Rv_tell 34 = .ok (.getfield 15, 3) := by decide +kernel
set_option maxRecDepth 100000 in
theorem d_Rv_tell_37 : decode b_Rv_tell 37 = .ok (.iload 5, 2) := by decide +kernel
set_option maxRecDepth 100000 in
theorem d_Rv_tell_39 : decode b_Rv_tell 39 = .ok (.iload_n 1, 1) := by decide +kernel
set_option maxRecDepth 100000 in
theorem d_Rv_tell_40 : decode b_Rv_tell 40 = .ok (.iadd, 1) := by decide +kernel
set_option maxRecDepth 100000 in
theorem d_Rv_tell_41 : decode b_Rv_tell 41 = .ok (.bipush 12, 2) := by decide +kernel
set_option maxRecDepth 100000 in
theorem d_Rv_tell_43 : decode b_Rv_tell 43 = .ok (.irem, 1) := by decide +kernel
set_option maxRecDepth 100000 in
theorem d_Rv_tell_44 : decode b_Rv_tell 44 = .ok (.iaload, 1) := by decide +kernel
set_option maxRecDepth 100000 in
theorem d_Rv_tell_45 : decode b_Rv_tell 45 = .ok (.iastore, 1) := by decide +kernel
set_option maxRecDepth 100000 in
theorem d_Rv_tell_46 : decode b_Rv_tell 46 = .ok (.iinc 5 1, 3) := by decide +kernel
set_option maxRecDepth 100000 in
theorem d_Rv_tell_49 : decode b_Rv_tell 49 = .ok (.goto (-27), 3) := by decide +kernel
set_option maxRecDepth 100000 in
theorem d_Rv_tell_52 : decode b_Rv_tell 52 = .ok (.aload_n 0, 1) := by decide +kernel
set_option maxRecDepth 100000 in
theorem d_Rv_tell_53 : decode b_Rv_tell 53 = .ok (.getfield 19, 3) := by decide +kernel
set_option maxRecDepth 100000 in
theorem d_Rv_tell_56 : decode b_Rv_tell 56 = .ok (.iload_n 1, 1) := by decide +kernel
set_option maxRecDepth 100000 in
theorem d_Rv_tell_57 : decode b_Rv_tell 57 = .ok (.aload 4, 2) := by decide +kernel
set_option maxRecDepth 100000 in
theorem d_Rv_tell_59 : decode b_Rv_tell 59 = .ok (.aastore, 1) := by decide +kernel
set_option maxRecDepth 100000 in
theorem d_Rv_tell_60 : decode b_Rv_tell 60 = .ok (.aload 4, 2) := by decide +kernel
set_option maxRecDepth 100000 in
theorem d_Rv_tell_62 : decode b_Rv_tell 62 = .ok (.iload_n 2, 1) := by decide +kernel
set_option maxRecDepth 100000 in
theorem d_Rv_tell_63 : decode b_Rv_tell 63 = .ok (.iload_n 3, 1) := by decide +kernel
set_option maxRecDepth 100000 in
theorem d_Rv_tell_64 : decode b_Rv_tell 64 = .ok (.iastore, 1) := by decide +kernel
set_option maxRecDepth 100000 in
theorem d_Rv_tell_65 : decode b_Rv_tell 65 = .ok (.return_, 1) := by decide +kernel
set_option maxRecDepth 100000 in
theorem d_WM_absent_0 : decode b_WM_absent 0 = .ok (.aload_n 0, 1) := by decide +kernel
set_option maxRecDepth 100000 in
theorem d_WM_absent_1 : decode b_WM_absent 1 = .ok (.iload_n 1, 1) := by decide +kernel
set_option maxRecDepth 100000 in
theorem d_WM_absent_2 : decode b_WM_absent 2 = .ok (.invokevirtual 107, 3) := by decide +kernel
set_option maxRecDepth 100000 in
theorem d_WM_absent_5 : decode b_WM_absent 5 = .ok (.astore 4, 2) := by decide +kernel
set_option maxRecDepth 100000 in
theorem d_WM_absent_7 : decode b_WM_absent 7 = .ok (.aload 4, 2) := by decide +kernel
set_option maxRecDepth 100000 in
theorem d_WM_absent_9 : decode b_WM_absent 9 = .ok (.ifnull 20, 3) := by decide +kernel
set_option maxRecDepth 100000 in
theorem d_WM_absent_12 : decode b_WM_absent 12 = .ok (.iload_n 2, 1) := by decide +kernel
set_option maxRecDepth 100000 in
theorem d_WM_absent_13 : decode b_WM_absent 13 = .ok (.ifCond .lt 16, 3) := by decide +kernel
set_option maxRecDepth 100000 in
theorem d_WM_absent_16 : decode b_WM_absent 16 = .ok (.iload_n 2, 1) := by decide +kernel
set_option maxRecDepth 100000 in
theorem d_WM_absent_17 : decode b_WM_absent 17 = .ok (.iload_n 3, 1) := by decide +kernel
set_option maxRecDepth 100000 in
theorem d_WM_absent_18 : decode b_WM_absent 18 = .ok (.if_icmp .gt 11, 3) := by decide +kernel
set_option maxRecDepth 100000 in
theorem d_WM_absent_21 : decode b_WM_absent 21 = .ok (.iload_n 3, 1) := by decide +kernel
set_option maxRecDepth 100000 in
theorem d_WM_absent_22 : decode b_WM_absent 22 = .ok (.aload_n 0, 1) := by decide +kernel
set_option maxRecDepth 100000 in
theorem d_WM_absent_23 : decode b_WM_absent 23 = .ok (.invokevirtual 97, 3) := by decide +kernel
set_option maxRecDepth 100000 in
theorem d_WM_absent_26 : decode b_WM_absent 26 = .ok (.if_icmp .le 5, 3) := by decide +kernel
set_option maxRecDepth 100000 in
theorem d_WM_absent_29 : decode b_WM_absent 29 = .ok (.iconst (-1), 1) := by decide +kernel
set_option maxRecDepth 100000 in
theorem d_WM_absent_30 : decode b_WM_absent 30 = .ok (.ireturn, 1) := by decide +kernel
set_option maxRecDepth 100000 in
theorem d_WM_absent_31 : decode b_WM_absent 31 = .ok (.aload 4, 2) := by decide +kernel
set_option maxRecDepth 100000 in
theorem d_WM_absent_33 : decode b_WM_absent 33 = .ok (.getfield 119, 3) := by decide +kernel
set_option maxRecDepth 100000 in
theorem d_WM_absent_36 : decode b_WM_absent 36 = .ok (.astore 5, 2) := by decide +kernel
set_option maxRecDepth 100000 in
theorem d_WM_absent_38 : decode b_WM_absent 38 = .ok (.aload 5, 2) := by decide +kernel
set_option maxRecDepth 100000 in
theorem d_WM_absent_40 : decode b_WM_absent 40 = .ok (.ifnull 14, 3) := by decide +kernel
set_option maxRecDepth 100000 in
theorem d_WM_absent_54 : decode b_WM_absent 54 = .ok (.aload 5, 2) := by decide +kernel
set_option maxRecDepth 100000 in
theorem d_WM_absent_56 : decode b_WM_absent 56 = .ok (.ifnull 22, 3) := by decide +kernel
set_option maxRecDepth 100000 in
theorem d_WM_absent_78 : decode b_WM_absent 78 = .ok (.bipush (-2), 2) := by decide +kernel
set_option maxRecDepth 100000 in
theorem d_WM_absent_80 : decode b_WM_absent 80 = .ok (.ireturn, 1) := by decide +kernel
set_option maxRecDepth 100000 in
theorem d_WM_bind_0 : decode b_WM_bind 0 = .ok (.aload_n 0, 1) := by decide +kernel
set_option maxRecDepth 100000 in
theorem d_WM_bind_1 : decode b_WM_bind 1 = .ok (.iload_n 1, 1) := by decide +kernel
set_option maxRecDepth 100000 in
theorem d_WM_bind_2 : decode b_WM_bind 2 = .ok (.invokevirtual 107, 3) := by decide +kernel
set_option maxRecDepth 100000 in
theorem d_WM_bind_5 : decode b_WM_bind 5 = .ok (.astore_n 3, 1) := by decide +kernel
set_option maxRecDepth 100000 in
theorem d_WM_bind_6 : decode b_WM_bind 6 = .ok (.aload_n 0, 1) := by decide +kernel
set_option maxRecDepth 100000 in
theorem d_WM_bind_7 : decode b_WM_bind 7 = .ok (.iload_n 2, 1) := by decide +kernel
set_option maxRecDepth 100000 in
theorem d_WM_bind_8 : decode b_WM_bind 8 = .ok (.invokevirtual 107, 3) := by decide +kernel
set_option maxRecDepth 100000 in
theorem d_WM_bind_11 : decode b_WM_bind 11 = .ok (.astore 4, 2) := by decide +kernel
set_option maxRecDepth 100000 in
theorem d_WM_bind_13 : decode b_WM_bind 13 = .ok (.aload_n 3, 1) := by decide +kernel
set_option maxRecDepth 100000 in
theorem d_WM_bind_14 : decode b_WM_bind 14 = .ok (.ifnull 8, 3) := by decide +kernel
set_option maxRecDepth 100000 in
theorem d_WM_bind_17 : decode b_WM_bind 17 = .ok (.aload 4, 2) := by decide +kernel
set_option maxRecDepth 100000 in
theorem d_WM_bind_19 : decode b_WM_bind 19 = .ok (.ifnonnull 5, 3) := by decide +kernel
set_option maxRecDepth 100000 in
theorem d_WM_bind_22 : decode b_WM_bind 22 = .ok (.iconst (-1), 1) := by decide +kernel
set_option maxRecDepth 100000 in
theorem d_WM_bind_23 : decode b_WM_bind 23 = .ok (.ireturn, 1) := by decide +kernel
set_option maxRecDepth 100000 in
theorem d_WM_bind_24 : decode b_WM_bind 24 = .ok (.aload_n 3, 1) := by decide +kernel
set_option maxRecDepth 100000 in
theorem d_WM_bind_25 : decode b_WM_bind 25 = .ok (.getfield 111, 3) := by decide +kernel
set_option maxRecDepth 100000 in
theorem d_WM_bind_28 : decode b_WM_bind 28 = .ok (.ifCond .ne 12, 3) := by decide +kernel
set_option maxRecDepth 100000 in
theorem d_WM_bind_31 : decode b_WM_bind 31 = .ok (.aload 4, 2) := by decide +kernel
set_option maxRecDepth 100000 in
theorem d_WM_bind_33 : decode b_WM_bind 33 = .ok (.getfield 111, 3) := by decide +kernel
set_option maxRecDepth 100000 in
theorem d_WM_bind_36 : decode b_WM_bind 36 = .ok (.iconst 2, 1) := by decide +kernel
set_option maxRecDepth 100000 in
theorem d_WM_bind_37 : decode b_WM_bind 37 = .ok (.if_icmp .eq 6, 3) := by decide +kernel
set_option maxRecDepth 100000 in
theorem d_WM_bind_40 : decode b_WM_bind 40 = .ok (.bipush (-2), 2) := by decide +kernel
set_option maxRecDepth 100000 in
theorem d_WM_bind_42 : decode b_WM_bind 42 = .ok (.ireturn, 1) := by decide +kernel
set_option maxRecDepth 100000 in
theorem d_WM_boat_0 : decode b_WM_boat 0 = .ok (.iload_n 1, 1) := by decide +kernel
set_option maxRecDepth 100000 in
theorem d_WM_boat_1 : decode b_WM_boat 1 = .ok (.invokestatic 164, 3) := by decide +kernel
set_option maxRecDepth 100000 in
theorem d_WM_boat_4 : decode b_WM_boat 4 = .ok (.ifCond .eq 14, 3) := by decide +kernel
set_option maxRecDepth 100000 in
theorem d_WM_boat_7 : decode b_WM_boat 7 = .ok (.aload_n 0, 1) := by decide +kernel
set_option maxRecDepth 100000 in
theorem d_WM_boat_8 : decode b_WM_boat 8 = .ok (.getfield 12, 3) := by decide +kernel
set_option maxRecDepth 100000 in
theorem d_WM_boat_11 : decode b_WM_boat 11 = .ok (.iload_n 2, 1) := by decide +kernel
set_option maxRecDepth 100000 in
theorem d_WM_boat_12 : decode b_WM_boat 12 = .ok (.invokevirtual 167, 3) := by decide +kernel
set_option maxRecDepth 100000 in
theorem d_WM_boat_15 : decode b_WM_boat 15 = .ok (.ifCond .ne 5, 3) := by decide +kernel
set_option maxRecDepth 100000 in
theorem d_WM_boat_18 : decode b_WM_boat 18 = .ok (.iconst (-1), 1) := by decide +kernel
set_option maxRecDepth 100000 in
theorem d_WM_boat_19 : decode b_WM_boat 19 = .ok (.ireturn, 1) := by decide +kernel
set_option maxRecDepth 100000 in
theorem d_WM_boatAt_0 : decode b_WM_boatAt 0 = .ok (.iload_n 1, 1) := by decide +kernel
set_option maxRecDepth 100000 in
theorem d_WM_boatAt_1 : decode b_WM_boatAt 1 = .ok (.ifCond .lt 20, 3) := by decide +kernel
set_option maxRecDepth 100000 in
theorem d_WM_boatAt_4 : decode b_WM_boatAt 4 = .ok (.iload_n 1, 1) := by decide +kernel
set_option maxRecDepth 100000 in
theorem d_WM_boatAt_5 : decode b_WM_boatAt 5 = .ok (.aload_n 0, 1) := by decide +kernel
set_option maxRecDepth 100000 in
theorem d_WM_boatAt_6 : decode b_WM_boatAt 6 = .ok (.getfield 170, 3) := by decide +kernel
set_option maxRecDepth 100000 in
theorem d_WM_boatAt_9 : decode b_WM_boatAt 9 = .ok (.if_icmp .ge 12, 3) := by decide +kernel
set_option maxRecDepth 100000 in
theorem d_WM_boatAt_21 : decode b_WM_boatAt 21 = .ok (.aconst_null, 1) := by decide +kernel
set_option maxRecDepth 100000 in
theorem d_WM_boatAt_22 : decode b_WM_boatAt 22 = .ok (.areturn, 1) := by decide +kernel
set_option maxRecDepth 100000 in
theorem d_WM_bridge_0 : decode b_WM_bridge 0 = .ok (.iload_n 1, 1) := by decide +kernel
set_option maxRecDepth 100000 in
theorem d_WM_bridge_1 : decode b_WM_bridge 1 = .ok (.iconst (-1), 1) := by decide +kernel
set_option maxRecDepth 100000 in
theorem d_WM_bridge_2 : decode b_WM_bridge 2 = .ok (.if_icmp .eq 22, 3) := by decide +kernel
set_option maxRecDepth 100000 in
theorem d_WM_bridge_5 : decode b_WM_bridge 5 = .ok (.iload_n 1, 1) := by decide +kernel
set_option maxRecDepth 100000 in
theorem d_WM_bridge_6 : decode b_WM_bridge 6 = .ok (.ifCond .lt 16, 3) := by decide +kernel
set_option maxRecDepth 100000 in
theorem d_WM_bridge_9 : decode b_WM_bridge 9 = .ok (.iload_n 1, 1) := by decide +kernel
set_option maxRecDepth 100000 in
theorem d_WM_bridge_10 : decode b_WM_bridge 10 = .ok (.aload_n 0, 1) := by decide +kernel
set_option maxRecDepth 100000 in
theorem d_WM_bridge_11 : decode b_WM_bridge 11 = .ok (.getfield 12, 3) := by decide +kernel
set_option maxRecDepth 100000 in
theorem d_WM_bridge_14 : decode b_WM_bridge 14 = .ok (.getfield 64, 3) := by decide +kernel
set_option maxRecDepth 100000 in
theorem d_WM_bridge_17 : decode b_WM_bridge 17 = .ok (.iconst 1, 1) := by decide +kernel
set_option maxRecDepth 100000 in
theorem d_WM_bridge_18 : decode b_WM_bridge 18 = .ok (.isub, 1) := by decide +kernel
set_option maxRecDepth 100000 in
theorem d_WM_bridge_19 : decode b_WM_bridge 19 = .ok (.if_icmp .lt 5, 3) := by decide +kernel
set_option maxRecDepth 100000 in
theorem d_WM_bridge_22 : decode b_WM_bridge 22 = .ok (.iconst (-1), 1) := by decide +kernel
set_option maxRecDepth 100000 in
theorem d_WM_bridge_23 : decode b_WM_bridge 23 = .ok (.ireturn, 1) := by decide +kernel
set_option maxRecDepth 100000 in
theorem d_WM_bridge_24 : decode b_WM_bridge 24 = .ok (.aload_n 0, 1) := by decide +kernel
set_option maxRecDepth 100000 in
theorem d_WM_bridge_25 : decode b_WM_bridge 25 = .ok (.getfield 12, 3) := by decide +kernel
set_option maxRecDepth 100000 in
theorem d_WM_bridge_28 : decode b_WM_bridge 28 = .ok (.iload_n 1, 1) := by decide +kernel
set_option maxRecDepth 100000 in
theorem d_WM_bridge_29 : decode b_WM_bridge 29 = .ok (.putfield 72, 3) := by decide +kernel
set_option maxRecDepth 100000 in
theorem d_WM_bridge_32 : decode b_WM_bridge 32 = .ok (.iconst 1, 1) := by decide +kernel
set_option maxRecDepth 100000 in
theorem d_WM_bridge_33 : decode b_WM_bridge 33 = .ok (.ireturn, 1) := by decide +kernel
set_option maxRecDepth 100000 in
theorem d_WM_coins_0 : decode b_WM_coins 0 = .ok (.iload_n 1, 1) := by decide +kernel
set_option maxRecDepth 100000 in
theorem d_WM_coins_1 : decode b_WM_coins 1 = .ok (.tableswitch 72 0 4 #[35, 43, 51, 56, 64], 35) := by decide +kernel
set_option maxRecDepth 100000 in
theorem d_WM_coins_36 : decode b_WM_coins 36 = .ok (.aload_n 0, 1) := by decide +kernel
set_option maxRecDepth 100000 in
theorem d_WM_coins_37 : decode b_WM_coins 37 = .ok (.getfield 50, 3) := by decide +kernel
set_option maxRecDepth 100000 in
theorem d_WM_coins_40 : decode b_WM_coins 40 = .ok (.getfield 343, 3) := by decide +kernel
set_option maxRecDepth 100000 in
theorem d_WM_coins_43 : decode b_WM_coins 43 = .ok (.ireturn, 1) := by decide +kernel
set_option maxRecDepth 100000 in
theorem d_WM_coins_44 : decode b_WM_coins 44 = .ok (.aload_n 0, 1) := by decide +kernel
set_option maxRecDepth 100000 in
theorem d_WM_coins_45 : decode b_WM_coins 45 = .ok (.getfield 50, 3) := by decide +kernel
set_option maxRecDepth 100000 in
theorem d_WM_coins_48 : decode b_WM_coins 48 = .ok (.getfield 344, 3) := by decide +kernel
set_option maxRecDepth 100000 in
theorem d_WM_coins_51 : decode b_WM_coins 51 = .ok (.ireturn, 1) := by decide +kernel
set_option maxRecDepth 100000 in
theorem d_WM_coins_52 : decode b_WM_coins 52 = .ok (.aload_n 0, 1) := by decide +kernel
set_option maxRecDepth 100000 in
theorem d_WM_coins_53 : decode b_WM_coins 53 = .ok (.invokevirtual 347, 3) := by decide +kernel
set_option maxRecDepth 100000 in
theorem d_WM_coins_56 : decode b_WM_coins 56 = .ok (.ireturn, 1) := by decide +kernel
set_option maxRecDepth 100000 in
theorem d_WM_coins_57 : decode b_WM_coins 57 = .ok (.aload_n 0, 1) := by decide +kernel
set_option maxRecDepth 100000 in
theorem d_WM_coins_58 : decode b_WM_coins 58 = .ok (.getfield 50, 3) := by decide +kernel
set_option maxRecDepth 100000 in
theorem d_WM_coins_61 : decode b_WM_coins 61 = .ok (.getfield 350, 3) := by decide +kernel
set_option maxRecDepth 100000 in
theorem d_WM_coins_64 : decode b_WM_coins 64 = .ok (.ireturn, 1) := by decide +kernel
set_option maxRecDepth 100000 in
theorem d_WM_coins_65 : decode b_WM_coins 65 = .ok (.aload_n 0, 1) := by decide +kernel
set_option maxRecDepth 100000 in
theorem d_WM_coins_66 : decode b_WM_coins 66 = .ok (.getfield 50, 3) := by decide +kernel
set_option maxRecDepth 100000 in
theorem d_WM_coins_69 : decode b_WM_coins 69 = .ok (.getfield 353, 3) := by decide +kernel
set_option maxRecDepth 100000 in
theorem d_WM_coins_72 : decode b_WM_coins 72 = .ok (.ireturn, 1) := by decide +kernel
set_option maxRecDepth 100000 in
theorem d_WM_coins_73 : decode b_WM_coins 73 = .ok (.iconst (-1), 1) := by decide +kernel
set_option maxRecDepth 100000 in
theorem d_WM_coins_74 : decode b_WM_coins 74 = .ok (.ireturn, 1) := by decide +kernel
set_option maxRecDepth 100000 in
theorem d_WM_coinsOfMen_0 : decode b_WM_coinsOfMen 0 = .ok (.iconst 0, 1) := by decide +kernel
set_option maxRecDepth 100000 in
theorem d_WM_coinsOfMen_1 : decode b_WM_coinsOfMen 1 = .ok (.istore_n 1, 1) := by decide +kernel
set_option maxRecDepth 100000 in
theorem d_WM_coinsOfMen_2 : decode b_WM_coinsOfMen 2 = .ok (.iconst 0, 1) := by decide +kernel
set_option maxRecDepth 100000 in
theorem d_WM_coinsOfMen_3 : decode b_WM_coinsOfMen 3 = .ok (.istore_n 2, 1) := by decide +kernel
set_option maxRecDepth 100000 in
theorem d_WM_coinsOfMen_4 : decode b_WM_coinsOfMen 4 = .ok (.iload_n 2, 1) := by decide +kernel
set_option maxRecDepth 100000 in
theorem d_WM_coinsOfMen_5 : decode b_WM_coinsOfMen 5 = .ok (.bipush 40, 2) := by decide +kernel
set_option maxRecDepth 100000 in
theorem d_WM_coinsOfMen_7 : decode b_WM_coinsOfMen 7 = .ok (.if_icmp .ge 31, 3) := by decide +kernel
set_option maxRecDepth 100000 in
theorem d_WM_coinsOfMen_10 : decode b_WM_coinsOfMen 10 = .ok (.aload_n 0, 1) := by decide +kernel
set_option maxRecDepth 100000 in
theorem d_WM_coinsOfMen_11 : decode b_WM_coinsOfMen 11 = .ok (.getfield 18, 3) := by decide +kernel
set_option maxRecDepth 100000 in
theorem d_WM_coinsOfMen_14 : decode b_WM_coinsOfMen 14 = .ok (.iload_n 2, 1) := by decide +kernel
set_option maxRecDepth 100000 in
theorem d_WM_coinsOfMen_15 : decode b_WM_coinsOfMen 15 = .ok (.aaload, 1) := by decide +kernel
set_option maxRecDepth 100000 in
theorem d_WM_coinsOfMen_16 : decode b_WM_coinsOfMen 16 = .ok (.astore_n 3, 1) := by decide +kernel
set_option maxRecDepth 100000 in
theorem d_WM_coinsOfMen_17 : decode b_WM_coinsOfMen 17 = .ok (.iload_n 1, 1) := by decide +kernel
set_option maxRecDepth 100000 in
theorem d_WM_coinsOfMen_18 : decode b_WM_coinsOfMen 18 = .ok (.aload_n 3, 1) := by decide +kernel
set_option maxRecDepth 100000 in
theorem d_WM_coinsOfMen_19 : decode b_WM_coinsOfMen 19 = .ok (.ifnonnull 7, 3) := by decide +kernel
set_option maxRecDepth 100000 in
theorem d_WM_coinsOfMen_26 : decode b_WM_coinsOfMen 26 = .ok (.aload_n 3, 1) := by decide +kernel
set_option maxRecDepth 100000 in
theorem d_WM_coinsOfMen_27 : decode b_WM_coinsOfMen 27 = .ok (.getfield 152, 3) := by decide +kernel
set_option maxRecDepth 100000 in
theorem d_WM_coinsOfMen_30 : decode b_WM_coinsOfMen 30 = .ok (.iadd, 1) := by decide +kernel
set_option maxRecDepth 100000 in
theorem d_WM_coinsOfMen_31 : decode b_WM_coinsOfMen 31 = .ok (.istore_n 1, 1) := by decide +kernel
set_option maxRecDepth 100000 in
theorem d_WM_coinsOfMen_32 : decode b_WM_coinsOfMen 32 = .ok (.iinc 2 1, 3) := by decide +kernel
set_option maxRecDepth 100000 in
theorem d_WM_coinsOfMen_35 : decode b_WM_coinsOfMen 35 = .ok (.goto (-31), 3) := by decide +kernel
set_option maxRecDepth 100000 in
theorem d_WM_coinsOfMen_38 : decode b_WM_coinsOfMen 38 = .ok (.iload_n 1, 1) := by decide +kernel
set_option maxRecDepth 100000 in
theorem d_WM_coinsOfMen_39 : decode b_WM_coinsOfMen 39 = .ok (.ireturn, 1) := by decide +kernel
set_option maxRecDepth 100000 in
theorem d_WM_count_0 : decode b_WM_count 0 = .ok (.iload_n 1, 1) := by decide +kernel
set_option maxRecDepth 100000 in
theorem d_WM_count_1 : decode b_WM_count 1 = .ok (.tableswitch 117 0 9 #[55, 63, 68, 73, 78, 83, 89, 95, 101, 109], 55) := by decide +kernel
set_option maxRecDepth 100000 in
theorem d_WM_count_56 : decode b_WM_count 56 = .ok (.aload_n 0, 1) := by decide +kernel
set_option maxRecDepth 100000 in
theorem d_WM_count_57 : decode b_WM_count 57 = .ok (.getfield 12, 3) := by decide +kernel
set_option maxRecDepth 100000 in
theorem d_WM_count_60 : decode b_WM_count 60 = .ok (.getfield 64, 3) := by decide +kernel
set_option maxRecDepth 100000 in
theorem d_WM_count_63 : decode b_WM_count 63 = .ok (.ireturn, 1) := by decide +kernel
set_option maxRecDepth 100000 in
theorem d_WM_count_64 : decode b_WM_count 64 = .ok (.aload_n 0, 1) := by decide +kernel
set_option maxRecDepth 100000 in
theorem d_WM_count_65 : decode b_WM_count 65 = .ok (.getfield 170, 3) := by decide +kernel
set_option maxRecDepth 100000 in
theorem d_WM_count_68 : decode b_WM_count 68 = .ok (.ireturn, 1) := by decide +kernel
set_option maxRecDepth 100000 in
theorem d_WM_count_69 : decode b_WM_count 69 = .ok (.aload_n 0, 1) := by decide +kernel
set_option maxRecDepth 100000 in
theorem d_WM_count_70 : decode b_WM_count 70 = .ok (.getfield 243, 3) := by decide +kernel
set_option maxRecDepth 100000 in
theorem d_WM_count_73 : decode b_WM_count 73 = .ok (.ireturn, 1) := by decide +kernel
set_option maxRecDepth 100000 in
theorem d_WM_count_74 : decode b_WM_count 74 = .ok (.aload_n 0, 1) := by decide +kernel
set_option maxRecDepth 100000 in
theorem d_WM_count_75 : decode b_WM_count 75 = .ok (.getfield 210, 3) := by decide +kernel
set_option maxRecDepth 100000 in
theorem d_WM_count_78 : decode b_WM_count 78 = .ok (.ireturn, 1) := by decide +kernel
set_option maxRecDepth 100000 in
theorem d_WM_count_79 : decode b_WM_count 79 = .ok (.aload_n 0, 1) := by decide +kernel
set_option maxRecDepth 100000 in
theorem d_WM_count_80 : decode b_WM_count 80 = .ok (.getfield 155, 3) := by decide +kernel
set_option maxRecDepth 100000 in
theorem d_WM_count_83 : decode b_WM_count 83 = .ok (.ireturn, 1) := by decide +kernel
set_option maxRecDepth 100000 in
theorem d_WM_count_84 : decode b_WM_count 84 = .ok (.aload_n 0, 1) := by decide +kernel
set_option maxRecDepth 100000 in
theorem d_WM_count_85 : decode b_WM_count 85 = .ok (.iconst 2, 1) := by decide +kernel
set_option maxRecDepth 100000 in
theorem d_WM_count_86 : decode b_WM_count 86 = .ok (.invokevirtual 340, 3) := by decide +kernel
set_option maxRecDepth 100000 in
theorem d_WM_count_89 : decode b_WM_count 89 = .ok (.ireturn, 1) := by decide +kernel
set_option maxRecDepth 100000 in
theorem d_WM_count_90 : decode b_WM_count 90 = .ok (.aload_n 0, 1) := by decide +kernel
set_option maxRecDepth 100000 in
theorem d_WM_count_91 : decode b_WM_count 91 = .ok (.iconst 1, 1) := by decide +kernel
set_option maxRecDepth 100000 in
theorem d_WM_count_92 : decode b_WM_count 92 = .ok (.invokevirtual 340, 3) := by decide +kernel
set_option maxRecDepth 100000 in
theorem d_WM_count_95 : decode b_WM_count 95 = .ok (.ireturn, 1) := by decide +kernel
set_option maxRecDepth 100000 in
theorem d_WM_count_96 : decode b_WM_count 96 = .ok (.aload_n 0, 1) := by decide +kernel
set_option maxRecDepth 100000 in
theorem d_WM_count_97 : decode b_WM_count 97 = .ok (.iconst 3, 1) := by decide +kernel
set_option maxRecDepth 100000 in
theorem d_WM_count_98 : decode b_WM_count 98 = .ok (.invokevirtual 340, 3) := by decide +kernel
set_option maxRecDepth 100000 in
theorem d_WM_count_101 : decode b_WM_count 101 = .ok (.ireturn, 1) := by decide +kernel
set_option maxRecDepth 100000 in
theorem d_WM_count_102 : decode b_WM_count 102 = .ok (.aload_n 0, 1) := by decide +kernel
set_option maxRecDepth 100000 in
theorem d_WM_count_103 : decode b_WM_count 103 = .ok (.getfield 50, 3) := by decide +kernel
set_option maxRecDepth 100000 in
theorem d_WM_count_106 : decode b_WM_count 106 = .ok (.getfield 280, 3) := by decide +kernel
set_option maxRecDepth 100000 in
theorem d_WM_count_109 : decode b_WM_count 109 = .ok (.ireturn, 1) := by decide +kernel
set_option maxRecDepth 100000 in
theorem d_WM_count_110 : decode b_WM_count 110 = .ok (.aload_n 0, 1) := by decide +kernel
set_option maxRecDepth 100000 in
theorem d_WM_count_111 : decode b_WM_count 111 = .ok (.getfield 43, 3) := by decide +kernel
set_option maxRecDepth 100000 in
theorem d_WM_count_114 : decode b_WM_count 114 = .ok (.getfield 207, 3) := by decide +kernel
set_option maxRecDepth 100000 in
theorem d_WM_count_117 : decode b_WM_count 117 = .ok (.ireturn, 1) := by decide +kernel
set_option maxRecDepth 100000 in
theorem d_WM_count_118 : decode b_WM_count 118 = .ok (.iconst (-1), 1) := by decide +kernel
set_option maxRecDepth 100000 in
theorem d_WM_count_119 : decode b_WM_count 119 = .ok (.ireturn, 1) := by decide +kernel
set_option maxRecDepth 100000 in
theorem d_WM_craft_0 : decode b_WM_craft 0 = .ok (.aload_n 0, 1) := by decide +kernel
set_option maxRecDepth 100000 in
theorem d_WM_craft_1 : decode b_WM_craft 1 = .ok (.iload_n 1, 1) := by decide +kernel
set_option maxRecDepth 100000 in
theorem d_WM_craft_2 : decode b_WM_craft 2 = .ok (.invokevirtual 174, 3) := by decide +kernel
set_option maxRecDepth 100000 in
theorem d_WM_craft_5 : decode b_WM_craft 5 = .ok (.astore_n 3, 1) := by decide +kernel
set_option maxRecDepth 100000 in
theorem d_WM_craft_6 : decode b_WM_craft 6 = .ok (.aload_n 3, 1) := by decide +kernel
set_option maxRecDepth 100000 in
theorem d_WM_craft_7 : decode b_WM_craft 7 = .ok (.ifnonnull 5, 3) := by decide +kernel
set_option maxRecDepth 100000 in
theorem d_WM_craft_10 : decode b_WM_craft 10 = .ok (.iconst (-1), 1) := by decide +kernel
set_option maxRecDepth 100000 in
theorem d_WM_craft_11 : decode b_WM_craft 11 = .ok (.ireturn, 1) := by decide +kernel
set_option maxRecDepth 100000 in
theorem d_WM_due_0 : decode b_WM_due 0 = .ok (.aload_n 0, 1) := by decide +kernel
set_option maxRecDepth 100000 in
theorem d_WM_due_1 : decode b_WM_due 1 = .ok (.iload_n 1, 1) := by decide +kernel
set_option maxRecDepth 100000 in
theorem d_WM_due_2 : decode b_WM_due 2 = .ok (.invokevirtual 293, 3) := by decide +kernel
set_option maxRecDepth 100000 in
theorem d_WM_due_5 : decode b_WM_due 5 = .ok (.astore_n 3, 1) := by decide +kernel
set_option maxRecDepth 100000 in
theorem d_WM_due_6 : decode b_WM_due 6 = .ok (.aload_n 3, 1) := by decide +kernel
set_option maxRecDepth 100000 in
theorem d_WM_due_7 : decode b_WM_due 7 = .ok (.ifnull 10, 3) := by decide +kernel
set_option maxRecDepth 100000 in
theorem d_WM_due_17 : decode b_WM_due 17 = .ok (.bipush (-2), 2) := by decide +kernel
set_option maxRecDepth 100000 in
theorem d_WM_due_19 : decode b_WM_due 19 = .ok (.goto 9, 3) := by decide +kernel
set_option maxRecDepth 100000 in
theorem d_WM_due_28 : decode b_WM_due 28 = .ok (.ireturn, 1) := by decide +kernel
set_option maxRecDepth 100000 in
theorem d_WM_end_0 : decode b_WM_end 0 = .ok (.iload_n 1, 1) := by decide +kernel
set_option maxRecDepth 100000 in
theorem d_WM_end_1 : decode b_WM_end 1 = .ok (.ifCond .lt 14, 3) := by decide +kernel
set_option maxRecDepth 100000 in
theorem d_WM_end_4 : decode b_WM_end 4 = .ok (.iload_n 1, 1) := by decide +kernel
set_option maxRecDepth 100000 in
theorem d_WM_end_5 : decode b_WM_end 5 = .ok (.aload_n 0, 1) := by decide +kernel
set_option maxRecDepth 100000 in
theorem d_WM_end_6 : decode b_WM_end 6 = .ok (.getfield 43, 3) := by decide +kernel
set_option maxRecDepth 100000 in
theorem d_WM_end_9 : decode b_WM_end 9 = .ok (.getfield 207, 3) := by decide +kernel
set_option maxRecDepth 100000 in
theorem d_WM_end_12 : decode b_WM_end 12 = .ok (.if_icmp .le 5, 3) := by decide +kernel
set_option maxRecDepth 100000 in
theorem d_WM_end_15 : decode b_WM_end 15 = .ok (.iconst (-1), 1) := by decide +kernel
set_option maxRecDepth 100000 in
theorem d_WM_end_16 : decode b_WM_end 16 = .ok (.ireturn, 1) := by decide +kernel
set_option maxRecDepth 100000 in
theorem d_WM_end_17 : decode b_WM_end 17 = .ok (.aload_n 0, 1) := by decide +kernel
set_option maxRecDepth 100000 in
theorem d_WM_end_18 : decode b_WM_end 18 = .ok (.getfield 43, 3) := by decide +kernel
set_option maxRecDepth 100000 in
theorem d_WM_end_21 : decode b_WM_end 21 = .ok (.iload_n 1, 1) := by decide +kernel
set_option maxRecDepth 100000 in
theorem d_WM_end_22 : decode b_WM_end 22 = .ok (.putfield 207, 3) := by decide +kernel
set_option maxRecDepth 100000 in
theorem d_WM_end_25 : decode b_WM_end 25 = .ok (.iload_n 1, 1) := by decide +kernel
set_option maxRecDepth 100000 in
theorem d_WM_end_26 : decode b_WM_end 26 = .ok (.ireturn, 1) := by decide +kernel
set_option maxRecDepth 100000 in
theorem d_WM_fare_0 : decode b_WM_fare 0 = .ok (.aload_n 0, 1) := by decide +kernel
set_option maxRecDepth 100000 in
theorem d_WM_fare_1 : decode b_WM_fare 1 = .ok (.iload_n 1, 1) := by decide +kernel
set_option maxRecDepth 100000 in
theorem d_WM_fare_2 : decode b_WM_fare 2 = .ok (.invokevirtual 226, 3) := by decide +kernel
set_option maxRecDepth 100000 in
theorem d_WM_fare_5 : decode b_WM_fare 5 = .ok (.astore 6, 2) := by decide +kernel
set_option maxRecDepth 100000 in
theorem d_WM_fare_7 : decode b_WM_fare 7 = .ok (.aload 6, 2) := by decide +kernel
set_option maxRecDepth 100000 in
theorem d_WM_fare_9 : decode b_WM_fare 9 = .ok (.ifnull 30, 3) := by decide +kernel
set_option maxRecDepth 100000 in
theorem d_WM_fare_39 : decode b_WM_fare 39 = .ok (.iconst (-1), 1) := by decide +kernel
set_option maxRecDepth 100000 in
theorem d_WM_fare_40 : decode b_WM_fare 40 = .ok (.ireturn, 1) := by decide +kernel
set_option maxRecDepth 100000 in
theorem d_WM_flow_0 : decode b_WM_flow 0 = .ok (.iload_n 1, 1) := by decide +kernel
set_option maxRecDepth 100000 in
theorem d_WM_flow_1 : decode b_WM_flow 1 = .ok (.invokestatic 75, 3) := by decide +kernel
set_option maxRecDepth 100000 in
theorem d_WM_flow_4 : decode b_WM_flow 4 = .ok (.ifCond .eq 22, 3) := by decide +kernel
set_option maxRecDepth 100000 in
theorem d_WM_flow_7 : decode b_WM_flow 7 = .ok (.iload_n 2, 1) := by decide +kernel
set_option maxRecDepth 100000 in
theorem d_WM_flow_8 : decode b_WM_flow 8 = .ok (.invokestatic 79, 3) := by decide +kernel
set_option maxRecDepth 100000 in
theorem d_WM_flow_11 : decode b_WM_flow 11 = .ok (.ifCond .eq 15, 3) := by decide +kernel
set_option maxRecDepth 100000 in
theorem d_WM_flow_14 : decode b_WM_flow 14 = .ok (.aload_n 0, 1) := by decide +kernel
set_option maxRecDepth 100000 in
theorem d_WM_flow_15 : decode b_WM_flow 15 = .ok (.getfield 12, 3) := by decide +kernel
set_option maxRecDepth 100000 in
theorem d_WM_flow_18 : decode b_WM_flow 18 = .ok (.iload_n 1, 1) := by decide +kernel
set_option maxRecDepth 100000 in
theorem d_WM_flow_19 : decode b_WM_flow 19 = .ok (.iload_n 2, 1) := by decide +kernel
set_option maxRecDepth 100000 in
theorem d_WM_flow_20 : decode b_WM_flow 20 = .ok (.invokevirtual 93, 3) := by decide +kernel
set_option maxRecDepth 100000 in
theorem d_WM_flow_23 : decode b_WM_flow 23 = .ok (.goto 6, 3) := by decide +kernel
set_option maxRecDepth 100000 in
theorem d_WM_flow_26 : decode b_WM_flow 26 = .ok (.sipush (-1000), 3) := by decide +kernel
set_option maxRecDepth 100000 in
theorem d_WM_flow_29 : decode b_WM_flow 29 = .ok (.ireturn, 1) := by decide +kernel
set_option maxRecDepth 100000 in
theorem d_WM_foretold_0 : decode b_WM_foretold 0 = .ok (.aload_n 0, 1) := by decide +kernel
set_option maxRecDepth 100000 in
theorem d_WM_foretold_1 : decode b_WM_foretold 1 = .ok (.getfield 50, 3) := by decide +kernel
set_option maxRecDepth 100000 in
theorem d_WM_foretold_4 : decode b_WM_foretold 4 = .ok (.aload_n 0, 1) := by decide +kernel
set_option maxRecDepth 100000 in
theorem d_WM_foretold_5 : decode b_WM_foretold 5 = .ok (.invokevirtual 97, 3) := by decide +kernel
set_option maxRecDepth 100000 in
theorem d_WM_foretold_8 : decode b_WM_foretold 8 = .ok (.invokevirtual 322, 3) := by decide +kernel
set_option maxRecDepth 100000 in
theorem d_WM_foretold_11 : decode b_WM_foretold 11 = .ok (.istore_n 1, 1) := by decide +kernel
set_option maxRecDepth 100000 in
theorem d_WM_foretold_12 : decode b_WM_foretold 12 = .ok (.iload_n 1, 1) := by decide +kernel
set_option maxRecDepth 100000 in
theorem d_WM_foretold_13 : decode b_WM_foretold 13 = .ok (.iconst (-1), 1) := by decide +kernel
set_option maxRecDepth 100000 in
theorem d_WM_foretold_14 : decode b_WM_foretold 14 = .ok (.if_icmp .ne 8, 3) := by decide +kernel
set_option maxRecDepth 100000 in
theorem d_WM_foretold_17 : decode b_WM_foretold 17 = .ok (.bipush (-2), 2) := by decide +kernel
set_option maxRecDepth 100000 in
theorem d_WM_foretold_19 : decode b_WM_foretold 19 = .ok (.goto 4, 3) := by decide +kernel
set_option maxRecDepth 100000 in
theorem d_WM_foretold_23 : decode b_WM_foretold 23 = .ok (.ireturn, 1) := by decide +kernel
set_option maxRecDepth 100000 in
theorem d_WM_free_0 : decode b_WM_free 0 = .ok (.aload_n 0, 1) := by decide +kernel
set_option maxRecDepth 100000 in
theorem d_WM_free_1 : decode b_WM_free 1 = .ok (.iload_n 1, 1) := by decide +kernel
set_option maxRecDepth 100000 in
theorem d_WM_free_2 : decode b_WM_free 2 = .ok (.invokevirtual 107, 3) := by decide +kernel
set_option maxRecDepth 100000 in
theorem d_WM_free_5 : decode b_WM_free 5 = .ok (.astore_n 2, 1) := by decide +kernel
set_option maxRecDepth 100000 in
theorem d_WM_free_6 : decode b_WM_free 6 = .ok (.aload_n 2, 1) := by decide +kernel
set_option maxRecDepth 100000 in
theorem d_WM_free_7 : decode b_WM_free 7 = .ok (.ifnonnull 5, 3) := by decide +kernel
set_option maxRecDepth 100000 in
theorem d_WM_free_10 : decode b_WM_free 10 = .ok (.iconst (-1), 1) := by decide +kernel
set_option maxRecDepth 100000 in
theorem d_WM_free_11 : decode b_WM_free 11 = .ok (.ireturn, 1) := by decide +kernel
set_option maxRecDepth 100000 in
theorem d_WM_free_12 : decode b_WM_free 12 = .ok (.aload_n 2, 1) := by decide +kernel
set_option maxRecDepth 100000 in
theorem d_WM_free_13 : decode b_WM_free 13 = .ok (.getfield 111, 3) := by decide +kernel
set_option maxRecDepth 100000 in
theorem d_WM_free_16 : decode b_WM_free 16 = .ok (.ifCond .eq 6, 3) := by decide +kernel
set_option maxRecDepth 100000 in
theorem d_WM_free_22 : decode b_WM_free 22 = .ok (.aload_n 2, 1) := by decide +kernel
set_option maxRecDepth 100000 in
theorem d_WM_free_23 : decode b_WM_free 23 = .ok (.iconst 2, 1) := by decide +kernel
set_option maxRecDepth 100000 in
theorem d_WM_free_24 : decode b_WM_free 24 = .ok (.putfield 111, 3) := by decide +kernel
set_option maxRecDepth 100000 in
theorem d_WM_free_27 : decode b_WM_free 27 = .ok (.iconst 1, 1) := by decide +kernel
set_option maxRecDepth 100000 in
theorem d_WM_free_28 : decode b_WM_free 28 = .ok (.ireturn, 1) := by decide +kernel
set_option maxRecDepth 100000 in
theorem d_WM_frost_0 : decode b_WM_frost 0 = .ok (.iload_n 1, 1) := by decide +kernel
set_option maxRecDepth 100000 in
theorem d_WM_frost_1 : decode b_WM_frost 1 = .ok (.invokestatic 75, 3) := by decide +kernel
set_option maxRecDepth 100000 in
theorem d_WM_frost_4 : decode b_WM_frost 4 = .ok (.ifCond .eq 20, 3) := by decide +kernel
set_option maxRecDepth 100000 in
theorem d_WM_frost_7 : decode b_WM_frost 7 = .ok (.iload_n 1, 1) := by decide +kernel
set_option maxRecDepth 100000 in
theorem d_WM_frost_8 : decode b_WM_frost 8 = .ok (.aload_n 0, 1) := by decide +kernel
set_option maxRecDepth 100000 in
theorem d_WM_frost_9 : decode b_WM_frost 9 = .ok (.invokevirtual 97, 3) := by decide +kernel
set_option maxRecDepth 100000 in
theorem d_WM_frost_12 : decode b_WM_frost 12 = .ok (.if_icmp .lt 12, 3) := by decide +kernel
set_option maxRecDepth 100000 in
theorem d_WM_frost_15 : decode b_WM_frost 15 = .ok (.iload_n 2, 1) := by decide +kernel
set_option maxRecDepth 100000 in
theorem d_WM_frost_16 : decode b_WM_frost 16 = .ok (.ifCond .lt 8, 3) := by decide +kernel
set_option maxRecDepth 100000 in
theorem d_WM_frost_19 : decode b_WM_frost 19 = .ok (.iload_n 2, 1) := by decide +kernel
set_option maxRecDepth 100000 in
theorem d_WM_frost_20 : decode b_WM_frost 20 = .ok (.iconst 1, 1) := by decide +kernel
set_option maxRecDepth 100000 in
theorem d_WM_frost_21 : decode b_WM_frost 21 = .ok (.if_icmp .le 5, 3) := by decide +kernel
set_option maxRecDepth 100000 in
theorem d_WM_frost_24 : decode b_WM_frost 24 = .ok (.iconst (-1), 1) := by decide +kernel
set_option maxRecDepth 100000 in
theorem d_WM_frost_25 : decode b_WM_frost 25 = .ok (.ireturn, 1) := by decide +kernel
set_option maxRecDepth 100000 in
theorem d_WM_frost_26 : decode b_WM_frost 26 = .ok (.aload_n 0, 1) := by decide +kernel
set_option maxRecDepth 100000 in
theorem d_WM_frost_27 : decode b_WM_frost 27 = .ok (.getfield 12, 3) := by decide +kernel
set_option maxRecDepth 100000 in
theorem d_WM_frost_30 : decode b_WM_frost 30 = .ok (.iload_n 1, 1) := by decide +kernel
set_option maxRecDepth 100000 in
theorem d_WM_frost_31 : decode b_WM_frost 31 = .ok (.invokevirtual 100, 3) := by decide +kernel
set_option maxRecDepth 100000 in
theorem d_WM_frost_34 : decode b_WM_frost 34 = .ok (.ifCond .eq 7, 3) := by decide +kernel
set_option maxRecDepth 100000 in
theorem d_WM_frost_41 : decode b_WM_frost 41 = .ok (.iconst 0, 1) := by decide +kernel
set_option maxRecDepth 100000 in
theorem d_WM_frost_42 : decode b_WM_frost 42 = .ok (.istore_n 3, 1) := by decide +kernel
set_option maxRecDepth 100000 in
theorem d_WM_frost_43 : decode b_WM_frost 43 = .ok (.aload_n 0, 1) := by decide +kernel
set_option maxRecDepth 100000 in
theorem d_WM_frost_44 : decode b_WM_frost 44 = .ok (.getfield 12, 3) := by decide +kernel
set_option maxRecDepth 100000 in
theorem d_WM_frost_47 : decode b_WM_frost 47 = .ok (.getfield 103, 3) := by decide +kernel
set_option maxRecDepth 100000 in
theorem d_WM_frost_50 : decode b_WM_frost 50 = .ok (.iload_n 1, 1) := by decide +kernel
set_option maxRecDepth 100000 in
theorem d_WM_frost_51 : decode b_WM_frost 51 = .ok (.iload_n 2, 1) := by decide +kernel
set_option maxRecDepth 100000 in
theorem d_WM_frost_52 : decode b_WM_frost 52 = .ok (.iconst 1, 1) := by decide +kernel
set_option maxRecDepth 100000 in
theorem d_WM_frost_53 : decode b_WM_frost 53 = .ok (.if_icmp .ne 7, 3) := by decide +kernel
set_option maxRecDepth 100000 in
theorem d_WM_frost_56 : decode b_WM_frost 56 = .ok (.iconst 1, 1) := by decide +kernel
set_option maxRecDepth 100000 in
theorem d_WM_frost_57 : decode b_WM_frost 57 = .ok (.goto 4, 3) := by decide +kernel
set_option maxRecDepth 100000 in
theorem d_WM_frost_60 : decode b_WM_frost 60 = .ok (.iconst 0, 1) := by decide +kernel
set_option maxRecDepth 100000 in
theorem d_WM_frost_61 : decode b_WM_frost 61 = .ok (.bastore, 1) := by decide +kernel
set_option maxRecDepth 100000 in
theorem d_WM_frost_62 : decode b_WM_frost 62 = .ok (.iload_n 3, 1) := by decide +kernel
set_option maxRecDepth 100000 in
theorem d_WM_frost_63 : decode b_WM_frost 63 = .ok (.ireturn, 1) := by decide +kernel
set_option maxRecDepth 100000 in
theorem d_WM_inForce_0 : decode b_WM_inForce 0 = .ok (.iload_n 1, 1) := by decide +kernel
set_option maxRecDepth 100000 in
theorem d_WM_inForce_1 : decode b_WM_inForce 1 = .ok (.invokestatic 75, 3) := by decide +kernel
set_option maxRecDepth 100000 in
theorem d_WM_inForce_4 : decode b_WM_inForce 4 = .ok (.ifCond .eq 19, 3) := by decide +kernel
set_option maxRecDepth 100000 in
theorem d_WM_inForce_7 : decode b_WM_inForce 7 = .ok (.iload_n 2, 1) := by decide +kernel
set_option maxRecDepth 100000 in
theorem d_WM_inForce_8 : decode b_WM_inForce 8 = .ok (.invokestatic 75, 3) := by decide +kernel
set_option maxRecDepth 100000 in
theorem d_WM_inForce_11 : decode b_WM_inForce 11 = .ok (.ifCond .eq 12, 3) := by decide +kernel
set_option maxRecDepth 100000 in
theorem d_WM_inForce_14 : decode b_WM_inForce 14 = .ok (.aload_n 0, 1) := by decide +kernel
set_option maxRecDepth 100000 in
theorem d_WM_inForce_15 : decode b_WM_inForce 15 = .ok (.iload_n 1, 1) := by decide +kernel
set_option maxRecDepth 100000 in
theorem d_WM_inForce_16 : decode b_WM_inForce 16 = .ok (.iload_n 2, 1) := by decide +kernel
set_option maxRecDepth 100000 in
theorem d_WM_inForce_17 : decode b_WM_inForce 17 = .ok (.invokevirtual 223, 3) := by decide +kernel
set_option maxRecDepth 100000 in
theorem d_WM_inForce_20 : decode b_WM_inForce 20 = .ok (.goto 4, 3) := by decide +kernel
set_option maxRecDepth 100000 in
theorem d_WM_inForce_23 : decode b_WM_inForce 23 = .ok (.iconst (-1), 1) := by decide +kernel
set_option maxRecDepth 100000 in
theorem d_WM_inForce_24 : decode b_WM_inForce 24 = .ok (.ireturn, 1) := by decide +kernel
set_option maxRecDepth 100000 in
theorem d_WM_isDay_0 : decode b_WM_isDay 0 = .ok (.iload_n 0, 1) := by decide +kernel
set_option maxRecDepth 100000 in
theorem d_WM_isDay_1 : decode b_WM_isDay 1 = .ok (.ifCond .lt 14, 3) := by decide +kernel
set_option maxRecDepth 100000 in
theorem d_WM_isDay_4 : decode b_WM_isDay 4 = .ok (.iload_n 0, 1) := by decide +kernel
set_option maxRecDepth 100000 in
theorem d_WM_isDay_5 : decode b_WM_isDay 5 = .ok (.sipush 500, 3) := by decide +kernel
set_option maxRecDepth 100000 in
theorem d_WM_isDay_8 : decode b_WM_isDay 8 = .ok (.if_icmp .ge 7, 3) := by decide +kernel
set_option maxRecDepth 100000 in
theorem d_WM_isDay_11 : decode b_WM_isDay 11 = .ok (.iconst 1, 1) := by decide +kernel
set_option maxRecDepth 100000 in
theorem d_WM_isDay_12 : decode b_WM_isDay 12 = .ok (.goto 4, 3) := by decide +kernel
set_option maxRecDepth 100000 in
theorem d_WM_isDay_15 : decode b_WM_isDay 15 = .ok (.iconst 0, 1) := by decide +kernel
set_option maxRecDepth 100000 in
theorem d_WM_isDay_16 : decode b_WM_isDay 16 = .ok (.ireturn, 1) := by decide +kernel
set_option maxRecDepth 100000 in
theorem d_WM_isHour_0 : decode b_WM_isHour 0 = .ok (.iload_n 0, 1) := by decide +kernel
set_option maxRecDepth 100000 in
theorem d_WM_isHour_1 : decode b_WM_isHour 1 = .ok (.ifCond .lt 13, 3) := by decide +kernel
set_option maxRecDepth 100000 in
theorem d_WM_isHour_4 : decode b_WM_isHour 4 = .ok (.iload_n 0, 1) := by decide +kernel
set_option maxRecDepth 100000 in
theorem d_WM_isHour_5 : decode b_WM_isHour 5 = .ok (.bipush 12, 2) := by decide +kernel
set_option maxRecDepth 100000 in
theorem d_WM_isHour_7 : decode b_WM_isHour 7 = .ok (.if_icmp .ge 7, 3) := by decide +kernel
set_option maxRecDepth 100000 in
theorem d_WM_isHour_10 : decode b_WM_isHour 10 = .ok (.iconst 1, 1) := by decide +kernel
set_option maxRecDepth 100000 in
theorem d_WM_isHour_11 : decode b_WM_isHour 11 = .ok (.goto 4, 3) := by decide +kernel
set_option maxRecDepth 100000 in
theorem d_WM_isHour_14 : decode b_WM_isHour 14 = .ok (.iconst 0, 1) := by decide +kernel
set_option maxRecDepth 100000 in
theorem d_WM_isHour_15 : decode b_WM_isHour 15 = .ok (.ireturn, 1) := by decide +kernel
set_option maxRecDepth 100000 in
theorem d_WM_isLevel_0 : decode b_WM_isLevel 0 = .ok (.iload_n 0, 1) := by decide +kernel
set_option maxRecDepth 100000 in
theorem d_WM_isLevel_1 : decode b_WM_isLevel 1 = .ok (.bipush (-90), 2) := by decide +kernel
set_option maxRecDepth 100000 in
theorem d_WM_isLevel_3 : decode b_WM_isLevel 3 = .ok (.if_icmp .lt 13, 3) := by decide +kernel
set_option maxRecDepth 100000 in
theorem d_WM_isLevel_6 : decode b_WM_isLevel 6 = .ok (.iload_n 0, 1) := by decide +kernel
set_option maxRecDepth 100000 in
theorem d_WM_isLevel_7 : decode b_WM_isLevel 7 = .ok (.bipush 90, 2) := by decide +kernel
set_option maxRecDepth 100000 in
theorem d_WM_isLevel_9 : decode b_WM_isLevel 9 = .ok (.if_icmp .gt 7, 3) := by decide +kernel
set_option maxRecDepth 100000 in
theorem d_WM_isLevel_12 : decode b_WM_isLevel 12 = .ok (.iconst 1, 1) := by decide +kernel
set_option maxRecDepth 100000 in
theorem d_WM_isLevel_13 : decode b_WM_isLevel 13 = .ok (.goto 4, 3) := by decide +kernel
set_option maxRecDepth 100000 in
theorem d_WM_isLevel_16 : decode b_WM_isLevel 16 = .ok (.iconst 0, 1) := by decide +kernel
set_option maxRecDepth 100000 in
theorem d_WM_isLevel_17 : decode b_WM_isLevel 17 = .ok (.ireturn, 1) := by decide +kernel
set_option maxRecDepth 100000 in
theorem d_WM_isOars_0 : decode b_WM_isOars 0 = .ok (.iload_n 0, 1) := by decide +kernel
set_option maxRecDepth 100000 in
theorem d_WM_isOars_1 : decode b_WM_isOars 1 = .ok (.iconst 1, 1) := by decide +kernel
set_option maxRecDepth 100000 in
theorem d_WM_isOars_2 : decode b_WM_isOars 2 = .ok (.if_icmp .eq 8, 3) := by decide +kernel
set_option maxRecDepth 100000 in
theorem d_WM_isOars_5 : decode b_WM_isOars 5 = .ok (.iload_n 0, 1) := by decide +kernel
set_option maxRecDepth 100000 in
theorem d_WM_isOars_6 : decode b_WM_isOars 6 = .ok (.iconst 2, 1) := by decide +kernel
set_option maxRecDepth 100000 in
theorem d_WM_isOars_7 : decode b_WM_isOars 7 = .ok (.if_icmp .ne 7, 3) := by decide +kernel
set_option maxRecDepth 100000 in
theorem d_WM_isOars_10 : decode b_WM_isOars 10 = .ok (.iconst 1, 1) := by decide +kernel
set_option maxRecDepth 100000 in
theorem d_WM_isOars_11 : decode b_WM_isOars 11 = .ok (.goto 4, 3) := by decide +kernel
set_option maxRecDepth 100000 in
theorem d_WM_isOars_14 : decode b_WM_isOars 14 = .ok (.iconst 0, 1) := by decide +kernel
set_option maxRecDepth 100000 in
theorem d_WM_isOars_15 : decode b_WM_isOars 15 = .ok (.ireturn, 1) := by decide +kernel
set_option maxRecDepth 100000 in
theorem d_WM_join_0 : decode b_WM_join 0 = .ok (.aload_n 0, 1) := by decide +kernel
set_option maxRecDepth 100000 in
theorem d_WM_join_1 : decode b_WM_join 1 = .ok (.iload_n 2, 1) := by decide +kernel
set_option maxRecDepth 100000 in
theorem d_WM_join_2 : decode b_WM_join 2 = .ok (.invokevirtual 107, 3) := by decide +kernel
set_option maxRecDepth 100000 in
theorem d_WM_join_5 : decode b_WM_join 5 = .ok (.astore_n 3, 1) := by decide +kernel
set_option maxRecDepth 100000 in
theorem d_WM_join_6 : decode b_WM_join 6 = .ok (.aload_n 3, 1) := by decide +kernel
set_option maxRecDepth 100000 in
theorem d_WM_join_7 : decode b_WM_join 7 = .ok (.ifnull 14, 3) := by decide +kernel
set_option maxRecDepth 100000 in
theorem d_WM_join_10 : decode b_WM_join 10 = .ok (.aload_n 0, 1) := by decide +kernel
set_option maxRecDepth 100000 in
theorem d_WM_join_11 : decode b_WM_join 11 = .ok (.getfield 12, 3) := by decide +kernel
set_option maxRecDepth 100000 in
theorem d_WM_join_14 : decode b_WM_join 14 = .ok (.iload_n 1, 1) := by decide +kernel
set_option maxRecDepth 100000 in
theorem d_WM_join_15 : decode b_WM_join 15 = .ok (.invokevirtual 167, 3) := by decide +kernel
set_option maxRecDepth 100000 in
theorem d_WM_join_18 : decode b_WM_join 18 = .ok (.ifCond .ne 5, 3) := by decide +kernel
set_option maxRecDepth 100000 in
theorem d_WM_join_21 : decode b_WM_join 21 = .ok (.iconst (-1), 1) := by decide +kernel
set_option maxRecDepth 100000 in
theorem d_WM_join_22 : decode b_WM_join 22 = .ok (.ireturn, 1) := by decide +kernel
set_option maxRecDepth 100000 in
theorem d_WM_leave_0 : decode b_WM_leave 0 = .ok (.aload_n 0, 1) := by decide +kernel
set_option maxRecDepth 100000 in
theorem d_WM_leave_1 : decode b_WM_leave 1 = .ok (.iload_n 1, 1) := by decide +kernel
set_option maxRecDepth 100000 in
theorem d_WM_leave_2 : decode b_WM_leave 2 = .ok (.invokevirtual 107, 3) := by decide +kernel
set_option maxRecDepth 100000 in
theorem d_WM_leave_5 : decode b_WM_leave 5 = .ok (.astore_n 2, 1) := by decide +kernel
set_option maxRecDepth 100000 in
theorem d_WM_leave_6 : decode b_WM_leave 6 = .ok (.aload_n 2, 1) := by decide +kernel
set_option maxRecDepth 100000 in
theorem d_WM_leave_7 : decode b_WM_leave 7 = .ok (.ifnonnull 5, 3) := by decide +kernel
set_option maxRecDepth 100000 in
theorem d_WM_leave_10 : decode b_WM_leave 10 = .ok (.iconst (-1), 1) := by decide +kernel
set_option maxRecDepth 100000 in
theorem d_WM_leave_11 : decode b_WM_leave 11 = .ok (.ireturn, 1) := by decide +kernel
set_option maxRecDepth 100000 in
theorem d_WM_leave_12 : decode b_WM_leave 12 = .ok (.aload_n 2, 1) := by decide +kernel
set_option maxRecDepth 100000 in
theorem d_WM_leave_13 : decode b_WM_leave 13 = .ok (.getfield 145, 3) := by decide +kernel
set_option maxRecDepth 100000 in
theorem d_WM_leave_16 : decode b_WM_leave 16 = .ok (.iconst (-1), 1) := by decide +kernel
set_option maxRecDepth 100000 in
theorem d_WM_leave_17 : decode b_WM_leave 17 = .ok (.if_icmp .ne 6, 3) := by decide +kernel
set_option maxRecDepth 100000 in
theorem d_WM_leave_20 : decode b_WM_leave 20 = .ok (.bipush (-2), 2) := by decide +kernel
set_option maxRecDepth 100000 in
theorem d_WM_leave_22 : decode b_WM_leave 22 = .ok (.ireturn, 1) := by decide +kernel
set_option maxRecDepth 100000 in
theorem d_WM_level_0 : decode b_WM_level 0 = .ok (.iload_n 1, 1) := by decide +kernel
set_option maxRecDepth 100000 in
theorem d_WM_level_1 : decode b_WM_level 1 = .ok (.invokestatic 75, 3) := by decide +kernel
set_option maxRecDepth 100000 in
theorem d_WM_level_4 : decode b_WM_level 4 = .ok (.ifCond .eq 17, 3) := by decide +kernel
set_option maxRecDepth 100000 in
theorem d_WM_level_7 : decode b_WM_level 7 = .ok (.iload_n 2, 1) := by decide +kernel
set_option maxRecDepth 100000 in
theorem d_WM_level_8 : decode b_WM_level 8 = .ok (.invokestatic 79, 3) := by decide +kernel
set_option maxRecDepth 100000 in
theorem d_WM_level_11 : decode b_WM_level 11 = .ok (.ifCond .eq 10, 3) := by decide +kernel
set_option maxRecDepth 100000 in
theorem d_WM_level_14 : decode b_WM_level 14 = .ok (.iload_n 3, 1) := by decide +kernel
set_option maxRecDepth 100000 in
theorem d_WM_level_15 : decode b_WM_level 15 = .ok (.invokestatic 82, 3) := by decide +kernel
set_option maxRecDepth 100000 in
theorem d_WM_level_18 : decode b_WM_level 18 = .ok (.ifCond .ne 5, 3) := by decide +kernel
set_option maxRecDepth 100000 in
theorem d_WM_level_21 : decode b_WM_level 21 = .ok (.iconst (-1), 1) := by decide +kernel
set_option maxRecDepth 100000 in
theorem d_WM_level_22 : decode b_WM_level 22 = .ok (.ireturn, 1) := by decide +kernel
set_option maxRecDepth 100000 in
theorem d_WM_level_23 : decode b_WM_level 23 = .ok (.aload_n 0, 1) := by decide +kernel
set_option maxRecDepth 100000 in
theorem d_WM_level_24 : decode b_WM_level 24 = .ok (.getfield 12, 3) := by decide +kernel
set_option maxRecDepth 100000 in
theorem d_WM_level_27 : decode b_WM_level 27 = .ok (.iload_n 1, 1) := by decide +kernel
set_option maxRecDepth 100000 in
theorem d_WM_level_28 : decode b_WM_level 28 = .ok (.iload_n 2, 1) := by decide +kernel
set_option maxRecDepth 100000 in
theorem d_WM_level_29 : decode b_WM_level 29 = .ok (.iload_n 3, 1) := by decide +kernel
set_option maxRecDepth 100000 in
theorem d_WM_level_30 : decode b_WM_level 30 = .ok (.invokevirtual 85, 3) := by decide +kernel
set_option maxRecDepth 100000 in
theorem d_WM_level_33 : decode b_WM_level 33 = .ok (.iconst 1, 1) := by decide +kernel
set_option maxRecDepth 100000 in
theorem d_WM_level_34 : decode b_WM_level 34 = .ok (.ireturn, 1) := by decide +kernel
set_option maxRecDepth 100000 in
theorem d_WM_man_0 : decode b_WM_man 0 = .ok (.aload_n 0, 1) := by decide +kernel
set_option maxRecDepth 100000 in
theorem d_WM_man_1 : decode b_WM_man 1 = .ok (.iload_n 1, 1) := by decide +kernel
set_option maxRecDepth 100000 in
theorem d_WM_man_2 : decode b_WM_man 2 = .ok (.invokevirtual 107, 3) := by decide +kernel
set_option maxRecDepth 100000 in
theorem d_WM_man_5 : decode b_WM_man 5 = .ok (.astore_n 3, 1) := by decide +kernel
set_option maxRecDepth 100000 in
theorem d_WM_man_6 : decode b_WM_man 6 = .ok (.aload_n 3, 1) := by decide +kernel
set_option maxRecDepth 100000 in
theorem d_WM_man_7 : decode b_WM_man 7 = .ok (.ifnonnull 6, 3) := by decide +kernel
set_option maxRecDepth 100000 in
theorem d_WM_man_10 : decode b_WM_man 10 = .ok (.bipush (-2), 2) := by decide +kernel
set_option maxRecDepth 100000 in
theorem d_WM_man_12 : decode b_WM_man 12 = .ok (.ireturn, 1) := by decide +kernel
set_option maxRecDepth 100000 in
theorem d_WM_man_13 : decode b_WM_man 13 = .ok (.iload_n 2, 1) := by decide +kernel
set_option maxRecDepth 100000 in
theorem d_WM_man_14 : decode b_WM_man 14 = .ok (.tableswitch 112 0 6 #[42, 47, 74, 79, 85, 90, 107], 42) := by decide +kernel
set_option maxRecDepth 100000 in
theorem d_WM_man_56 : decode b_WM_man 56 = .ok (.aload_n 3, 1) := by decide +kernel
set_option maxRecDepth 100000 in
theorem d_WM_man_57 : decode b_WM_man 57 = .ok (.getfield 111, 3) := by decide +kernel
set_option maxRecDepth 100000 in
theorem d_WM_man_60 : decode b_WM_man 60 = .ok (.ireturn, 1) := by decide +kernel
set_option maxRecDepth 100000 in
theorem d_WM_man_61 : decode b_WM_man 61 = .ok (.aload_n 3, 1) := by decide +kernel
set_option maxRecDepth 100000 in
theorem d_WM_man_62 : decode b_WM_man 62 = .ok (.getfield 119, 3) := by decide +kernel
set_option maxRecDepth 100000 in
theorem d_WM_man_65 : decode b_WM_man 65 = .ok (.ifnull 21, 3) := by decide +kernel
set_option maxRecDepth 100000 in
theorem d_WM_man_86 : decode b_WM_man 86 = .ok (.iconst (-1), 1) := by decide +kernel
set_option maxRecDepth 100000 in
theorem d_WM_man_87 : decode b_WM_man 87 = .ok (.ireturn, 1) := by decide +kernel
set_option maxRecDepth 100000 in
theorem d_WM_man_88 : decode b_WM_man 88 = .ok (.aload_n 3, 1) := by decide +kernel
set_option maxRecDepth 100000 in
theorem d_WM_man_89 : decode b_WM_man 89 = .ok (.getfield 145, 3) := by decide +kernel
set_option maxRecDepth 100000 in
theorem d_WM_man_92 : decode b_WM_man 92 = .ok (.ireturn, 1) := by decide +kernel
set_option maxRecDepth 100000 in
theorem d_WM_man_93 : decode b_WM_man 93 = .ok (.aload_n 0, 1) := by decide +kernel
set_option maxRecDepth 100000 in
theorem d_WM_man_94 : decode b_WM_man 94 = .ok (.aload_n 3, 1) := by decide +kernel
set_option maxRecDepth 100000 in
theorem d_WM_man_95 : decode b_WM_man 95 = .ok (.invokevirtual 148, 3) := by decide +kernel
set_option maxRecDepth 100000 in
theorem d_WM_man_98 : decode b_WM_man 98 = .ok (.ireturn, 1) := by decide +kernel
set_option maxRecDepth 100000 in
theorem d_WM_man_99 : decode b_WM_man 99 = .ok (.aload_n 3, 1) := by decide +kernel
set_option maxRecDepth 100000 in
theorem d_WM_man_100 : decode b_WM_man 100 = .ok (.getfield 152, 3) := by decide +kernel
set_option maxRecDepth 100000 in
theorem d_WM_man_103 : decode b_WM_man 103 = .ok (.ireturn, 1) := by decide +kernel
set_option maxRecDepth 100000 in
theorem d_WM_man_104 : decode b_WM_man 104 = .ok (.aload_n 3, 1) := by decide +kernel
set_option maxRecDepth 100000 in
theorem d_WM_man_105 : decode b_WM_man 105 = .ok (.aload_n 0, 1) := by decide +kernel
set_option maxRecDepth 100000 in
theorem d_WM_man_106 : decode b_WM_man 106 = .ok (.getfield 155, 3) := by decide +kernel
set_option maxRecDepth 100000 in
theorem d_WM_man_109 : decode b_WM_man 109 = .ok (.invokevirtual 158, 3) := by decide +kernel
set_option maxRecDepth 100000 in
theorem d_WM_man_112 : decode b_WM_man 112 = .ok (.ifCond .eq 7, 3) := by decide +kernel
set_option maxRecDepth 100000 in
theorem d_WM_man_119 : decode b_WM_man 119 = .ok (.iconst 0, 1) := by decide +kernel
set_option maxRecDepth 100000 in
theorem d_WM_man_120 : decode b_WM_man 120 = .ok (.ireturn, 1) := by decide +kernel
set_option maxRecDepth 100000 in
theorem d_WM_man_121 : decode b_WM_man 121 = .ok (.aload_n 3, 1) := by decide +kernel
set_option maxRecDepth 100000 in
theorem d_WM_man_122 : decode b_WM_man 122 = .ok (.getfield 161, 3) := by decide +kernel
set_option maxRecDepth 100000 in
theorem d_WM_man_125 : decode b_WM_man 125 = .ok (.ireturn, 1) := by decide +kernel
set_option maxRecDepth 100000 in
theorem d_WM_man_126 : decode b_WM_man 126 = .ok (.bipush (-2), 2) := by decide +kernel
set_option maxRecDepth 100000 in
theorem d_WM_man_128 : decode b_WM_man 128 = .ok (.ireturn, 1) := by decide +kernel
set_option maxRecDepth 100000 in
theorem d_WM_manAt_0 : decode b_WM_manAt 0 = .ok (.iload_n 1, 1) := by decide +kernel
set_option maxRecDepth 100000 in
theorem d_WM_manAt_1 : decode b_WM_manAt 1 = .ok (.ifCond .lt 18, 3) := by decide +kernel
set_option maxRecDepth 100000 in
theorem d_WM_manAt_4 : decode b_WM_manAt 4 = .ok (.iload_n 1, 1) := by decide +kernel
set_option maxRecDepth 100000 in
theorem d_WM_manAt_5 : decode b_WM_manAt 5 = .ok (.bipush 40, 2) := by decide +kernel
set_option maxRecDepth 100000 in
theorem d_WM_manAt_7 : decode b_WM_manAt 7 = .ok (.if_icmp .ge 12, 3) := by decide +kernel
set_option maxRecDepth 100000 in
theorem d_WM_manAt_10 : decode b_WM_manAt 10 = .ok (.aload_n 0, 1) := by decide +kernel
set_option maxRecDepth 100000 in
theorem d_WM_manAt_11 : decode b_WM_manAt 11 = .ok (.getfield 18, 3) := by decide +kernel
set_option maxRecDepth 100000 in
theorem d_WM_manAt_14 : decode b_WM_manAt 14 = .ok (.iload_n 1, 1) := by decide +kernel
set_option maxRecDepth 100000 in
theorem d_WM_manAt_15 : decode b_WM_manAt 15 = .ok (.aaload, 1) := by decide +kernel
set_option maxRecDepth 100000 in
theorem d_WM_manAt_16 : decode b_WM_manAt 16 = .ok (.goto 4, 3) := by decide +kernel
set_option maxRecDepth 100000 in
theorem d_WM_manAt_19 : decode b_WM_manAt 19 = .ok (.aconst_null, 1) := by decide +kernel
set_option maxRecDepth 100000 in
theorem d_WM_manAt_20 : decode b_WM_manAt 20 = .ok (.areturn, 1) := by decide +kernel
set_option maxRecDepth 100000 in
theorem d_WM_menThatAre_0 : decode b_WM_menThatAre 0 = .ok (.iconst 0, 1) := by decide +kernel
set_option maxRecDepth 100000 in
theorem d_WM_menThatAre_1 : decode b_WM_menThatAre 1 = .ok (.istore_n 2, 1) := by decide +kernel
set_option maxRecDepth 100000 in
theorem d_WM_menThatAre_2 : decode b_WM_menThatAre 2 = .ok (.iconst 0, 1) := by decide +kernel
set_option maxRecDepth 100000 in
theorem d_WM_menThatAre_3 : decode b_WM_menThatAre 3 = .ok (.istore_n 3, 1) := by decide +kernel
set_option maxRecDepth 100000 in
theorem d_WM_menThatAre_4 : decode b_WM_menThatAre 4 = .ok (.iload_n 3, 1) := by decide +kernel
set_option maxRecDepth 100000 in
theorem d_WM_menThatAre_5 : decode b_WM_menThatAre 5 = .ok (.bipush 40, 2) := by decide +kernel
set_option maxRecDepth 100000 in
theorem d_WM_menThatAre_7 : decode b_WM_menThatAre 7 = .ok (.if_icmp .ge 34, 3) := by decide +kernel
set_option maxRecDepth 100000 in
theorem d_WM_menThatAre_10 : decode b_WM_menThatAre 10 = .ok (.aload_n 0, 1) := by decide +kernel
set_option maxRecDepth 100000 in
theorem d_WM_menThatAre_11 : decode b_WM_menThatAre 11 = .ok (.getfield 18, 3) := by decide +kernel
set_option maxRecDepth 100000 in
theorem d_WM_menThatAre_14 : decode b_WM_menThatAre 14 = .ok (.iload_n 3, 1) := by decide +kernel
set_option maxRecDepth 100000 in
theorem d_WM_menThatAre_15 : decode b_WM_menThatAre 15 = .ok (.aaload, 1) := by decide +kernel
set_option maxRecDepth 100000 in
theorem d_WM_menThatAre_16 : decode b_WM_menThatAre 16 = .ok (.astore 4, 2) := by decide +kernel
set_option maxRecDepth 100000 in
theorem d_WM_menThatAre_18 : decode b_WM_menThatAre 18 = .ok (.aload 4, 2) := by decide +kernel
set_option maxRecDepth 100000 in
theorem d_WM_menThatAre_20 : decode b_WM_menThatAre 20 = .ok (.ifnull 15, 3) := by decide +kernel
set_option maxRecDepth 100000 in
theorem d_WM_menThatAre_23 : decode b_WM_menThatAre 23 = .ok (.aload 4, 2) := by decide +kernel
set_option maxRecDepth 100000 in
theorem d_WM_menThatAre_25 : decode b_WM_menThatAre 25 = .ok (.getfield 111, 3) := by decide +kernel
set_option maxRecDepth 100000 in
theorem d_WM_menThatAre_28 : decode b_WM_menThatAre 28 = .ok (.iload_n 1, 1) := by decide +kernel
set_option maxRecDepth 100000 in
theorem d_WM_menThatAre_29 : decode b_WM_menThatAre 29 = .ok (.if_icmp .ne 6, 3) := by decide +kernel
set_option maxRecDepth 100000 in
theorem d_WM_menThatAre_32 : decode b_WM_menThatAre 32 = .ok (.iinc 2 1, 3) := by decide +kernel
set_option maxRecDepth 100000 in
theorem d_WM_menThatAre_35 : decode b_WM_menThatAre 35 = .ok (.iinc 3 1, 3) := by decide +kernel
set_option maxRecDepth 100000 in
theorem d_WM_menThatAre_38 : decode b_WM_menThatAre 38 = .ok (.goto (-34), 3) := by decide +kernel
set_option maxRecDepth 100000 in
theorem d_WM_menThatAre_41 : decode b_WM_menThatAre 41 = .ok (.iload_n 2, 1) := by decide +kernel
set_option maxRecDepth 100000 in
theorem d_WM_menThatAre_42 : decode b_WM_menThatAre 42 = .ok (.ireturn, 1) := by decide +kernel
set_option maxRecDepth 100000 in
theorem d_WM_numberInForce_0 : decode b_WM_numberInForce 0 = .ok (.aload_n 0, 1) := by decide +kernel
set_option maxRecDepth 100000 in
theorem d_WM_numberInForce_1 : decode b_WM_numberInForce 1 = .ok (.getfield 210, 3) := by decide +kernel
set_option maxRecDepth 100000 in
theorem d_WM_numberInForce_4 : decode b_WM_numberInForce 4 = .ok (.iconst 1, 1) := by decide +kernel
set_option maxRecDepth 100000 in
theorem d_WM_numberInForce_5 : decode b_WM_numberInForce 5 = .ok (.isub, 1) := by decide +kernel
set_option maxRecDepth 100000 in
theorem d_WM_numberInForce_6 : decode b_WM_numberInForce 6 = .ok (.istore_n 3, 1) := by decide +kernel
set_option maxRecDepth 100000 in
theorem d_WM_numberInForce_7 : decode b_WM_numberInForce 7 = .ok (.iload_n 3, 1) := by decide +kernel
set_option maxRecDepth 100000 in
theorem d_WM_numberInForce_8 : decode b_WM_numberInForce 8 = .ok (.ifCond .lt 41, 3) := by decide +kernel
set_option maxRecDepth 100000 in
theorem d_WM_numberInForce_49 : decode b_WM_numberInForce 49 = .ok (.bipush (-2), 2) := by decide +kernel
set_option maxRecDepth 100000 in
theorem d_WM_numberInForce_51 : decode b_WM_numberInForce 51 = .ok (.ireturn, 1) := by decide +kernel
set_option maxRecDepth 100000 in
theorem d_WM_orderAt_0 : decode b_WM_orderAt 0 = .ok (.iload_n 1, 1) := by decide +kernel
set_option maxRecDepth 100000 in
theorem d_WM_orderAt_1 : decode b_WM_orderAt 1 = .ok (.ifCond .lt 20, 3) := by decide +kernel
set_option maxRecDepth 100000 in
theorem d_WM_orderAt_4 : decode b_WM_orderAt 4 = .ok (.iload_n 1, 1) := by decide +kernel
set_option maxRecDepth 100000 in
theorem d_WM_orderAt_5 : decode b_WM_orderAt 5 = .ok (.aload_n 0, 1) := by decide +kernel
set_option maxRecDepth 100000 in
theorem d_WM_orderAt_6 : decode b_WM_orderAt 6 = .ok (.getfield 210, 3) := by decide +kernel
set_option maxRecDepth 100000 in
theorem d_WM_orderAt_9 : decode b_WM_orderAt 9 = .ok (.if_icmp .ge 12, 3) := by decide +kernel
set_option maxRecDepth 100000 in
theorem d_WM_orderAt_21 : decode b_WM_orderAt 21 = .ok (.aconst_null, 1) := by decide +kernel
set_option maxRecDepth 100000 in
theorem d_WM_orderAt_22 : decode b_WM_orderAt 22 = .ok (.areturn, 1) := by decide +kernel
set_option maxRecDepth 100000 in
theorem d_WM_over_0 : decode b_WM_over 0 = .ok (.aload_n 0, 1) := by decide +kernel
set_option maxRecDepth 100000 in
theorem d_WM_over_1 : decode b_WM_over 1 = .ok (.iload_n 1, 1) := by decide +kernel
set_option maxRecDepth 100000 in
theorem d_WM_over_2 : decode b_WM_over 2 = .ok (.invokevirtual 107, 3) := by decide +kernel
set_option maxRecDepth 100000 in
theorem d_WM_over_5 : decode b_WM_over 5 = .ok (.ifnull 10, 3) := by decide +kernel
set_option maxRecDepth 100000 in
theorem d_WM_over_8 : decode b_WM_over 8 = .ok (.iload_n 2, 1) := by decide +kernel
set_option maxRecDepth 100000 in
theorem d_WM_over_9 : decode b_WM_over 9 = .ok (.invokestatic 75, 3) := by decide +kernel
set_option maxRecDepth 100000 in
theorem d_WM_over_12 : decode b_WM_over 12 = .ok (.ifCond .ne 5, 3) := by decide +kernel
set_option maxRecDepth 100000 in
theorem d_WM_over_15 : decode b_WM_over 15 = .ok (.iconst (-1), 1) := by decide +kernel
set_option maxRecDepth 100000 in
theorem d_WM_over_16 : decode b_WM_over 16 = .ok (.ireturn, 1) := by decide +kernel
set_option maxRecDepth 100000 in
theorem d_WM_over_17 : decode b_WM_over 17 = .ok (.iconst 0, 1) := by decide +kernel
set_option maxRecDepth 100000 in
theorem d_WM_over_18 : decode b_WM_over 18 = .ok (.istore_n 3, 1) := by decide +kernel
set_option maxRecDepth 100000 in
theorem d_WM_over_19 : decode b_WM_over 19 = .ok (.iconst 0, 1) := by decide +kernel
set_option maxRecDepth 100000 in
theorem d_WM_over_20 : decode b_WM_over 20 = .ok (.istore 4, 2) := by decide +kernel
set_option maxRecDepth 100000 in
theorem d_WM_over_22 : decode b_WM_over 22 = .ok (.iload 4, 2) := by decide +kernel
set_option maxRecDepth 100000 in
theorem d_WM_over_24 : decode b_WM_over 24 = .ok (.aload_n 0, 1) := by decide +kernel
set_option maxRecDepth 100000 in
theorem d_WM_over_25 : decode b_WM_over 25 = .ok (.getfield 243, 3) := by decide +kernel
set_option maxRecDepth 100000 in
theorem d_WM_over_28 : decode b_WM_over 28 = .ok (.if_icmp .ge 41, 3) := by decide +kernel
set_option maxRecDepth 100000 in
theorem d_WM_over_69 : decode b_WM_over 69 = .ok (.iload_n 3, 1) := by decide +kernel
set_option maxRecDepth 100000 in
theorem d_WM_over_70 : decode b_WM_over 70 = .ok (.ireturn, 1) := by decide +kernel
set_option maxRecDepth 100000 in
theorem d_WM_pass_0 : decode b_WM_pass 0 = .ok (.aload_n 0, 1) := by decide +kernel
set_option maxRecDepth 100000 in
theorem d_WM_pass_1 : decode b_WM_pass 1 = .ok (.iload_n 1, 1) := by decide +kernel
set_option maxRecDepth 100000 in
theorem d_WM_pass_2 : decode b_WM_pass 2 = .ok (.invokevirtual 139, 3) := by decide +kernel
set_option maxRecDepth 100000 in
theorem d_WM_pass_5 : decode b_WM_pass 5 = .ok (.istore_n 2, 1) := by decide +kernel
set_option maxRecDepth 100000 in
theorem d_WM_pass_6 : decode b_WM_pass 6 = .ok (.aload_n 0, 1) := by decide +kernel
set_option maxRecDepth 100000 in
theorem d_WM_pass_7 : decode b_WM_pass 7 = .ok (.iload_n 1, 1) := by decide +kernel
set_option maxRecDepth 100000 in
theorem d_WM_pass_8 : decode b_WM_pass 8 = .ok (.invokevirtual 107, 3) := by decide +kernel
set_option maxRecDepth 100000 in
theorem d_WM_pass_11 : decode b_WM_pass 11 = .ok (.astore_n 3, 1) := by decide +kernel
set_option maxRecDepth 100000 in
theorem d_WM_pass_12 : decode b_WM_pass 12 = .ok (.iload_n 2, 1) := by decide +kernel
set_option maxRecDepth 100000 in
theorem d_WM_pass_13 : decode b_WM_pass 13 = .ok (.ifCond .lt 7, 3) := by decide +kernel
set_option maxRecDepth 100000 in
theorem d_WM_pass_20 : decode b_WM_pass 20 = .ok (.iload_n 2, 1) := by decide +kernel
set_option maxRecDepth 100000 in
theorem d_WM_pass_21 : decode b_WM_pass 21 = .ok (.ireturn, 1) := by decide +kernel
set_option maxRecDepth 100000 in
theorem d_WM_pensioner_0 : decode b_WM_pensioner 0 = .ok (.aload_n 0, 1) := by decide +kernel
set_option maxRecDepth 100000 in
theorem d_WM_pensioner_1 : decode b_WM_pensioner 1 = .ok (.getfield 50, 3) := by decide +kernel
set_option maxRecDepth 100000 in
theorem d_WM_pensioner_4 : decode b_WM_pensioner 4 = .ok (.iload_n 1, 1) := by decide +kernel
set_option maxRecDepth 100000 in
theorem d_WM_pensioner_5 : decode b_WM_pensioner 5 = .ok (.invokevirtual 325, 3) := by decide +kernel
set_option maxRecDepth 100000 in
theorem d_WM_pensioner_8 : decode b_WM_pensioner 8 = .ok (.astore_n 3, 1) := by decide +kernel
set_option maxRecDepth 100000 in
theorem d_WM_pensioner_9 : decode b_WM_pensioner 9 = .ok (.aload_n 3, 1) := by decide +kernel
set_option maxRecDepth 100000 in
theorem d_WM_pensioner_10 : decode b_WM_pensioner 10 = .ok (.ifnonnull 5, 3) := by decide +kernel
set_option maxRecDepth 100000 in
theorem d_WM_pensioner_13 : decode b_WM_pensioner 13 = .ok (.iconst (-1), 1) := by decide +kernel
set_option maxRecDepth 100000 in
theorem d_WM_pensioner_14 : decode b_WM_pensioner 14 = .ok (.ireturn, 1) := by decide +kernel
set_option maxRecDepth 100000 in
theorem d_WM_placeInTurns_0 : decode b_WM_placeInTurns 0 = .ok (.aload_n 1, 1) := by decide +kernel
set_option maxRecDepth 100000 in
theorem d_WM_placeInTurns_1 : decode b_WM_placeInTurns 1 = .ok (.getfield 145, 3) := by decide +kernel
set_option maxRecDepth 100000 in
theorem d_WM_placeInTurns_4 : decode b_WM_placeInTurns 4 = .ok (.iconst (-1), 1) := by decide +kernel
set_option maxRecDepth 100000 in
theorem d_WM_placeInTurns_5 : decode b_WM_placeInTurns 5 = .ok (.if_icmp .ne 5, 3) := by decide +kernel
set_option maxRecDepth 100000 in
theorem d_WM_placeInTurns_8 : decode b_WM_placeInTurns 8 = .ok (.iconst (-1), 1) := by decide +kernel
set_option maxRecDepth 100000 in
theorem d_WM_placeInTurns_9 : decode b_WM_placeInTurns 9 = .ok (.ireturn, 1) := by decide +kernel
set_option maxRecDepth 100000 in
theorem d_WM_row_0 : decode b_WM_row 0 = .ok (.aload_n 0, 1) := by decide +kernel
set_option maxRecDepth 100000 in
theorem d_WM_row_1 : decode b_WM_row 1 = .ok (.iload_n 1, 1) := by decide +kernel
set_option maxRecDepth 100000 in
theorem d_WM_row_2 : decode b_WM_row 2 = .ok (.invokevirtual 174, 3) := by decide +kernel
set_option maxRecDepth 100000 in
theorem d_WM_row_5 : decode b_WM_row 5 = .ok (.astore 5, 2) := by decide +kernel
set_option maxRecDepth 100000 in
theorem d_WM_row_7 : decode b_WM_row 7 = .ok (.aload_n 0, 1) := by decide +kernel
set_option maxRecDepth 100000 in
theorem d_WM_row_8 : decode b_WM_row 8 = .ok (.iload_n 2, 1) := by decide +kernel
set_option maxRecDepth 100000 in
theorem d_WM_row_9 : decode b_WM_row 9 = .ok (.invokevirtual 107, 3) := by decide +kernel
set_option maxRecDepth 100000 in
theorem d_WM_row_12 : decode b_WM_row 12 = .ok (.astore 6, 2) := by decide +kernel
set_option maxRecDepth 100000 in
theorem d_WM_row_14 : decode b_WM_row 14 = .ok (.aload 5, 2) := by decide +kernel
set_option maxRecDepth 100000 in
theorem d_WM_row_16 : decode b_WM_row 16 = .ok (.ifnull 30, 3) := by decide +kernel
set_option maxRecDepth 100000 in
theorem d_WM_row_46 : decode b_WM_row 46 = .ok (.iconst (-1), 1) := by decide +kernel
set_option maxRecDepth 100000 in
theorem d_WM_row_47 : decode b_WM_row 47 = .ok (.ireturn, 1) := by decide +kernel
set_option maxRecDepth 100000 in
theorem d_WM_served_0 : decode b_WM_served 0 = .ok (.aload_n 0, 1) := by decide +kernel
set_option maxRecDepth 100000 in
theorem d_WM_served_1 : decode b_WM_served 1 = .ok (.iload_n 1, 1) := by decide +kernel
set_option maxRecDepth 100000 in
theorem d_WM_served_2 : decode b_WM_served 2 = .ok (.invokevirtual 107, 3) := by decide +kernel
set_option maxRecDepth 100000 in
theorem d_WM_served_5 : decode b_WM_served 5 = .ok (.astore_n 2, 1) := by decide +kernel
set_option maxRecDepth 100000 in
theorem d_WM_served_6 : decode b_WM_served 6 = .ok (.aload_n 2, 1) := by decide +kernel
set_option maxRecDepth 100000 in
theorem d_WM_served_7 : decode b_WM_served 7 = .ok (.ifnonnull 5, 3) := by decide +kernel
set_option maxRecDepth 100000 in
theorem d_WM_served_10 : decode b_WM_served 10 = .ok (.iconst (-1), 1) := by decide +kernel
set_option maxRecDepth 100000 in
theorem d_WM_served_11 : decode b_WM_served 11 = .ok (.ireturn, 1) := by decide +kernel
set_option maxRecDepth 100000 in
theorem d_WM_served_12 : decode b_WM_served 12 = .ok (.aload_n 2, 1) := by decide +kernel
set_option maxRecDepth 100000 in
theorem d_WM_served_13 : decode b_WM_served 13 = .ok (.getfield 119, 3) := by decide +kernel
set_option maxRecDepth 100000 in
theorem d_WM_served_16 : decode b_WM_served 16 = .ok (.astore_n 3, 1) := by decide +kernel
set_option maxRecDepth 100000 in
theorem d_WM_served_17 : decode b_WM_served 17 = .ok (.aload_n 3, 1) := by decide +kernel
set_option maxRecDepth 100000 in
theorem d_WM_served_18 : decode b_WM_served 18 = .ok (.ifnull 11, 3) := by decide +kernel
set_option maxRecDepth 100000 in
theorem d_WM_served_29 : decode b_WM_served 29 = .ok (.bipush (-2), 2) := by decide +kernel
set_option maxRecDepth 100000 in
theorem d_WM_served_31 : decode b_WM_served 31 = .ok (.goto 11, 3) := by decide +kernel
set_option maxRecDepth 100000 in
theorem d_WM_served_42 : decode b_WM_served 42 = .ok (.ireturn, 1) := by decide +kernel
set_option maxRecDepth 100000 in
theorem d_WM_sink_0 : decode b_WM_sink 0 = .ok (.aload_n 0, 1) := by decide +kernel
set_option maxRecDepth 100000 in
theorem d_WM_sink_1 : decode b_WM_sink 1 = .ok (.iload_n 1, 1) := by decide +kernel
set_option maxRecDepth 100000 in
theorem d_WM_sink_2 : decode b_WM_sink 2 = .ok (.invokevirtual 174, 3) := by decide +kernel
set_option maxRecDepth 100000 in
theorem d_WM_sink_5 : decode b_WM_sink 5 = .ok (.astore 4, 2) := by decide +kernel
set_option maxRecDepth 100000 in
theorem d_WM_sink_7 : decode b_WM_sink 7 = .ok (.aload 4, 2) := by decide +kernel
set_option maxRecDepth 100000 in
theorem d_WM_sink_9 : decode b_WM_sink 9 = .ok (.ifnull 11, 3) := by decide +kernel
set_option maxRecDepth 100000 in
theorem d_WM_sink_20 : decode b_WM_sink 20 = .ok (.iconst (-1), 1) := by decide +kernel
set_option maxRecDepth 100000 in
theorem d_WM_sink_21 : decode b_WM_sink 21 = .ok (.ireturn, 1) := by decide +kernel
set_option maxRecDepth 100000 in
theorem d_WM_stairs_0 : decode b_WM_stairs 0 = .ok (.iload_n 1, 1) := by decide +kernel
set_option maxRecDepth 100000 in
theorem d_WM_stairs_1 : decode b_WM_stairs 1 = .ok (.ifCond .lt 20, 3) := by decide +kernel
set_option maxRecDepth 100000 in
theorem d_WM_stairs_4 : decode b_WM_stairs 4 = .ok (.iload_n 1, 1) := by decide +kernel
set_option maxRecDepth 100000 in
theorem d_WM_stairs_5 : decode b_WM_stairs 5 = .ok (.bipush 60, 2) := by decide +kernel
set_option maxRecDepth 100000 in
theorem d_WM_stairs_7 : decode b_WM_stairs 7 = .ok (.if_icmp .gt 14, 3) := by decide +kernel
set_option maxRecDepth 100000 in
theorem d_WM_stairs_10 : decode b_WM_stairs 10 = .ok (.iload_n 1, 1) := by decide +kernel
set_option maxRecDepth 100000 in
theorem d_WM_stairs_11 : decode b_WM_stairs 11 = .ok (.aload_n 0, 1) := by decide +kernel
set_option maxRecDepth 100000 in
theorem d_WM_stairs_12 : decode b_WM_stairs 12 = .ok (.getfield 12, 3) := by decide +kernel
set_option maxRecDepth 100000 in
theorem d_WM_stairs_15 : decode b_WM_stairs 15 = .ok (.invokevirtual 60, 3) := by decide +kernel
set_option maxRecDepth 100000 in
theorem d_WM_stairs_18 : decode b_WM_stairs 18 = .ok (.if_icmp .gt 5, 3) := by decide +kernel
set_option maxRecDepth 100000 in
theorem d_WM_stairs_21 : decode b_WM_stairs 21 = .ok (.iconst (-1), 1) := by decide +kernel
set_option maxRecDepth 100000 in
theorem d_WM_stairs_22 : decode b_WM_stairs 22 = .ok (.ireturn, 1) := by decide +kernel
set_option maxRecDepth 100000 in
theorem d_WM_stairs_23 : decode b_WM_stairs 23 = .ok (.aload_n 0, 1) := by decide +kernel
set_option maxRecDepth 100000 in
theorem d_WM_stairs_24 : decode b_WM_stairs 24 = .ok (.getfield 12, 3) := by decide +kernel
set_option maxRecDepth 100000 in
theorem d_WM_stairs_27 : decode b_WM_stairs 27 = .ok (.getfield 64, 3) := by decide +kernel
set_option maxRecDepth 100000 in
theorem d_WM_stairs_30 : decode b_WM_stairs 30 = .ok (.bipush 12, 2) := by decide +kernel
set_option maxRecDepth 100000 in
theorem d_WM_stairs_32 : decode b_WM_stairs 32 = .ok (.if_icmp .lt 8, 3) := by decide +kernel
set_option maxRecDepth 100000 in
theorem d_WM_stairs_40 : decode b_WM_stairs 40 = .ok (.aload_n 0, 1) := by decide +kernel
set_option maxRecDepth 100000 in
theorem d_WM_stairs_41 : decode b_WM_stairs 41 = .ok (.getfield 12, 3) := by decide +kernel
set_option maxRecDepth 100000 in
theorem d_WM_stairs_44 : decode b_WM_stairs 44 = .ok (.iload_n 1, 1) := by decide +kernel
set_option maxRecDepth 100000 in
theorem d_WM_stairs_45 : decode b_WM_stairs 45 = .ok (.invokevirtual 68, 3) := by decide +kernel
set_option maxRecDepth 100000 in
theorem d_WM_stairs_48 : decode b_WM_stairs 48 = .ok (.ireturn, 1) := by decide +kernel
set_option maxRecDepth 100000 in
theorem d_WM_table_0 : decode b_WM_table 0 = .ok (.iload_n 1, 1) := by decide +kernel
set_option maxRecDepth 100000 in
theorem d_WM_table_1 : decode b_WM_table 1 = .ok (.invokestatic 79, 3) := by decide +kernel
set_option maxRecDepth 100000 in
theorem d_WM_table_4 : decode b_WM_table 4 = .ok (.ifCond .eq 10, 3) := by decide +kernel
set_option maxRecDepth 100000 in
theorem d_WM_table_7 : decode b_WM_table 7 = .ok (.iload_n 2, 1) := by decide +kernel
set_option maxRecDepth 100000 in
theorem d_WM_table_8 : decode b_WM_table 8 = .ok (.invokestatic 82, 3) := by decide +kernel
set_option maxRecDepth 100000 in
theorem d_WM_table_11 : decode b_WM_table 11 = .ok (.ifCond .ne 7, 3) := by decide +kernel
set_option maxRecDepth 100000 in
theorem d_WM_table_14 : decode b_WM_table 14 = .ok (.sipush (-1000), 3) := by decide +kernel
set_option maxRecDepth 100000 in
theorem d_WM_table_17 : decode b_WM_table 17 = .ok (.ireturn, 1) := by decide +kernel
set_option maxRecDepth 100000 in
theorem d_WM_table_18 : decode b_WM_table 18 = .ok (.aload_n 0, 1) := by decide +kernel
set_option maxRecDepth 100000 in
theorem d_WM_table_19 : decode b_WM_table 19 = .ok (.getfield 12, 3) := by decide +kernel
set_option maxRecDepth 100000 in
theorem d_WM_table_22 : decode b_WM_table 22 = .ok (.getfield 89, 3) := by decide +kernel
set_option maxRecDepth 100000 in
theorem d_WM_table_25 : decode b_WM_table 25 = .ok (.iload_n 1, 1) := by decide +kernel
set_option maxRecDepth 100000 in
theorem d_WM_table_26 : decode b_WM_table 26 = .ok (.iaload, 1) := by decide +kernel
set_option maxRecDepth 100000 in
theorem d_WM_table_27 : decode b_WM_table 27 = .ok (.istore_n 3, 1) := by decide +kernel
set_option maxRecDepth 100000 in
theorem d_WM_table_28 : decode b_WM_table 28 = .ok (.aload_n 0, 1) := by decide +kernel
set_option maxRecDepth 100000 in
theorem d_WM_table_29 : decode b_WM_table 29 = .ok (.getfield 12, 3) := by decide +kernel
set_option maxRecDepth 100000 in
theorem d_WM_table_32 : decode b_WM_table 32 = .ok (.getfield 89, 3) := by decide +kernel
set_option maxRecDepth 100000 in
theorem d_WM_table_35 : decode b_WM_table 35 = .ok (.iload_n 1, 1) := by decide +kernel
set_option maxRecDepth 100000 in
theorem d_WM_table_36 : decode b_WM_table 36 = .ok (.iload_n 2, 1) := by decide +kernel
set_option maxRecDepth 100000 in
theorem d_WM_table_37 : decode b_WM_table 37 = .ok (.iastore, 1) := by decide +kernel
set_option maxRecDepth 100000 in
theorem d_WM_table_38 : decode b_WM_table 38 = .ok (.iload_n 3, 1) := by decide +kernel
set_option maxRecDepth 100000 in
theorem d_WM_table_39 : decode b_WM_table 39 = .ok (.ireturn, 1) := by decide +kernel
set_option maxRecDepth 100000 in
theorem d_WM_today_0 : decode b_WM_today 0 = .ok (.aload_n 0, 1) := by decide +kernel
set_option maxRecDepth 100000 in
theorem d_WM_today_1 : decode b_WM_today 1 = .ok (.getfield 155, 3) := by decide +kernel
set_option maxRecDepth 100000 in
theorem d_WM_today_4 : decode b_WM_today 4 = .ok (.sipush 720, 3) := by decide +kernel
set_option maxRecDepth 100000 in
theorem d_WM_today_7 : decode b_WM_today 7 = .ok (.idiv, 1) := by decide +kernel
set_option maxRecDepth 100000 in
theorem d_WM_today_8 : decode b_WM_today 8 = .ok (.ireturn, 1) := by decide +kernel
set_option maxRecDepth 100000 in
theorem d_WM_trip_0 : decode b_WM_trip 0 = .ok (.aload_n 0, 1) := by decide +kernel
set_option maxRecDepth 100000 in
theorem d_WM_trip_1 : decode b_WM_trip 1 = .ok (.iload_n 1, 1) := by decide +kernel
set_option maxRecDepth 100000 in
theorem d_WM_trip_2 : decode b_WM_trip 2 = .ok (.invokevirtual 293, 3) := by decide +kernel
set_option maxRecDepth 100000 in
theorem d_WM_trip_5 : decode b_WM_trip 5 = .ok (.astore_n 3, 1) := by decide +kernel
set_option maxRecDepth 100000 in
theorem d_WM_trip_6 : decode b_WM_trip 6 = .ok (.aload_n 3, 1) := by decide +kernel
set_option maxRecDepth 100000 in
theorem d_WM_trip_7 : decode b_WM_trip 7 = .ok (.ifnonnull 6, 3) := by decide +kernel
set_option maxRecDepth 100000 in
theorem d_WM_trip_10 : decode b_WM_trip 10 = .ok (.bipush (-2), 2) := by decide +kernel
set_option maxRecDepth 100000 in
theorem d_WM_trip_12 : decode b_WM_trip 12 = .ok (.ireturn, 1) := by decide +kernel
set_option maxRecDepth 100000 in
theorem d_WM_tripAt_0 : decode b_WM_tripAt 0 = .ok (.iload_n 1, 1) := by decide +kernel
set_option maxRecDepth 100000 in
theorem d_WM_tripAt_1 : decode b_WM_tripAt 1 = .ok (.ifCond .lt 20, 3) := by decide +kernel
set_option maxRecDepth 100000 in
theorem d_WM_tripAt_4 : decode b_WM_tripAt 4 = .ok (.iload_n 1, 1) := by decide +kernel
set_option maxRecDepth 100000 in
theorem d_WM_tripAt_5 : decode b_WM_tripAt 5 = .ok (.aload_n 0, 1) := by decide +kernel
set_option maxRecDepth 100000 in
theorem d_WM_tripAt_6 : decode b_WM_tripAt 6 = .ok (.getfield 243, 3) := by decide +kernel
set_option maxRecDepth 100000 in
theorem d_WM_tripAt_9 : decode b_WM_tripAt 9 = .ok (.if_icmp .ge 12, 3) := by decide +kernel
set_option maxRecDepth 100000 in
theorem d_WM_tripAt_21 : decode b_WM_tripAt 21 = .ok (.aconst_null, 1) := by decide +kernel
set_option maxRecDepth 100000 in
theorem d_WM_tripAt_22 : decode b_WM_tripAt 22 = .ok (.areturn, 1) := by decide +kernel
set_option maxRecDepth 100000 in
theorem d_WM_why_0 : decode b_WM_why 0 = .ok (.aload_n 0, 1) := by decide +kernel
set_option maxRecDepth 100000 in
theorem d_WM_why_1 : decode b_WM_why 1 = .ok (.iload_n 1, 1) := by decide +kernel
set_option maxRecDepth 100000 in
theorem d_WM_why_2 : decode b_WM_why 2 = .ok (.invokevirtual 174, 3) := by decide +kernel
set_option maxRecDepth 100000 in
theorem d_WM_why_5 : decode b_WM_why 5 = .ok (.astore 4, 2) := by decide +kernel
set_option maxRecDepth 100000 in
theorem d_WM_why_7 : decode b_WM_why 7 = .ok (.aload_n 0, 1) := by decide +kernel
set_option maxRecDepth 100000 in
theorem d_WM_why_8 : decode b_WM_why 8 = .ok (.iload_n 2, 1) := by decide +kernel
set_option maxRecDepth 100000 in
theorem d_WM_why_9 : decode b_WM_why 9 = .ok (.invokevirtual 107, 3) := by decide +kernel
set_option maxRecDepth 100000 in
theorem d_WM_why_12 : decode b_WM_why 12 = .ok (.astore 5, 2) := by decide +kernel
set_option maxRecDepth 100000 in
theorem d_WM_why_14 : decode b_WM_why 14 = .ok (.aload 4, 2) := by decide +kernel
set_option maxRecDepth 100000 in
theorem d_WM_why_16 : decode b_WM_why 16 = .ok (.ifnull 18, 3) := by decide +kernel
set_option maxRecDepth 100000 in
theorem d_WM_why_34 : decode b_WM_why 34 = .ok (.iconst (-1), 1) := by decide +kernel
set_option maxRecDepth 100000 in
theorem d_WM_why_35 : decode b_WM_why 35 = .ok (.ireturn, 1) := by decide +kernel
end
section
def manF : List Value := [.int 0, .null, .int (-1), .int 0, .int 0, .int 0, .int 0, .int (-1)]
def XW (a : Nat → Nat) (k : Nat → ClassId) (L : List Nat) : va_W := [((a 0), .inr (0, [.ref (a 1), .ref (a 6), .ref (a 7), .ref (a 8), .ref (a 9), .ref (a 10), .ref (a 12), .int 0, .int 0, .int 0, .int 0, .int 0, .ref (a 15)])), ((a 1), .inr (1, [.ref (a 2), .ref (a 3), .ref (a 4), .ref (a 5), .int 0, .int (-1)])), ((a 2), .inl ((k 2), 12, .inl (fun _ => 0))), ((a 3), .inl ((k 3), 12, .inl (fun _ => 0))), ((a 4), .inl ((k 4), 500, .inr (.inr (.inr (.inr (fun _ => none)))))), ((a 5), .inl ((k 5), 500, .inl (fun _ => 0))), ((a 6), .inl ((k 6), 40, .inr (.inr (.inr (.inr (fun j => L[j]?)))))), ((a 7), .inl ((k 7), 20, .inr (.inr (.inr (.inr (fun _ => none)))))), ((a 8), .inl ((k 8), 20, .inr (.inr (.inr (.inr (fun _ => none)))))), ((a 9), .inl ((k 9), 600, .inr (.inr (.inr (.inr (fun _ => none)))))), ((a 10), .inr (4, [.ref (a 11), .int 0, .int 0, .int 0, .int 0, .int 0])), ((a 11), .inl ((k 11), 400, .inl (fun _ => 0))), ((a 12), .inr (5, [.int 0, .int 0, .int 0, .int 0, .ref (a 13), .ref (a 14), .int 0])), ((a 13), .inl ((k 13), 500, .inl (fun _ => 0))), ((a 14), .inl ((k 14), 30, .inr (.inr (.inr (.inr (fun _ => none)))))), ((a 15), .inr (3, [.int 0, .int 0, .ref (a 16), .ref (a 17), .ref (a 18), .int 0, .int 0, .int 0, .int 0])), ((a 16), .inl ((k 16), 36, .inl (fun _ => 0))), ((a 17), .inl ((k 17), 36, .inl (fun _ => 0))), ((a 18), .inl ((k 18), 9, .inl (fun _ => 0)))] ++ va_pl L (fun _ => .inr (2, manF))
def XT (k : Nat → ClassId) : List (ClassId × FieldType) := [((k 2), .int), ((k 3), .int), ((k 4), .array .int), ((k 5), .boolean), ((k 6), .object R_Mn), ((k 7), .object R_Bt), ((k 8), .object R_Or), ((k 9), .object R_Tr), ((k 11), .byte), ((k 13), .int), ((k 14), .object R_Pn), ((k 16), .int), ((k 17), .int), ((k 18), .int)]
def MW (a : Nat → Nat) (k : Nat → ClassId) : va_W := [((a 0), .inr (7, [.int 0, .int 0, .int 0, .ref (a 1), .int (-1), .ref (a 2), .ref (a 3), .ref (a 4), .ref (a 5), .ref (a 6), .ref (a 7), .ref (a 8), .ref (a 9), .ref (a 10), .ref (a 11), .ref (a 12), .ref (a 13), .ref (a 14), .ref (a 15), .ref (a 16), .ref (a 17), .int 0, .ref (a 18), .ref (a 19), .ref (a 20), .ref (a 21), .ref (a 22), .ref (a 23), .int 0, .int 0, .ref (a 24), .ref (a 25), .ref (a 26), .ref (a 27), .ref (a 28), .ref (a 29), .ref (a 30), .ref (a 31), .ref (a 32), .ref (a 33), .ref (a 34), .ref (a 35), .int 0, .int 0, .int 0, .int 0, .int 0, .int 0, .ref (a 36), .ref (a 37), .ref (a 38), .ref (a 39), .ref (a 40), .ref (a 41), .ref (a 42), .ref (a 43), .long 0, .long 0, .long 0, .ref (a 44), .int 0, .ref (a 45), .ref (a 46), .ref (a 47)])), ((a 1), .inl ((k 1), 12, .inl (fun _ => 0))), ((a 2), .inl ((k 2), 12, .inl (fun _ => 0))), ((a 3), .inl ((k 3), 500, .inl (fun _ => 0))), ((a 4), .inl ((k 4), 6000, .inl (fun _ => 0))), ((a 5), .inl ((k 5), 500, .inl (fun _ => 0))), ((a 6), .inl ((k 6), 40, .inl (fun _ => 0))), ((a 7), .inl ((k 7), 40, .inl (fun _ => (-1)))), ((a 8), .inl ((k 8), 40, .inl (fun _ => 0))), ((a 9), .inl ((k 9), 40, .inl (fun _ => 0))), ((a 10), .inl ((k 10), 240, .inl (fun _ => 0))), ((a 11), .inl ((k 11), 240, .inl (fun _ => 0))), ((a 12), .inl ((k 12), 40, .inl (fun _ => 0))), ((a 13), .inl ((k 13), 40, .inl (fun _ => (-1)))), ((a 14), .inl ((k 14), 40, .inl (fun _ => 0))), ((a 15), .inl ((k 15), 40, .inl (fun _ => 0))), ((a 16), .inl ((k 16), 12, .inl (fun _ => 0))), ((a 17), .inl ((k 17), 480, .inl (fun _ => 0))), ((a 18), .inl ((k 18), 20, .inl (fun _ => 0))), ((a 19), .inl ((k 19), 20, .inl (fun _ => 0))), ((a 20), .inl ((k 20), 20, .inl (fun _ => 0))), ((a 21), .inl ((k 21), 20, .inl (fun _ => 0))), ((a 22), .inl ((k 22), 20, .inl (fun _ => 0))), ((a 23), .inl ((k 23), 400, .inl (fun _ => 0))), ((a 24), .inl ((k 24), 20, .inl (fun _ => 0))), ((a 25), .inl ((k 25), 20, .inl (fun _ => 0))), ((a 26), .inl ((k 26), 20, .inl (fun _ => 0))), ((a 27), .inl ((k 27), 240, .inl (fun _ => 0))), ((a 28), .inl ((k 28), 240, .inl (fun _ => 0))), ((a 29), .inl ((k 29), 240, .inl (fun _ => 0))), ((a 30), .inl ((k 30), 20, .inl (fun _ => 0))), ((a 31), .inl ((k 31), 240, .inl (fun _ => 0))), ((a 32), .inl ((k 32), 240, .inl (fun _ => 0))), ((a 33), .inl ((k 33), 240, .inl (fun _ => 0))), ((a 34), .inl ((k 34), 180, .inl (fun _ => 0))), ((a 35), .inl ((k 35), 20, .inl (fun _ => 0))), ((a 36), .inl ((k 36), 600, .inl (fun _ => 0))), ((a 37), .inl ((k 37), 600, .inl (fun _ => 0))), ((a 38), .inl ((k 38), 600, .inl (fun _ => 0))), ((a 39), .inl ((k 39), 600, .inl (fun _ => 0))), ((a 40), .inl ((k 40), 600, .inl (fun _ => 0))), ((a 41), .inl ((k 41), 600, .inl (fun _ => 0))), ((a 42), .inl ((k 42), 600, .inl (fun _ => 0))), ((a 43), .inl ((k 43), 600, .inl (fun _ => 0))), ((a 44), .inl ((k 44), 500, .inr (.inl (fun _ => 0)))), ((a 45), .inl ((k 45), 30, .inl (fun _ => 0))), ((a 46), .inl ((k 46), 30, .inl (fun _ => 0))), ((a 47), .inl ((k 47), 30, .inl (fun _ => 0)))]
def MT (k : Nat → ClassId) : List (ClassId × FieldType) := [((k 1), .int), ((k 2), .int), ((k 3), .boolean), ((k 4), .int), ((k 5), .boolean), ((k 6), .int), ((k 7), .int), ((k 8), .int), ((k 9), .int), ((k 10), .int), ((k 11), .int), ((k 12), .int), ((k 13), .int), ((k 14), .int), ((k 15), .boolean), ((k 16), .int), ((k 17), .int), ((k 18), .int), ((k 19), .int), ((k 20), .int), ((k 21), .int), ((k 22), .boolean), ((k 23), .byte), ((k 24), .int), ((k 25), .int), ((k 26), .int), ((k 27), .int), ((k 28), .int), ((k 29), .int), ((k 30), .int), ((k 31), .int), ((k 32), .int), ((k 33), .int), ((k 34), .int), ((k 35), .int), ((k 36), .int), ((k 37), .int), ((k 38), .int), ((k 39), .int), ((k 40), .int), ((k 41), .int), ((k 42), .int), ((k 43), .boolean), ((k 44), .long), ((k 45), .int), ((k 46), .int), ((k 47), .int)]
theorem xw_man {a : Nat → Nat} {k : Nat → ClassId} {L : List Nat} (hL : L.length = 40) {i : Int32} (h : vp_in i 40) : ∃ (q kx : Nat), L[i.toNatClampNeg]? = some q ∧ (XW a k L)[kx]? = some (q, .inr (2, manF)) := by
  have hlt : i.toNatClampNeg < L.length := by rw [hL]; exact Nat.not_le.mp fun q => h (Or.inr q)
  obtain ⟨kx, hk⟩ := va_pl_get (X := [((a 0), .inr (0, [.ref (a 1), .ref (a 6), .ref (a 7), .ref (a 8), .ref (a 9), .ref (a 10), .ref (a 12), .int 0, .int 0, .int 0, .int 0, .int 0, .ref (a 15)])), ((a 1), .inr (1, [.ref (a 2), .ref (a 3), .ref (a 4), .ref (a 5), .int 0, .int (-1)])), ((a 2), .inl ((k 2), 12, .inl (fun _ => 0))), ((a 3), .inl ((k 3), 12, .inl (fun _ => 0))), ((a 4), .inl ((k 4), 500, .inr (.inr (.inr (.inr (fun _ => none)))))), ((a 5), .inl ((k 5), 500, .inl (fun _ => 0))), ((a 6), .inl ((k 6), 40, .inr (.inr (.inr (.inr (fun j => L[j]?)))))), ((a 7), .inl ((k 7), 20, .inr (.inr (.inr (.inr (fun _ => none)))))), ((a 8), .inl ((k 8), 20, .inr (.inr (.inr (.inr (fun _ => none)))))), ((a 9), .inl ((k 9), 600, .inr (.inr (.inr (.inr (fun _ => none)))))), ((a 10), .inr (4, [.ref (a 11), .int 0, .int 0, .int 0, .int 0, .int 0])), ((a 11), .inl ((k 11), 400, .inl (fun _ => 0))), ((a 12), .inr (5, [.int 0, .int 0, .int 0, .int 0, .ref (a 13), .ref (a 14), .int 0])), ((a 13), .inl ((k 13), 500, .inl (fun _ => 0))), ((a 14), .inl ((k 14), 30, .inr (.inr (.inr (.inr (fun _ => none)))))), ((a 15), .inr (3, [.int 0, .int 0, .ref (a 16), .ref (a 17), .ref (a 18), .int 0, .int 0, .int 0, .int 0])), ((a 16), .inl ((k 16), 36, .inl (fun _ => 0))), ((a 17), .inl ((k 17), 36, .inl (fun _ => 0))), ((a 18), .inl ((k 18), 9, .inl (fun _ => 0)))]) (f := fun _ => .inr (2, manF)) (List.getElem_mem hlt)
  exact ⟨_, kx, List.getElem?_eq_getElem hlt, hk⟩
end
section
set_option maxHeartbeats 400000 in
set_option maxRecDepth 100000 in
theorem c_Rv_tell (l : Launch) (dC : Nat → ClassId) (dI : Nat → Nat → Nat) (a : Nat → Nat) (k : Nat → ClassId) (L : List Nat) (hL : L.length = 40) (sz : Nat) (p_0 : Int32) (p_1 : Int32) (p_2 : Int32) (as_0 : ¬ (p_0 < 0)) (as_1 : ¬ (500 ≤ p_0)) (as_2 : ¬ (p_1 < 0)) (as_3 : ¬ (12 ≤ p_1)) : Met l y_Rv_tell (.code y_Rv_tell b_Rv_tell 6 none :: TB) ({ frames := 0, cells := 1, slots := 12, locals := 0 }) (va_Pc [.ref (a 1), .int p_0, .int p_1, .int p_2] (PC dC dI (XW a k L) (XT k) sz)) (va_Qv (fun (_ : Unit) => True) (fun (_ : Unit) (_ : State) => True) (va_A (XW a k L) sz)) 1 12 (va_A (XW a k L) sz) := by
  refine Met.ofW (cc := b_Rv_tell) (maxL := 6) (ret := none) (by decide) rfl ?_
  intro p e s m args below meth c s₁ B hml hv
  obtain ⟨rfl, hsz, hP, hK, hD0, hN⟩ := hv
  have hx := B.exec
  have hb := B.bytes
  have hr := B.returns
  have hts := atoms_spec (ws := (.code y_Rv_tell b_Rv_tell 6 none :: TB)) B.pre
  have htb := fun w (h : w ∈ TB) => hts w (List.mem_cons_of_mem _ h)
  have hown : s.vm.findClass R_Rv = some m.cls := findClass_of_methodNamed B.named
  have hlocks := B.notSynchronized
  have hl := lv_entry ([.ref (a 1), .int p_0, .int p_1, .int p_2]) (n := 6) (Nat.le_of_ble_eq_true rfl)
  rw [lg_entry_eq]
  generalize (lg_sl ([.ref (a 1), .int p_0, .int p_1, .int p_2]) ++ List.replicate (6 - (lg_sl ([.ref (a 1), .int p_0, .int p_1, .int p_2])).length) Slot.unset).toArray = ls at hl ⊢
  have hl : lv_has ls 6 [(0, .ref (a 1)), (1, .int p_0), (2, .int p_1), (3, .int p_2)] := hl
  subst hsz
  have hD := hD0.self (sz := s.heap.size)
  obtain ⟨A, hAe⟩ : ∃ A, va_A (XW a k L) s.heap.size = A := ⟨_, rfl⟩
  rw [hAe] at hD
  have hA : ∀ q : Nat, s.heap.size ≤ q → A q := fun q h => by rw [← hAe]; exact Or.inr h
  have hS : va_S A s.heap s.heap [] := va_S.rf
  have hP := hP
  have hP := hP.sub (ws' := [((a 1), .inr (1, [.ref (a 2), .ref (a 3), .ref (a 4), .ref (a 5), .int 0, .int (-1)])), ((a 3), .inl ((k 3), 12, .inl (fun _ => 0))), ((a 4), .inl ((k 4), 500, .inr (.inr (.inr (.inr (fun _ => none))))))]) [1, 3, 4] rfl
  have hD := hD.sub (ws' := [((a 1), .inr (1, [.ref (a 2), .ref (a 3), .ref (a 4), .ref (a 5), .int 0, .int (-1)])), ((a 3), .inl ((k 3), 12, .inl (fun _ => 0))), ((a 4), .inl ((k 4), 500, .inr (.inr (.inr (.inr (fun _ => none))))))]) [1, 3, 4] (by decide) rfl
  have hK := hK.sub (tys' := [((k 3), .int), ((k 4), .array .int)]) [1, 2] rfl
  refine lv_aload_n hx hb d_Rv_tell_0 rfl (lv_at hl 0 rfl) ?_
  refine va_get (D := (dC, dI)) (ci := 1) (v := .ref (a 4)) (C := R_Rv) (T := F_Rv) (N := 6) hx hb htb i_Rv hown hK hP 0 rfl rfl 2 (by decide) (htb (.fieldLink R_Rv 19 "WaterMen$River" "rows" "[[I") tw_24) (fun _ h9 => h9) rfl d_Rv_tell_1 ?_
  refine lv_iload_n hx hb d_Rv_tell_4 rfl (lv_at hl 1 rfl) ?_
  refine va_aldA hx hb hK hP 2 1 rfl rfl (hb_in as_0 as_1 (by decide +kernel)) d_Rv_tell_5 ?_
  refine hb_tv .null rfl ?_
  refine lv_astoreN (lv' := [(4, .null), (0, .ref (a 1)), (1, .int p_0), (2, .int p_1), (3, .int p_2)]) hx hb d_Rv_tell_6 hl (by decide) rfl (fun ls hl => ?_)
  refine lv_aloadN hx hb d_Rv_tell_8 (lv_at hl 0 rfl) ?_
  refine lv_ifnonnullN hx hb d_Rv_tell_10 ?_
  refine lv_bipush (v := 12) hx hb d_Rv_tell_13 (by decide +kernel) ?_
  refine va_newa (atype := .int) (ty := .int) (N' := 12) (a0 := (12, .inl (fun _ => 0))) hx hb (htb (.arrayClass .int) tw_25) rfl hK hP hD hS hA (fun _ => rfl) (by decide +kernel) (by decide +kernel) (by decide +kernel) (Nat.le_of_ble_eq_true rfl) (Nat.le_of_ble_eq_true rfl) d_Rv_tell_15 (fun q_1 k_2 H hK hP hD hS => ?_)
  sorry
end
