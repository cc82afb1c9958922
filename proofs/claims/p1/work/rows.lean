section
-- ===== PART A: goes FIRST, ahead of the names: the tables' words, and 'selects' of the private methods out of them =====
/-- a private method of a class that the tables say can be made, by its rows of tables_1 -/
def lw_okq (q : MethodName × Nat) : Prop := (q.1.cls ≠ "java/lang/invoke/MethodHandle" ∧ q.1.cls ≠ "java/lang/invoke/VarHandle") ∧ Cond.instantiable q.1.cls q.2 ∈ tables_1 ∧ Cond.privateMethod q.1 ∈ tables_1 ∧ Cond.instanceMethod q.1 ∈ tables_1
theorem lw_p0 : lw_okq (⟨"WaterMen", "today", "()I"⟩, 13) := ⟨⟨by decide +kernel, by decide +kernel⟩, List.mem_of_getElem? (i := 18) (by decide +kernel), List.mem_of_getElem? (i := 288) (by decide +kernel), List.mem_of_getElem? (i := 289) (by decide +kernel)⟩
theorem lw_p1 : lw_okq (⟨"WaterMen", "manAt", "(I)LWaterMen$Man;"⟩, 13) := ⟨⟨by decide +kernel, by decide +kernel⟩, List.mem_of_getElem? (i := 18) (by decide +kernel), List.mem_of_getElem? (i := 301) (by decide +kernel), List.mem_of_getElem? (i := 302) (by decide +kernel)⟩
theorem lw_p2 : lw_okq (⟨"WaterMen", "placeInTurns", "(LWaterMen$Man;)I"⟩, 13) := ⟨⟨by decide +kernel, by decide +kernel⟩, List.mem_of_getElem? (i := 18) (by decide +kernel), List.mem_of_getElem? (i := 366) (by decide +kernel), List.mem_of_getElem? (i := 367) (by decide +kernel)⟩
theorem lw_p3 : lw_okq (⟨"WaterMen", "boatAt", "(I)LWaterMen$Boat;"⟩, 13) := ⟨⟨by decide +kernel, by decide +kernel⟩, List.mem_of_getElem? (i := 18) (by decide +kernel), List.mem_of_getElem? (i := 419) (by decide +kernel), List.mem_of_getElem? (i := 420) (by decide +kernel)⟩
theorem lw_p4 : lw_okq (⟨"WaterMen", "numberInForce", "(II)I"⟩, 13) := ⟨⟨by decide +kernel, by decide +kernel⟩, List.mem_of_getElem? (i := 18) (by decide +kernel), List.mem_of_getElem? (i := 575) (by decide +kernel), List.mem_of_getElem? (i := 576) (by decide +kernel)⟩
theorem lw_p5 : lw_okq (⟨"WaterMen", "orderAt", "(I)LWaterMen$Order;"⟩, 13) := ⟨⟨by decide +kernel, by decide +kernel⟩, List.mem_of_getElem? (i := 18) (by decide +kernel), List.mem_of_getElem? (i := 579) (by decide +kernel), List.mem_of_getElem? (i := 580) (by decide +kernel)⟩
theorem lw_p6 : lw_okq (⟨"WaterMen", "priceOf", "(LWaterMen$Order;IIII)I"⟩, 13) := ⟨⟨by decide +kernel, by decide +kernel⟩, List.mem_of_getElem? (i := 18) (by decide +kernel), List.mem_of_getElem? (i := 587) (by decide +kernel), List.mem_of_getElem? (i := 588) (by decide +kernel)⟩
theorem lw_p7 : lw_okq (⟨"WaterMen", "mayGoTo", "(LWaterMen$Boat;I)Z"⟩, 13) := ⟨⟨by decide +kernel, by decide +kernel⟩, List.mem_of_getElem? (i := 18) (by decide +kernel), List.mem_of_getElem? (i := 630) (by decide +kernel), List.mem_of_getElem? (i := 631) (by decide +kernel)⟩
theorem lw_p8 : lw_okq (⟨"WaterMen", "hindrance", "(LWaterMen$Boat;LWaterMen$Man;I)I"⟩, 13) := ⟨⟨by decide +kernel, by decide +kernel⟩, List.mem_of_getElem? (i := 18) (by decide +kernel), List.mem_of_getElem? (i := 634) (by decide +kernel), List.mem_of_getElem? (i := 635) (by decide +kernel)⟩
theorem lw_p9 : lw_okq (⟨"WaterMen", "mustWait", "(LWaterMen$Man;I)Z"⟩, 13) := ⟨⟨by decide +kernel, by decide +kernel⟩, List.mem_of_getElem? (i := 18) (by decide +kernel), List.mem_of_getElem? (i := 638) (by decide +kernel), List.mem_of_getElem? (i := 639) (by decide +kernel)⟩
theorem lw_p10 : lw_okq (⟨"WaterMen", "hasTurns", "(I)Z"⟩, 13) := ⟨⟨by decide +kernel, by decide +kernel⟩, List.mem_of_getElem? (i := 18) (by decide +kernel), List.mem_of_getElem? (i := 642) (by decide +kernel), List.mem_of_getElem? (i := 643) (by decide +kernel)⟩
theorem lw_p11 : lw_okq (⟨"WaterMen", "hourNow", "()I"⟩, 13) := ⟨⟨by decide +kernel, by decide +kernel⟩, List.mem_of_getElem? (i := 18) (by decide +kernel), List.mem_of_getElem? (i := 652) (by decide +kernel), List.mem_of_getElem? (i := 653) (by decide +kernel)⟩
theorem lw_p12 : lw_okq (⟨"WaterMen", "minutesOfWay", "(LWaterMen$Boat;I)I"⟩, 13) := ⟨⟨by decide +kernel, by decide +kernel⟩, List.mem_of_getElem? (i := 18) (by decide +kernel), List.mem_of_getElem? (i := 661) (by decide +kernel), List.mem_of_getElem? (i := 662) (by decide +kernel)⟩
theorem lw_p13 : lw_okq (⟨"WaterMen", "takeMoney", "(LWaterMen$Man;I)V"⟩, 13) := ⟨⟨by decide +kernel, by decide +kernel⟩, List.mem_of_getElem? (i := 18) (by decide +kernel), List.mem_of_getElem? (i := 717) (by decide +kernel), List.mem_of_getElem? (i := 718) (by decide +kernel)⟩
theorem lw_p14 : lw_okq (⟨"WaterMen", "partPot", "(I)V"⟩, 13) := ⟨⟨by decide +kernel, by decide +kernel⟩, List.mem_of_getElem? (i := 18) (by decide +kernel), List.mem_of_getElem? (i := 731) (by decide +kernel), List.mem_of_getElem? (i := 732) (by decide +kernel)⟩
theorem lw_p15 : lw_okq (⟨"WaterMen", "tripAt", "(I)LWaterMen$Trip;"⟩, 13) := ⟨⟨by decide +kernel, by decide +kernel⟩, List.mem_of_getElem? (i := 18) (by decide +kernel), List.mem_of_getElem? (i := 750) (by decide +kernel), List.mem_of_getElem? (i := 751) (by decide +kernel)⟩
def lw_privs_1 : List (MethodName × Nat) := [(⟨"WaterMen", "today", "()I"⟩, 13), (⟨"WaterMen", "manAt", "(I)LWaterMen$Man;"⟩, 13), (⟨"WaterMen", "placeInTurns", "(LWaterMen$Man;)I"⟩, 13), (⟨"WaterMen", "boatAt", "(I)LWaterMen$Boat;"⟩, 13), (⟨"WaterMen", "numberInForce", "(II)I"⟩, 13), (⟨"WaterMen", "orderAt", "(I)LWaterMen$Order;"⟩, 13), (⟨"WaterMen", "priceOf", "(LWaterMen$Order;IIII)I"⟩, 13), (⟨"WaterMen", "mayGoTo", "(LWaterMen$Boat;I)Z"⟩, 13), (⟨"WaterMen", "hindrance", "(LWaterMen$Boat;LWaterMen$Man;I)I"⟩, 13), (⟨"WaterMen", "mustWait", "(LWaterMen$Man;I)Z"⟩, 13), (⟨"WaterMen", "hasTurns", "(I)Z"⟩, 13), (⟨"WaterMen", "hourNow", "()I"⟩, 13), (⟨"WaterMen", "minutesOfWay", "(LWaterMen$Boat;I)I"⟩, 13), (⟨"WaterMen", "takeMoney", "(LWaterMen$Man;I)V"⟩, 13), (⟨"WaterMen", "partPot", "(I)V"⟩, 13), (⟨"WaterMen", "tripAt", "(I)LWaterMen$Trip;"⟩, 13)]
theorem lw_r1 : ∀ q ∈ lw_privs_1, lw_okq q := List.forall_mem_cons.mpr ⟨lw_p0, List.forall_mem_cons.mpr ⟨lw_p1, List.forall_mem_cons.mpr ⟨lw_p2, List.forall_mem_cons.mpr ⟨lw_p3, List.forall_mem_cons.mpr ⟨lw_p4, List.forall_mem_cons.mpr ⟨lw_p5, List.forall_mem_cons.mpr ⟨lw_p6, List.forall_mem_cons.mpr ⟨lw_p7, List.forall_mem_cons.mpr ⟨lw_p8, List.forall_mem_cons.mpr ⟨lw_p9, List.forall_mem_cons.mpr ⟨lw_p10, List.forall_mem_cons.mpr ⟨lw_p11, List.forall_mem_cons.mpr ⟨lw_p12, List.forall_mem_cons.mpr ⟨lw_p13, List.forall_mem_cons.mpr ⟨lw_p14, List.forall_mem_cons.mpr ⟨lw_p15, fun _ h => absurd h List.not_mem_nil⟩⟩⟩⟩⟩⟩⟩⟩⟩⟩⟩⟩⟩⟩⟩⟩
theorem lw_p16 : lw_okq (⟨"WaterMen", "dueOf", "(LWaterMen$Trip;I)I"⟩, 13) := ⟨⟨by decide +kernel, by decide +kernel⟩, List.mem_of_getElem? (i := 18) (by decide +kernel), List.mem_of_getElem? (i := 786) (by decide +kernel), List.mem_of_getElem? (i := 787) (by decide +kernel)⟩
theorem lw_p17 : lw_okq (⟨"WaterMen", "overpaid", "(LWaterMen$Trip;I)I"⟩, 13) := ⟨⟨by decide +kernel, by decide +kernel⟩, List.mem_of_getElem? (i := 18) (by decide +kernel), List.mem_of_getElem? (i := 794) (by decide +kernel), List.mem_of_getElem? (i := 795) (by decide +kernel)⟩
theorem lw_p18 : lw_okq (⟨"WaterMen", "menThatAre", "(I)I"⟩, 13) := ⟨⟨by decide +kernel, by decide +kernel⟩, List.mem_of_getElem? (i := 18) (by decide +kernel), List.mem_of_getElem? (i := 824) (by decide +kernel), List.mem_of_getElem? (i := 825) (by decide +kernel)⟩
theorem lw_p19 : lw_okq (⟨"WaterMen", "coinsOfMen", "()I"⟩, 13) := ⟨⟨by decide +kernel, by decide +kernel⟩, List.mem_of_getElem? (i := 18) (by decide +kernel), List.mem_of_getElem? (i := 832) (by decide +kernel), List.mem_of_getElem? (i := 833) (by decide +kernel)⟩
theorem lw_p20 : lw_okq (⟨"WaterMenModel", "flowOf", "(II)I"⟩, 64) := ⟨⟨by decide +kernel, by decide +kernel⟩, List.mem_of_getElem? (i := 864) (by decide +kernel), List.mem_of_getElem? (i := 862) (by decide +kernel), List.mem_of_getElem? (i := 863) (by decide +kernel)⟩
theorem lw_p21 : lw_okq (⟨"WaterMenModel", "levelOf", "(II)I"⟩, 64) := ⟨⟨by decide +kernel, by decide +kernel⟩, List.mem_of_getElem? (i := 864) (by decide +kernel), List.mem_of_getElem? (i := 867) (by decide +kernel), List.mem_of_getElem? (i := 868) (by decide +kernel)⟩
theorem lw_p22 : lw_okq (⟨"WaterMenModel", "today", "()I"⟩, 64) := ⟨⟨by decide +kernel, by decide +kernel⟩, List.mem_of_getElem? (i := 864) (by decide +kernel), List.mem_of_getElem? (i := 875) (by decide +kernel), List.mem_of_getElem? (i := 876) (by decide +kernel)⟩
theorem lw_p23 : lw_okq (⟨"WaterMenModel", "servedOf", "(I)I"⟩, 64) := ⟨⟨by decide +kernel, by decide +kernel⟩, List.mem_of_getElem? (i := 864) (by decide +kernel), List.mem_of_getElem? (i := 1096) (by decide +kernel), List.mem_of_getElem? (i := 1097) (by decide +kernel)⟩
theorem lw_p24 : lw_okq (⟨"WaterMenModel", "rowOf", "(I)I"⟩, 64) := ⟨⟨by decide +kernel, by decide +kernel⟩, List.mem_of_getElem? (i := 864) (by decide +kernel), List.mem_of_getElem? (i := 1108) (by decide +kernel), List.mem_of_getElem? (i := 1109) (by decide +kernel)⟩
theorem lw_p25 : lw_okq (⟨"WaterMenModel", "placeOf", "(I)I"⟩, 64) := ⟨⟨by decide +kernel, by decide +kernel⟩, List.mem_of_getElem? (i := 864) (by decide +kernel), List.mem_of_getElem? (i := 1112) (by decide +kernel), List.mem_of_getElem? (i := 1113) (by decide +kernel)⟩
theorem lw_p26 : lw_okq (⟨"WaterMenModel", "isStairs", "(I)Z"⟩, 64) := ⟨⟨by decide +kernel, by decide +kernel⟩, List.mem_of_getElem? (i := 864) (by decide +kernel), List.mem_of_getElem? (i := 1120) (by decide +kernel), List.mem_of_getElem? (i := 1121) (by decide +kernel)⟩
theorem lw_p27 : lw_okq (⟨"WaterMenModel", "leaves", "(I)V"⟩, 64) := ⟨⟨by decide +kernel, by decide +kernel⟩, List.mem_of_getElem? (i := 864) (by decide +kernel), List.mem_of_getElem? (i := 1128) (by decide +kernel), List.mem_of_getElem? (i := 1129) (by decide +kernel)⟩
theorem lw_p28 : lw_okq (⟨"WaterMenModel", "isBoat", "(I)Z"⟩, 64) := ⟨⟨by decide +kernel, by decide +kernel⟩, List.mem_of_getElem? (i := 864) (by decide +kernel), List.mem_of_getElem? (i := 1140) (by decide +kernel), List.mem_of_getElem? (i := 1141) (by decide +kernel)⟩
theorem lw_p29 : lw_okq (⟨"WaterMenModel", "four", "(I)V"⟩, 64) := ⟨⟨by decide +kernel, by decide +kernel⟩, List.mem_of_getElem? (i := 864) (by decide +kernel), List.mem_of_getElem? (i := 1148) (by decide +kernel), List.mem_of_getElem? (i := 1149) (by decide +kernel)⟩
theorem lw_p30 : lw_okq (⟨"WaterMenModel", "advance", "()V"⟩, 64) := ⟨⟨by decide +kernel, by decide +kernel⟩, List.mem_of_getElem? (i := 864) (by decide +kernel), List.mem_of_getElem? (i := 1160) (by decide +kernel), List.mem_of_getElem? (i := 1161) (by decide +kernel)⟩
theorem lw_p31 : lw_okq (⟨"WaterMenModel", "line", "(I)Z"⟩, 64) := ⟨⟨by decide +kernel, by decide +kernel⟩, List.mem_of_getElem? (i := 864) (by decide +kernel), List.mem_of_getElem? (i := 1186) (by decide +kernel), List.mem_of_getElem? (i := 1187) (by decide +kernel)⟩
def lw_privs_2 : List (MethodName × Nat) := [(⟨"WaterMen", "dueOf", "(LWaterMen$Trip;I)I"⟩, 13), (⟨"WaterMen", "overpaid", "(LWaterMen$Trip;I)I"⟩, 13), (⟨"WaterMen", "menThatAre", "(I)I"⟩, 13), (⟨"WaterMen", "coinsOfMen", "()I"⟩, 13), (⟨"WaterMenModel", "flowOf", "(II)I"⟩, 64), (⟨"WaterMenModel", "levelOf", "(II)I"⟩, 64), (⟨"WaterMenModel", "today", "()I"⟩, 64), (⟨"WaterMenModel", "servedOf", "(I)I"⟩, 64), (⟨"WaterMenModel", "rowOf", "(I)I"⟩, 64), (⟨"WaterMenModel", "placeOf", "(I)I"⟩, 64), (⟨"WaterMenModel", "isStairs", "(I)Z"⟩, 64), (⟨"WaterMenModel", "leaves", "(I)V"⟩, 64), (⟨"WaterMenModel", "isBoat", "(I)Z"⟩, 64), (⟨"WaterMenModel", "four", "(I)V"⟩, 64), (⟨"WaterMenModel", "advance", "()V"⟩, 64), (⟨"WaterMenModel", "line", "(I)Z"⟩, 64)]
theorem lw_r2 : ∀ q ∈ lw_privs_2, lw_okq q := List.forall_mem_cons.mpr ⟨lw_p16, List.forall_mem_cons.mpr ⟨lw_p17, List.forall_mem_cons.mpr ⟨lw_p18, List.forall_mem_cons.mpr ⟨lw_p19, List.forall_mem_cons.mpr ⟨lw_p20, List.forall_mem_cons.mpr ⟨lw_p21, List.forall_mem_cons.mpr ⟨lw_p22, List.forall_mem_cons.mpr ⟨lw_p23, List.forall_mem_cons.mpr ⟨lw_p24, List.forall_mem_cons.mpr ⟨lw_p25, List.forall_mem_cons.mpr ⟨lw_p26, List.forall_mem_cons.mpr ⟨lw_p27, List.forall_mem_cons.mpr ⟨lw_p28, List.forall_mem_cons.mpr ⟨lw_p29, List.forall_mem_cons.mpr ⟨lw_p30, List.forall_mem_cons.mpr ⟨lw_p31, fun _ h => absurd h List.not_mem_nil⟩⟩⟩⟩⟩⟩⟩⟩⟩⟩⟩⟩⟩⟩⟩⟩
theorem lw_p32 : lw_okq (⟨"WaterMenModel", "takes", "(I)Z"⟩, 64) := ⟨⟨by decide +kernel, by decide +kernel⟩, List.mem_of_getElem? (i := 864) (by decide +kernel), List.mem_of_getElem? (i := 1190) (by decide +kernel), List.mem_of_getElem? (i := 1191) (by decide +kernel)⟩
theorem lw_p33 : lw_okq (⟨"WaterMenModel", "forceOn", "(II)I"⟩, 64) := ⟨⟨by decide +kernel, by decide +kernel⟩, List.mem_of_getElem? (i := 864) (by decide +kernel), List.mem_of_getElem? (i := 1198) (by decide +kernel), List.mem_of_getElem? (i := 1199) (by decide +kernel)⟩
theorem lw_p34 : lw_okq (⟨"WaterMenModel", "fareOf", "(IIIIII)I"⟩, 64) := ⟨⟨by decide +kernel, by decide +kernel⟩, List.mem_of_getElem? (i := 864) (by decide +kernel), List.mem_of_getElem? (i := 1206) (by decide +kernel), List.mem_of_getElem? (i := 1207) (by decide +kernel)⟩
theorem lw_p35 : lw_okq (⟨"WaterMenModel", "lineOf", "(II)I"⟩, 64) := ⟨⟨by decide +kernel, by decide +kernel⟩, List.mem_of_getElem? (i := 864) (by decide +kernel), List.mem_of_getElem? (i := 1210) (by decide +kernel), List.mem_of_getElem? (i := 1211) (by decide +kernel)⟩
theorem lw_p36 : lw_okq (⟨"WaterMenModel", "isAsked", "(III)Z"⟩, 64) := ⟨⟨by decide +kernel, by decide +kernel⟩, List.mem_of_getElem? (i := 864) (by decide +kernel), List.mem_of_getElem? (i := 1224) (by decide +kernel), List.mem_of_getElem? (i := 1225) (by decide +kernel)⟩
theorem lw_p37 : lw_okq (⟨"WaterMenModel", "hinders", "(III)I"⟩, 64) := ⟨⟨by decide +kernel, by decide +kernel⟩, List.mem_of_getElem? (i := 864) (by decide +kernel), List.mem_of_getElem? (i := 1228) (by decide +kernel), List.mem_of_getElem? (i := 1229) (by decide +kernel)⟩
theorem lw_p38 : lw_okq (⟨"WaterMenModel", "hourNow", "()I"⟩, 64) := ⟨⟨by decide +kernel, by decide +kernel⟩, List.mem_of_getElem? (i := 864) (by decide +kernel), List.mem_of_getElem? (i := 1232) (by decide +kernel), List.mem_of_getElem? (i := 1233) (by decide +kernel)⟩
theorem lw_p39 : lw_okq (⟨"WaterMenModel", "minutesOf", "(II)I"⟩, 64) := ⟨⟨by decide +kernel, by decide +kernel⟩, List.mem_of_getElem? (i := 864) (by decide +kernel), List.mem_of_getElem? (i := 1236) (by decide +kernel), List.mem_of_getElem? (i := 1237) (by decide +kernel)⟩
theorem lw_p40 : lw_okq (⟨"WaterMenModel", "arrive", "()V"⟩, 64) := ⟨⟨by decide +kernel, by decide +kernel⟩, List.mem_of_getElem? (i := 864) (by decide +kernel), List.mem_of_getElem? (i := 1249) (by decide +kernel), List.mem_of_getElem? (i := 1250) (by decide +kernel)⟩
theorem lw_p41 : lw_okq (⟨"WaterMenModel", "part", "(I)V"⟩, 64) := ⟨⟨by decide +kernel, by decide +kernel⟩, List.mem_of_getElem? (i := 864) (by decide +kernel), List.mem_of_getElem? (i := 1253) (by decide +kernel), List.mem_of_getElem? (i := 1254) (by decide +kernel)⟩
theorem lw_p42 : lw_okq (⟨"WaterMenModel", "pay", "(I)V"⟩, 64) := ⟨⟨by decide +kernel, by decide +kernel⟩, List.mem_of_getElem? (i := 864) (by decide +kernel), List.mem_of_getElem? (i := 1257) (by decide +kernel), List.mem_of_getElem? (i := 1258) (by decide +kernel)⟩
theorem lw_p43 : lw_okq (⟨"WaterMenModel", "newPensioner", "(II)I"⟩, 64) := ⟨⟨by decide +kernel, by decide +kernel⟩, List.mem_of_getElem? (i := 864) (by decide +kernel), List.mem_of_getElem? (i := 1268) (by decide +kernel), List.mem_of_getElem? (i := 1269) (by decide +kernel)⟩
theorem lw_p44 : lw_okq (⟨"WaterMenModel", "dueOf", "(II)I"⟩, 64) := ⟨⟨by decide +kernel, by decide +kernel⟩, List.mem_of_getElem? (i := 864) (by decide +kernel), List.mem_of_getElem? (i := 1280) (by decide +kernel), List.mem_of_getElem? (i := 1281) (by decide +kernel)⟩
theorem lw_p45 : lw_okq (⟨"WaterMenModel", "menAs", "(I)I"⟩, 64) := ⟨⟨by decide +kernel, by decide +kernel⟩, List.mem_of_getElem? (i := 864) (by decide +kernel), List.mem_of_getElem? (i := 1304) (by decide +kernel), List.mem_of_getElem? (i := 1305) (by decide +kernel)⟩
def lw_privs_3 : List (MethodName × Nat) := [(⟨"WaterMenModel", "takes", "(I)Z"⟩, 64), (⟨"WaterMenModel", "forceOn", "(II)I"⟩, 64), (⟨"WaterMenModel", "fareOf", "(IIIIII)I"⟩, 64), (⟨"WaterMenModel", "lineOf", "(II)I"⟩, 64), (⟨"WaterMenModel", "isAsked", "(III)Z"⟩, 64), (⟨"WaterMenModel", "hinders", "(III)I"⟩, 64), (⟨"WaterMenModel", "hourNow", "()I"⟩, 64), (⟨"WaterMenModel", "minutesOf", "(II)I"⟩, 64), (⟨"WaterMenModel", "arrive", "()V"⟩, 64), (⟨"WaterMenModel", "part", "(I)V"⟩, 64), (⟨"WaterMenModel", "pay", "(I)V"⟩, 64), (⟨"WaterMenModel", "newPensioner", "(II)I"⟩, 64), (⟨"WaterMenModel", "dueOf", "(II)I"⟩, 64), (⟨"WaterMenModel", "menAs", "(I)I"⟩, 64)]
theorem lw_r3 : ∀ q ∈ lw_privs_3, lw_okq q := List.forall_mem_cons.mpr ⟨lw_p32, List.forall_mem_cons.mpr ⟨lw_p33, List.forall_mem_cons.mpr ⟨lw_p34, List.forall_mem_cons.mpr ⟨lw_p35, List.forall_mem_cons.mpr ⟨lw_p36, List.forall_mem_cons.mpr ⟨lw_p37, List.forall_mem_cons.mpr ⟨lw_p38, List.forall_mem_cons.mpr ⟨lw_p39, List.forall_mem_cons.mpr ⟨lw_p40, List.forall_mem_cons.mpr ⟨lw_p41, List.forall_mem_cons.mpr ⟨lw_p42, List.forall_mem_cons.mpr ⟨lw_p43, List.forall_mem_cons.mpr ⟨lw_p44, List.forall_mem_cons.mpr ⟨lw_p45, fun _ h => absurd h List.not_mem_nil⟩⟩⟩⟩⟩⟩⟩⟩⟩⟩⟩⟩⟩⟩
def lw_privs : List (MethodName × Nat) := lw_privs_1 ++ (lw_privs_2 ++ (lw_privs_3))
def lw_tbl : List Cond := k2_sels lw_privs ++ tables_1
theorem lw_privs_ok : ∀ q ∈ lw_privs, lw_okq q := by
  show ∀ q ∈ lw_privs_1 ++ (lw_privs_2 ++ (lw_privs_3)), lw_okq q
  exact List.forall_mem_append.mpr ⟨lw_r1, List.forall_mem_append.mpr ⟨lw_r2, lw_r3⟩⟩
end
section
def R_WM : String := "WaterMen"
def F_WM : u_T := fun k => match k with
  | 0 => ("WaterMen", "river", "LWaterMen$River;", true)
  | 1 => ("WaterMen", "men", "[LWaterMen$Man;", true)
  | 2 => ("WaterMen", "boats", "[LWaterMen$Boat;", true)
  | 3 => ("WaterMen", "orders", "[LWaterMen$Order;", true)
  | 4 => ("WaterMen", "trips", "[LWaterMen$Trip;", true)
  | 5 => ("WaterMen", "tape", "LWaterMen$Tape;", true)
  | 6 => ("WaterMen", "box", "LWaterMen$Box;", true)
  | 7 => ("WaterMen", "boatCount", "I", false)
  | 8 => ("WaterMen", "orderCount", "I", false)
  | 9 => ("WaterMen", "tripCount", "I", false)
  | 10 => ("WaterMen", "now", "I", false)
  | 11 => ("WaterMen", "joins", "I", false)
  | _ => ("WaterMen", "draft", "LWaterMen$Order;", false)
def t_WM : Nat → FieldType := fun k => match k with
  | 0 => .object "WaterMen$River"
  | 1 => .array (.object "WaterMen$Man")
  | 2 => .array (.object "WaterMen$Boat")
  | 3 => .array (.object "WaterMen$Order")
  | 4 => .array (.object "WaterMen$Trip")
  | 5 => .object "WaterMen$Tape"
  | 6 => .object "WaterMen$Box"
  | 7 => .int
  | 8 => .int
  | 9 => .int
  | 10 => .int
  | 11 => .int
  | _ => .object "WaterMen$Order"
abbrev b_WM_init : ByteArray := prog_1_method_1_code
def y_WM_init : MethodName := ⟨R_WM, "<init>", "()V"⟩
abbrev b_WM_stairs : ByteArray := prog_1_method_2_code
def y_WM_stairs : MethodName := ⟨R_WM, "stairs", "(I)I"⟩
abbrev b_WM_bridge : ByteArray := prog_1_method_3_code
def y_WM_bridge : MethodName := ⟨R_WM, "bridge", "(I)I"⟩
abbrev b_WM_level : ByteArray := prog_1_method_4_code
def y_WM_level : MethodName := ⟨R_WM, "level", "(III)I"⟩
abbrev b_WM_table : ByteArray := prog_1_method_5_code
def y_WM_table : MethodName := ⟨R_WM, "table", "(II)I"⟩
abbrev b_WM_flow : ByteArray := prog_1_method_6_code
def y_WM_flow : MethodName := ⟨R_WM, "flow", "(II)I"⟩
abbrev b_WM_frost : ByteArray := prog_1_method_7_code
def y_WM_frost : MethodName := ⟨R_WM, "frost", "(II)I"⟩
abbrev b_WM_free : ByteArray := prog_1_method_8_code
def y_WM_free : MethodName := ⟨R_WM, "free", "(I)I"⟩
abbrev b_WM_bind : ByteArray := prog_1_method_9_code
def y_WM_bind : MethodName := ⟨R_WM, "bind", "(II)I"⟩
abbrev b_WM_absent : ByteArray := prog_1_method_10_code
def y_WM_absent : MethodName := ⟨R_WM, "absent", "(III)I"⟩
abbrev b_WM_served : ByteArray := prog_1_method_11_code
def y_WM_served : MethodName := ⟨R_WM, "served", "(I)I"⟩
abbrev b_WM_pass : ByteArray := prog_1_method_12_code
def y_WM_pass : MethodName := ⟨R_WM, "pass", "(I)I"⟩
abbrev b_WM_man : ByteArray := prog_1_method_13_code
def y_WM_man : MethodName := ⟨R_WM, "man", "(II)I"⟩
abbrev b_WM_boat : ByteArray := prog_1_method_14_code
def y_WM_boat : MethodName := ⟨R_WM, "boat", "(II)I"⟩
abbrev b_WM_craft : ByteArray := prog_1_method_15_code
def y_WM_craft : MethodName := ⟨R_WM, "craft", "(II)I"⟩
abbrev b_WM_join : ByteArray := prog_1_method_16_code
def y_WM_join : MethodName := ⟨R_WM, "join", "(II)I"⟩
abbrev b_WM_leave : ByteArray := prog_1_method_17_code
def y_WM_leave : MethodName := ⟨R_WM, "leave", "(I)I"⟩
abbrev b_WM_feed : ByteArray := prog_1_method_18_code
def y_WM_feed : MethodName := ⟨R_WM, "feed", "(IIIII)I"⟩
abbrev b_WM_end : ByteArray := prog_1_method_19_code
def y_WM_end : MethodName := ⟨R_WM, "end", "(I)I"⟩
abbrev b_WM_order : ByteArray := prog_1_method_20_code
def y_WM_order : MethodName := ⟨R_WM, "order", "(I)I"⟩
abbrev b_WM_inForce : ByteArray := prog_1_method_21_code
def y_WM_inForce : MethodName := ⟨R_WM, "inForce", "(II)I"⟩
abbrev b_WM_fare : ByteArray := prog_1_method_22_code
def y_WM_fare : MethodName := ⟨R_WM, "fare", "(IIIII)I"⟩
abbrev b_WM_why : ByteArray := prog_1_method_23_code
def y_WM_why : MethodName := ⟨R_WM, "why", "(III)I"⟩
abbrev b_WM_row : ByteArray := prog_1_method_24_code
def y_WM_row : MethodName := ⟨R_WM, "row", "(IIII)I"⟩
abbrev b_WM_minutes : ByteArray := prog_1_method_25_code
def y_WM_minutes : MethodName := ⟨R_WM, "minutes", "(I)I"⟩
abbrev b_WM_sink : ByteArray := prog_1_method_26_code
def y_WM_sink : MethodName := ⟨R_WM, "sink", "(III)I"⟩
abbrev b_WM_trip : ByteArray := prog_1_method_27_code
def y_WM_trip : MethodName := ⟨R_WM, "trip", "(II)I"⟩
abbrev b_WM_due : ByteArray := prog_1_method_28_code
def y_WM_due : MethodName := ⟨R_WM, "due", "(II)I"⟩
abbrev b_WM_over : ByteArray := prog_1_method_29_code
def y_WM_over : MethodName := ⟨R_WM, "over", "(II)I"⟩
abbrev b_WM_pension : ByteArray := prog_1_method_30_code
def y_WM_pension : MethodName := ⟨R_WM, "pension", "(II)I"⟩
abbrev b_WM_foretold : ByteArray := prog_1_method_31_code
def y_WM_foretold : MethodName := ⟨R_WM, "foretold", "()I"⟩
abbrev b_WM_pensioner : ByteArray := prog_1_method_32_code
def y_WM_pensioner : MethodName := ⟨R_WM, "pensioner", "(II)I"⟩
abbrev b_WM_count : ByteArray := prog_1_method_33_code
def y_WM_count : MethodName := ⟨R_WM, "count", "(I)I"⟩
abbrev b_WM_coins : ByteArray := prog_1_method_34_code
def y_WM_coins : MethodName := ⟨R_WM, "coins", "(I)I"⟩
abbrev b_WM_today : ByteArray := prog_1_method_35_code
def y_WM_today : MethodName := ⟨R_WM, "today", "()I"⟩
abbrev b_WM_isDay : ByteArray := prog_1_method_36_code
def y_WM_isDay : MethodName := ⟨R_WM, "isDay", "(I)Z"⟩
abbrev b_WM_isHour : ByteArray := prog_1_method_37_code
def y_WM_isHour : MethodName := ⟨R_WM, "isHour", "(I)Z"⟩
abbrev b_WM_isLevel : ByteArray := prog_1_method_38_code
def y_WM_isLevel : MethodName := ⟨R_WM, "isLevel", "(I)Z"⟩
abbrev b_WM_isOars : ByteArray := prog_1_method_39_code
def y_WM_isOars : MethodName := ⟨R_WM, "isOars", "(I)Z"⟩
abbrev b_WM_isPension : ByteArray := prog_1_method_40_code
def y_WM_isPension : MethodName := ⟨R_WM, "isPension", "(II)Z"⟩
abbrev b_WM_isSunday : ByteArray := prog_1_method_41_code
def y_WM_isSunday : MethodName := ⟨R_WM, "isSunday", "(I)Z"⟩
abbrev b_WM_manAt : ByteArray := prog_1_method_42_code
def y_WM_manAt : MethodName := ⟨R_WM, "manAt", "(I)LWaterMen$Man;"⟩
abbrev b_WM_boatAt : ByteArray := prog_1_method_43_code
def y_WM_boatAt : MethodName := ⟨R_WM, "boatAt", "(I)LWaterMen$Boat;"⟩
abbrev b_WM_orderAt : ByteArray := prog_1_method_44_code
def y_WM_orderAt : MethodName := ⟨R_WM, "orderAt", "(I)LWaterMen$Order;"⟩
abbrev b_WM_tripAt : ByteArray := prog_1_method_45_code
def y_WM_tripAt : MethodName := ⟨R_WM, "tripAt", "(I)LWaterMen$Trip;"⟩
abbrev b_WM_placeInTurns : ByteArray := prog_1_method_46_code
def y_WM_placeInTurns : MethodName := ⟨R_WM, "placeInTurns", "(LWaterMen$Man;)I"⟩
abbrev b_WM_hasTurns : ByteArray := prog_1_method_47_code
def y_WM_hasTurns : MethodName := ⟨R_WM, "hasTurns", "(I)Z"⟩
abbrev b_WM_mustWait : ByteArray := prog_1_method_48_code
def y_WM_mustWait : MethodName := ⟨R_WM, "mustWait", "(LWaterMen$Man;I)Z"⟩
abbrev b_WM_menThatAre : ByteArray := prog_1_method_49_code
def y_WM_menThatAre : MethodName := ⟨R_WM, "menThatAre", "(I)I"⟩
abbrev b_WM_coinsOfMen : ByteArray := prog_1_method_50_code
def y_WM_coinsOfMen : MethodName := ⟨R_WM, "coinsOfMen", "()I"⟩
abbrev b_WM_numberInForce : ByteArray := prog_1_method_51_code
def y_WM_numberInForce : MethodName := ⟨R_WM, "numberInForce", "(II)I"⟩
abbrev b_WM_priceOf : ByteArray := prog_1_method_52_code
def y_WM_priceOf : MethodName := ⟨R_WM, "priceOf", "(LWaterMen$Order;IIII)I"⟩
abbrev b_WM_dueOf : ByteArray := prog_1_method_53_code
def y_WM_dueOf : MethodName := ⟨R_WM, "dueOf", "(LWaterMen$Trip;I)I"⟩
abbrev b_WM_overpaid : ByteArray := prog_1_method_54_code
def y_WM_overpaid : MethodName := ⟨R_WM, "overpaid", "(LWaterMen$Trip;I)I"⟩
abbrev b_WM_mayGoTo : ByteArray := prog_1_method_55_code
def y_WM_mayGoTo : MethodName := ⟨R_WM, "mayGoTo", "(LWaterMen$Boat;I)Z"⟩
abbrev b_WM_hindrance : ByteArray := prog_1_method_56_code
def y_WM_hindrance : MethodName := ⟨R_WM, "hindrance", "(LWaterMen$Boat;LWaterMen$Man;I)I"⟩
abbrev b_WM_hourNow : ByteArray := prog_1_method_57_code
def y_WM_hourNow : MethodName := ⟨R_WM, "hourNow", "()I"⟩
abbrev b_WM_minutesOfWay : ByteArray := prog_1_method_58_code
def y_WM_minutesOfWay : MethodName := ⟨R_WM, "minutesOfWay", "(LWaterMen$Boat;I)I"⟩
abbrev b_WM_takeMoney : ByteArray := prog_1_method_59_code
def y_WM_takeMoney : MethodName := ⟨R_WM, "takeMoney", "(LWaterMen$Man;I)V"⟩
abbrev b_WM_partPot : ByteArray := prog_1_method_60_code
def y_WM_partPot : MethodName := ⟨R_WM, "partPot", "(I)V"⟩
def R_Rv : String := "WaterMen$River"
def F_Rv : u_T := fun k => match k with
  | 0 => ("WaterMen$River", "milesUp", "[I", true)
  | 1 => ("WaterMen$River", "table", "[I", true)
  | 2 => ("WaterMen$River", "rows", "[[I", true)
  | 3 => ("WaterMen$River", "frozen", "[Z", true)
  | 4 => ("WaterMen$River", "stairCount", "I", false)
  | _ => ("WaterMen$River", "bridgeAbove", "I", false)
def t_Rv : Nat → FieldType := fun k => match k with
  | 0 => .array (.int)
  | 1 => .array (.int)
  | 2 => .array (.array (.int))
  | 3 => .array (.boolean)
  | 4 => .int
  | _ => .int
abbrev b_Rv_init : ByteArray := prog_8_method_1_code
def y_Rv_init : MethodName := ⟨R_Rv, "<init>", "()V"⟩
abbrev b_Rv_isFrozen : ByteArray := prog_8_method_2_code
def y_Rv_isFrozen : MethodName := ⟨R_Rv, "isFrozen", "(I)Z"⟩
abbrev b_Rv_hasStairs : ByteArray := prog_8_method_3_code
def y_Rv_hasStairs : MethodName := ⟨R_Rv, "hasStairs", "(I)Z"⟩
abbrev b_Rv_highest : ByteArray := prog_8_method_4_code
def y_Rv_highest : MethodName := ⟨R_Rv, "highest", "()I"⟩
abbrev b_Rv_addStairs : ByteArray := prog_8_method_5_code
def y_Rv_addStairs : MethodName := ⟨R_Rv, "addStairs", "(I)I"⟩
abbrev b_Rv_distance : ByteArray := prog_8_method_6_code
def y_Rv_distance : MethodName := ⟨R_Rv, "distance", "(II)I"⟩
abbrev b_Rv_passesBridge : ByteArray := prog_8_method_7_code
def y_Rv_passesBridge : MethodName := ⟨R_Rv, "passesBridge", "(II)Z"⟩
abbrev b_Rv_tell : ByteArray := prog_8_method_8_code
def y_Rv_tell : MethodName := ⟨R_Rv, "tell", "(III)V"⟩
abbrev b_Rv_height : ByteArray := prog_8_method_9_code
def y_Rv_height : MethodName := ⟨R_Rv, "height", "(II)I"⟩
abbrev b_Rv_flowIn : ByteArray := prog_8_method_10_code
def y_Rv_flowIn : MethodName := ⟨R_Rv, "flowIn", "(II)I"⟩
abbrev b_Rv_drift : ByteArray := prog_8_method_11_code
def y_Rv_drift : MethodName := ⟨R_Rv, "drift", "(IIII)I"⟩
def R_Mn : String := "WaterMen$Man"
def F_Mn : u_T := fun k => match k with
  | 0 => ("WaterMen$Man", "state", "I", false)
  | 1 => ("WaterMen$Man", "bond", "LWaterMen$Bond;", false)
  | 2 => ("WaterMen$Man", "turnStairs", "I", false)
  | 3 => ("WaterMen$Man", "turnTicket", "I", false)
  | 4 => ("WaterMen$Man", "coins", "I", false)
  | 5 => ("WaterMen$Man", "busyUntil", "I", false)
  | 6 => ("WaterMen$Man", "tripCount", "I", false)
  | _ => ("WaterMen$Man", "lastSunday", "I", false)
def t_Mn : Nat → FieldType := fun k => match k with
  | 0 => .int
  | 1 => .object "WaterMen$Bond"
  | 2 => .int
  | 3 => .int
  | 4 => .int
  | 5 => .int
  | 6 => .int
  | _ => .int
abbrev b_Mn_init : ByteArray := prog_5_method_1_code
def y_Mn_init : MethodName := ⟨R_Mn, "<init>", "()V"⟩
abbrev b_Mn_isOnWay : ByteArray := prog_5_method_2_code
def y_Mn_isOnWay : MethodName := ⟨R_Mn, "isOnWay", "(I)Z"⟩
abbrev b_Mn_setOut : ByteArray := prog_5_method_3_code
def y_Mn_setOut : MethodName := ⟨R_Mn, "setOut", "(I)V"⟩
def R_Or : String := "WaterMen$Order"
def F_Or : u_T := fun k => match k with
  | 0 => ("WaterMen$Order", "madeOn", "I", false)
  | 1 => ("WaterMen$Order", "inForceFrom", "I", false)
  | 2 => ("WaterMen$Order", "fares", "[I", true)
  | 3 => ("WaterMen$Order", "hours", "[I", true)
  | 4 => ("WaterMen$Order", "single", "[I", true)
  | 5 => ("WaterMen$Order", "fareCount", "I", false)
  | 6 => ("WaterMen$Order", "hourCount", "I", false)
  | 7 => ("WaterMen$Order", "bridgeOpens", "I", false)
  | _ => ("WaterMen$Order", "bridgeShuts", "I", false)
def t_Or : Nat → FieldType := fun k => match k with
  | 0 => .int
  | 1 => .int
  | 2 => .array (.int)
  | 3 => .array (.int)
  | 4 => .array (.int)
  | 5 => .int
  | 6 => .int
  | 7 => .int
  | _ => .int
abbrev b_Or_init : ByteArray := prog_6_method_1_code
def y_Or_init : MethodName := ⟨R_Or, "<init>", "()V"⟩
abbrev b_Or_clear : ByteArray := prog_6_method_2_code
def y_Or_clear : MethodName := ⟨R_Or, "clear", "()V"⟩
abbrev b_Or_takesLine : ByteArray := prog_6_method_3_code
def y_Or_takesLine : MethodName := ⟨R_Or, "takesLine", "(I)Z"⟩
abbrev b_Or_addLine : ByteArray := prog_6_method_4_code
def y_Or_addLine : MethodName := ⟨R_Or, "addLine", "(IIII)V"⟩
abbrev b_Or_setLine : ByteArray := prog_6_method_5_code
def y_Or_setLine : MethodName := ⟨R_Or, "setLine", "([IIIII)V"⟩
abbrev b_Or_lineHolds : ByteArray := prog_6_method_6_code
def y_Or_lineHolds : MethodName := ⟨R_Or, "lineHolds", "([III)Z"⟩
abbrev b_Or_price : ByteArray := prog_6_method_7_code
def y_Or_price : MethodName := ⟨R_Or, "price", "(IIIII)I"⟩
abbrev b_Or_basePrice : ByteArray := prog_6_method_8_code
def y_Or_basePrice : MethodName := ⟨R_Or, "basePrice", "(I)I"⟩
abbrev b_Or_scaled : ByteArray := prog_6_method_9_code
def y_Or_scaled : MethodName := ⟨R_Or, "scaled", "(II)I"⟩
abbrev b_Or_shutsBridge : ByteArray := prog_6_method_10_code
def y_Or_shutsBridge : MethodName := ⟨R_Or, "shutsBridge", "(II)Z"⟩
def R_Tp : String := "WaterMen$Tape"
def F_Tp : u_T := fun k => match k with
  | 0 => ("WaterMen$Tape", "bytes", "[B", true)
  | 1 => ("WaterMen$Tape", "length", "I", false)
  | 2 => ("WaterMen$Tape", "sort", "I", false)
  | 3 => ("WaterMen$Tape", "start", "I", false)
  | 4 => ("WaterMen$Tape", "behind", "I", false)
  | _ => ("WaterMen$Tape", "value", "I", false)
def t_Tp : Nat → FieldType := fun k => match k with
  | 0 => .array (.byte)
  | 1 => .int
  | 2 => .int
  | 3 => .int
  | 4 => .int
  | _ => .int
abbrev b_Tp_init : ByteArray := prog_9_method_1_code
def y_Tp_init : MethodName := ⟨R_Tp, "<init>", "()V"⟩
abbrev b_Tp_hasRoomForFive : ByteArray := prog_9_method_2_code
def y_Tp_hasRoomForFive : MethodName := ⟨R_Tp, "hasRoomForFive", "()Z"⟩
abbrev b_Tp_append : ByteArray := prog_9_method_3_code
def y_Tp_append : MethodName := ⟨R_Tp, "append", "(I)V"⟩
abbrev b_Tp_readInto : ByteArray := prog_9_method_4_code
def y_Tp_readInto : MethodName := ⟨R_Tp, "readInto", "(LWaterMen$Order;)I"⟩
abbrev b_Tp_readLine : ByteArray := prog_9_method_5_code
def y_Tp_readLine : MethodName := ⟨R_Tp, "readLine", "(LWaterMen$Order;)Z"⟩
abbrev b_Tp_stepOverNumber : ByteArray := prog_9_method_6_code
def y_Tp_stepOverNumber : MethodName := ⟨R_Tp, "stepOverNumber", "()Z"⟩
abbrev b_Tp_stepOverWord : ByteArray := prog_9_method_7_code
def y_Tp_stepOverWord : MethodName := ⟨R_Tp, "stepOverWord", "(Ljava/lang/String;)Z"⟩
abbrev b_Tp_kindOfLine : ByteArray := prog_9_method_8_code
def y_Tp_kindOfLine : MethodName := ⟨R_Tp, "kindOfLine", "()I"⟩
abbrev b_Tp_isWord : ByteArray := prog_9_method_9_code
def y_Tp_isWord : MethodName := ⟨R_Tp, "isWord", "(Ljava/lang/String;)Z"⟩
abbrev b_Tp_step : ByteArray := prog_9_method_10_code
def y_Tp_step : MethodName := ⟨R_Tp, "step", "()V"⟩
abbrev b_Tp_passLetters : ByteArray := prog_9_method_11_code
def y_Tp_passLetters : MethodName := ⟨R_Tp, "passLetters", "()V"⟩
abbrev b_Tp_passDigits : ByteArray := prog_9_method_12_code
def y_Tp_passDigits : MethodName := ⟨R_Tp, "passDigits", "()V"⟩
abbrev b_Tp_isLetter : ByteArray := prog_9_method_13_code
def y_Tp_isLetter : MethodName := ⟨R_Tp, "isLetter", "(B)Z"⟩
abbrev b_Tp_isDigit : ByteArray := prog_9_method_14_code
def y_Tp_isDigit : MethodName := ⟨R_Tp, "isDigit", "(B)Z"⟩
def R_Bx : String := "WaterMen$Box"
def F_Bx : u_T := fun k => match k with
  | 0 => ("WaterMen$Box", "coins", "I", false)
  | 1 => ("WaterMen$Box", "pot", "I", false)
  | 2 => ("WaterMen$Box", "allPaid", "I", false)
  | 3 => ("WaterMen$Box", "allPensions", "I", false)
  | 4 => ("WaterMen$Box", "income", "[I", true)
  | 5 => ("WaterMen$Box", "pensioners", "[LWaterMen$Pensioner;", true)
  | _ => ("WaterMen$Box", "pensionerCount", "I", false)
def t_Bx : Nat → FieldType := fun k => match k with
  | 0 => .int
  | 1 => .int
  | 2 => .int
  | 3 => .int
  | 4 => .array (.int)
  | 5 => .array (.object "WaterMen$Pensioner")
  | _ => .int
abbrev b_Bx_init : ByteArray := prog_4_method_1_code
def y_Bx_init : MethodName := ⟨R_Bx, "<init>", "()V"⟩
abbrev b_Bx_receive : ByteArray := prog_4_method_2_code
def y_Bx_receive : MethodName := ⟨R_Bx, "receive", "(II)V"⟩
abbrev b_Bx_pensionerAt : ByteArray := prog_4_method_3_code
def y_Bx_pensionerAt : MethodName := ⟨R_Bx, "pensionerAt", "(I)LWaterMen$Pensioner;"⟩
abbrev b_Bx_admit : ByteArray := prog_4_method_4_code
def y_Bx_admit : MethodName := ⟨R_Bx, "admit", "(II)I"⟩
abbrev b_Bx_payPensions : ByteArray := prog_4_method_5_code
def y_Bx_payPensions : MethodName := ⟨R_Bx, "payPensions", "(I)V"⟩
abbrev b_Bx_firstShortDay : ByteArray := prog_4_method_6_code
def y_Bx_firstShortDay : MethodName := ⟨R_Bx, "firstShortDay", "(I)I"⟩
abbrev b_Bx_owedOn : ByteArray := prog_4_method_7_code
def y_Bx_owedOn : MethodName := ⟨R_Bx, "owedOn", "(I)I"⟩
def R_Pn : String := "WaterMen$Pensioner"
def F_Pn : u_T := fun k => match k with
  | 0 => ("WaterMen$Pensioner", "pension", "I", true)
  | 1 => ("WaterMen$Pensioner", "end", "I", true)
  | _ => ("WaterMen$Pensioner", "got", "I", false)
def t_Pn : Nat → FieldType := fun k => match k with
  | 0 => .int
  | 1 => .int
  | _ => .int
abbrev b_Pn_init : ByteArray := prog_7_method_1_code
def y_Pn_init : MethodName := ⟨R_Pn, "<init>", "(II)V"⟩
def R_Md : String := "WaterMenModel"
def F_Md : u_T := fun k => match k with
  | 0 => ("WaterMenModel", "code", "I", false)
  | 1 => ("WaterMenModel", "time", "I", false)
  | 2 => ("WaterMenModel", "stairs", "I", false)
  | 3 => ("WaterMenModel", "miles", "[I", true)
  | 4 => ("WaterMenModel", "bridge", "I", false)
  | 5 => ("WaterMenModel", "table", "[I", true)
  | 6 => ("WaterMenModel", "hasRow", "[Z", true)
  | 7 => ("WaterMenModel", "rows", "[I", true)
  | 8 => ("WaterMenModel", "frosts", "[Z", true)
  | 9 => ("WaterMenModel", "state", "[I", true)
  | 10 => ("WaterMenModel", "master", "[I", true)
  | 11 => ("WaterMenModel", "boundOn", "[I", true)
  | 12 => ("WaterMenModel", "gaps", "[I", true)
  | 13 => ("WaterMenModel", "gapFrom", "[I", true)
  | 14 => ("WaterMenModel", "gapTo", "[I", true)
  | 15 => ("WaterMenModel", "coins", "[I", true)
  | 16 => ("WaterMenModel", "wayOf", "[I", true)
  | 17 => ("WaterMenModel", "tripsOf", "[I", true)
  | 18 => ("WaterMenModel", "shares", "[Z", true)
  | 19 => ("WaterMenModel", "turns", "[I", true)
  | 20 => ("WaterMenModel", "turn", "[I", true)
  | 21 => ("WaterMenModel", "boats", "I", false)
  | 22 => ("WaterMenModel", "boatOars", "[I", true)
  | 23 => ("WaterMenModel", "boatAt", "[I", true)
  | 24 => ("WaterMenModel", "boatFrom", "[I", true)
  | 25 => ("WaterMenModel", "boatTrip", "[I", true)
  | 26 => ("WaterMenModel", "sunk", "[Z", true)
  | 27 => ("WaterMenModel", "tape", "[B", true)
  | 28 => ("WaterMenModel", "taped", "I", false)
  | 29 => ("WaterMenModel", "orders", "I", false)
  | 30 => ("WaterMenModel", "orderFrom", "[I", true)
  | 31 => ("WaterMenModel", "orderMade", "[I", true)
  | 32 => ("WaterMenModel", "fares", "[I", true)
  | 33 => ("WaterMenModel", "fareLow", "[I", true)
  | 34 => ("WaterMenModel", "fareHigh", "[I", true)
  | 35 => ("WaterMenModel", "fareIs", "[I", true)
  | 36 => ("WaterMenModel", "hours", "[I", true)
  | 37 => ("WaterMenModel", "hourLow", "[I", true)
  | 38 => ("WaterMenModel", "hourHigh", "[I", true)
  | 39 => ("WaterMenModel", "hourIs", "[I", true)
  | 40 => ("WaterMenModel", "single", "[I", true)
  | 41 => ("WaterMenModel", "singleTo", "[I", true)
  | 42 => ("WaterMenModel", "at", "I", false)
  | 43 => ("WaterMenModel", "tk", "I", false)
  | 44 => ("WaterMenModel", "tkAt", "I", false)
  | 45 => ("WaterMenModel", "tkNumber", "I", false)
  | 46 => ("WaterMenModel", "got", "I", false)
  | 47 => ("WaterMenModel", "trips", "I", false)
  | 48 => ("WaterMenModel", "tripBoat", "[I", true)
  | 49 => ("WaterMenModel", "tripMan", "[I", true)
  | 50 => ("WaterMenModel", "tripFrom", "[I", true)
  | 51 => ("WaterMenModel", "tripTo", "[I", true)
  | 52 => ("WaterMenModel", "tripBegin", "[I", true)
  | 53 => ("WaterMenModel", "tripThere", "[I", true)
  | 54 => ("WaterMenModel", "tripPaid", "[I", true)
  | 55 => ("WaterMenModel", "sank", "[Z", true)
  | 56 => ("WaterMenModel", "box", "J", false)
  | 57 => ("WaterMenModel", "pot", "J", false)
  | 58 => ("WaterMenModel", "paidOut", "J", false)
  | 59 => ("WaterMenModel", "boxIn", "[J", true)
  | 60 => ("WaterMenModel", "pensioners", "I", false)
  | 61 => ("WaterMenModel", "pensionOf", "[I", true)
  | 62 => ("WaterMenModel", "pensionEnd", "[I", true)
  | _ => ("WaterMenModel", "gotten", "[I", true)
def t_Md : Nat → FieldType := fun k => match k with
  | 0 => .int
  | 1 => .int
  | 2 => .int
  | 3 => .array (.int)
  | 4 => .int
  | 5 => .array (.int)
  | 6 => .array (.boolean)
  | 7 => .array (.int)
  | 8 => .array (.boolean)
  | 9 => .array (.int)
  | 10 => .array (.int)
  | 11 => .array (.int)
  | 12 => .array (.int)
  | 13 => .array (.int)
  | 14 => .array (.int)
  | 15 => .array (.int)
  | 16 => .array (.int)
  | 17 => .array (.int)
  | 18 => .array (.boolean)
  | 19 => .array (.int)
  | 20 => .array (.int)
  | 21 => .int
  | 22 => .array (.int)
  | 23 => .array (.int)
  | 24 => .array (.int)
  | 25 => .array (.int)
  | 26 => .array (.boolean)
  | 27 => .array (.byte)
  | 28 => .int
  | 29 => .int
  | 30 => .array (.int)
  | 31 => .array (.int)
  | 32 => .array (.int)
  | 33 => .array (.int)
  | 34 => .array (.int)
  | 35 => .array (.int)
  | 36 => .array (.int)
  | 37 => .array (.int)
  | 38 => .array (.int)
  | 39 => .array (.int)
  | 40 => .array (.int)
  | 41 => .array (.int)
  | 42 => .int
  | 43 => .int
  | 44 => .int
  | 45 => .int
  | 46 => .int
  | 47 => .int
  | 48 => .array (.int)
  | 49 => .array (.int)
  | 50 => .array (.int)
  | 51 => .array (.int)
  | 52 => .array (.int)
  | 53 => .array (.int)
  | 54 => .array (.int)
  | 55 => .array (.boolean)
  | 56 => .long
  | 57 => .long
  | 58 => .long
  | 59 => .array (.long)
  | 60 => .int
  | 61 => .array (.int)
  | 62 => .array (.int)
  | _ => .array (.int)
abbrev b_Md_in : ByteArray := prog_12_method_2_code
def y_Md_in : MethodName := ⟨R_Md, "in", "(III)Z"⟩
abbrev b_Md_today : ByteArray := prog_12_method_3_code
def y_Md_today : MethodName := ⟨R_Md, "today", "()I"⟩
abbrev b_Md_hourNow : ByteArray := prog_12_method_4_code
def y_Md_hourNow : MethodName := ⟨R_Md, "hourNow", "()I"⟩
abbrev b_Md_isDay : ByteArray := prog_12_method_5_code
def y_Md_isDay : MethodName := ⟨R_Md, "isDay", "(I)Z"⟩
abbrev b_Md_isStairs : ByteArray := prog_12_method_6_code
def y_Md_isStairs : MethodName := ⟨R_Md, "isStairs", "(I)Z"⟩
abbrev b_Md_levelOf : ByteArray := prog_12_method_7_code
def y_Md_levelOf : MethodName := ⟨R_Md, "levelOf", "(II)I"⟩
abbrev b_Md_flowOf : ByteArray := prog_12_method_8_code
def y_Md_flowOf : MethodName := ⟨R_Md, "flowOf", "(II)I"⟩
abbrev b_Md_stairs : ByteArray := prog_12_method_9_code
def y_Md_stairs : MethodName := ⟨R_Md, "stairs", "(I)I"⟩
abbrev b_Md_bridge : ByteArray := prog_12_method_10_code
def y_Md_bridge : MethodName := ⟨R_Md, "bridge", "(I)I"⟩
abbrev b_Md_level : ByteArray := prog_12_method_11_code
def y_Md_level : MethodName := ⟨R_Md, "level", "(III)I"⟩
abbrev b_Md_table : ByteArray := prog_12_method_12_code
def y_Md_table : MethodName := ⟨R_Md, "table", "(II)I"⟩
abbrev b_Md_flow : ByteArray := prog_12_method_13_code
def y_Md_flow : MethodName := ⟨R_Md, "flow", "(II)I"⟩
abbrev b_Md_frost : ByteArray := prog_12_method_14_code
def y_Md_frost : MethodName := ⟨R_Md, "frost", "(II)I"⟩
abbrev b_Md_init : ByteArray := prog_12_method_15_code
def y_Md_init : MethodName := ⟨R_Md, "<init>", "()V"⟩
abbrev b_Md_isMan : ByteArray := prog_12_method_16_code
def y_Md_isMan : MethodName := ⟨R_Md, "isMan", "(I)Z"⟩
abbrev b_Md_free : ByteArray := prog_12_method_17_code
def y_Md_free : MethodName := ⟨R_Md, "free", "(I)I"⟩
abbrev b_Md_bind : ByteArray := prog_12_method_18_code
def y_Md_bind : MethodName := ⟨R_Md, "bind", "(II)I"⟩
abbrev b_Md_absent : ByteArray := prog_12_method_19_code
def y_Md_absent : MethodName := ⟨R_Md, "absent", "(III)I"⟩
abbrev b_Md_servedOf : ByteArray := prog_12_method_20_code
def y_Md_servedOf : MethodName := ⟨R_Md, "servedOf", "(I)I"⟩
abbrev b_Md_served : ByteArray := prog_12_method_21_code
def y_Md_served : MethodName := ⟨R_Md, "served", "(I)I"⟩
abbrev b_Md_pass : ByteArray := prog_12_method_22_code
def y_Md_pass : MethodName := ⟨R_Md, "pass", "(I)I"⟩
abbrev b_Md_rowOf : ByteArray := prog_12_method_23_code
def y_Md_rowOf : MethodName := ⟨R_Md, "rowOf", "(I)I"⟩
abbrev b_Md_placeOf : ByteArray := prog_12_method_24_code
def y_Md_placeOf : MethodName := ⟨R_Md, "placeOf", "(I)I"⟩
abbrev b_Md_leaves : ByteArray := prog_12_method_25_code
def y_Md_leaves : MethodName := ⟨R_Md, "leaves", "(I)V"⟩
abbrev b_Md_man : ByteArray := prog_12_method_26_code
def y_Md_man : MethodName := ⟨R_Md, "man", "(II)I"⟩
abbrev b_Md_join : ByteArray := prog_12_method_27_code
def y_Md_join : MethodName := ⟨R_Md, "join", "(II)I"⟩
abbrev b_Md_leave : ByteArray := prog_12_method_28_code
def y_Md_leave : MethodName := ⟨R_Md, "leave", "(I)I"⟩
abbrev b_Md_isBoat : ByteArray := prog_12_method_29_code
def y_Md_isBoat : MethodName := ⟨R_Md, "isBoat", "(I)Z"⟩
abbrev b_Md_boat : ByteArray := prog_12_method_30_code
def y_Md_boat : MethodName := ⟨R_Md, "boat", "(II)I"⟩
abbrev b_Md_craft : ByteArray := prog_12_method_31_code
def y_Md_craft : MethodName := ⟨R_Md, "craft", "(II)I"⟩
abbrev b_Md_feed : ByteArray := prog_12_method_32_code
def y_Md_feed : MethodName := ⟨R_Md, "feed", "(IIIII)I"⟩
abbrev b_Md_four : ByteArray := prog_12_method_33_code
def y_Md_four : MethodName := ⟨R_Md, "four", "(I)V"⟩
abbrev b_Md_end : ByteArray := prog_12_method_34_code
def y_Md_end : MethodName := ⟨R_Md, "end", "(I)I"⟩
abbrev b_Md_isLetter : ByteArray := prog_12_method_35_code
def y_Md_isLetter : MethodName := ⟨R_Md, "isLetter", "(I)Z"⟩
abbrev b_Md_isDigit : ByteArray := prog_12_method_36_code
def y_Md_isDigit : MethodName := ⟨R_Md, "isDigit", "(I)Z"⟩
abbrev b_Md_advance : ByteArray := prog_12_method_37_code
def y_Md_advance : MethodName := ⟨R_Md, "advance", "()V"⟩
abbrev b_Md_wordOf : ByteArray := prog_12_method_38_code
def y_Md_wordOf : MethodName := ⟨R_Md, "wordOf", "(J)I"⟩
abbrev b_Md_takes : ByteArray := prog_12_method_39_code
def y_Md_takes : MethodName := ⟨R_Md, "takes", "(I)Z"⟩
abbrev b_Md_line : ByteArray := prog_12_method_40_code
def y_Md_line : MethodName := ⟨R_Md, "line", "(I)Z"⟩
abbrev b_Md_order : ByteArray := prog_12_method_41_code
def y_Md_order : MethodName := ⟨R_Md, "order", "(I)I"⟩
abbrev b_Md_forceOn : ByteArray := prog_12_method_42_code
def y_Md_forceOn : MethodName := ⟨R_Md, "forceOn", "(II)I"⟩
abbrev b_Md_inForce : ByteArray := prog_12_method_43_code
def y_Md_inForce : MethodName := ⟨R_Md, "inForce", "(II)I"⟩
abbrev b_Md_lineOf : ByteArray := prog_12_method_44_code
def y_Md_lineOf : MethodName := ⟨R_Md, "lineOf", "(II)I"⟩
abbrev b_Md_by : ByteArray := prog_12_method_45_code
def y_Md_by : MethodName := ⟨R_Md, "by", "(II)I"⟩
abbrev b_Md_fareOf : ByteArray := prog_12_method_46_code
def y_Md_fareOf : MethodName := ⟨R_Md, "fareOf", "(IIIIII)I"⟩
abbrev b_Md_fare : ByteArray := prog_12_method_47_code
def y_Md_fare : MethodName := ⟨R_Md, "fare", "(IIIII)I"⟩
abbrev b_Md_minutesOf : ByteArray := prog_12_method_48_code
def y_Md_minutesOf : MethodName := ⟨R_Md, "minutesOf", "(II)I"⟩
abbrev b_Md_hinders : ByteArray := prog_12_method_49_code
def y_Md_hinders : MethodName := ⟨R_Md, "hinders", "(III)I"⟩
abbrev b_Md_isAsked : ByteArray := prog_12_method_50_code
def y_Md_isAsked : MethodName := ⟨R_Md, "isAsked", "(III)Z"⟩
abbrev b_Md_why : ByteArray := prog_12_method_51_code
def y_Md_why : MethodName := ⟨R_Md, "why", "(III)I"⟩
abbrev b_Md_row : ByteArray := prog_12_method_52_code
def y_Md_row : MethodName := ⟨R_Md, "row", "(IIII)I"⟩
abbrev b_Md_arrive : ByteArray := prog_12_method_53_code
def y_Md_arrive : MethodName := ⟨R_Md, "arrive", "()V"⟩
abbrev b_Md_part : ByteArray := prog_12_method_54_code
def y_Md_part : MethodName := ⟨R_Md, "part", "(I)V"⟩
abbrev b_Md_pay : ByteArray := prog_12_method_55_code
def y_Md_pay : MethodName := ⟨R_Md, "pay", "(I)V"⟩
abbrev b_Md_minutes : ByteArray := prog_12_method_56_code
def y_Md_minutes : MethodName := ⟨R_Md, "minutes", "(I)I"⟩
abbrev b_Md_sink : ByteArray := prog_12_method_57_code
def y_Md_sink : MethodName := ⟨R_Md, "sink", "(III)I"⟩
abbrev b_Md_trip : ByteArray := prog_12_method_58_code
def y_Md_trip : MethodName := ⟨R_Md, "trip", "(II)I"⟩
abbrev b_Md_dueOf : ByteArray := prog_12_method_59_code
def y_Md_dueOf : MethodName := ⟨R_Md, "dueOf", "(II)I"⟩
abbrev b_Md_due : ByteArray := prog_12_method_60_code
def y_Md_due : MethodName := ⟨R_Md, "due", "(II)I"⟩
abbrev b_Md_over : ByteArray := prog_12_method_61_code
def y_Md_over : MethodName := ⟨R_Md, "over", "(II)I"⟩
abbrev b_Md_isPension : ByteArray := prog_12_method_62_code
def y_Md_isPension : MethodName := ⟨R_Md, "isPension", "(II)Z"⟩
abbrev b_Md_newPensioner : ByteArray := prog_12_method_63_code
def y_Md_newPensioner : MethodName := ⟨R_Md, "newPensioner", "(II)I"⟩
abbrev b_Md_pension : ByteArray := prog_12_method_64_code
def y_Md_pension : MethodName := ⟨R_Md, "pension", "(II)I"⟩
abbrev b_Md_foretold : ByteArray := prog_12_method_65_code
def y_Md_foretold : MethodName := ⟨R_Md, "foretold", "()I"⟩
abbrev b_Md_pensioner : ByteArray := prog_12_method_66_code
def y_Md_pensioner : MethodName := ⟨R_Md, "pensioner", "(II)I"⟩
abbrev b_Md_menAs : ByteArray := prog_12_method_67_code
def y_Md_menAs : MethodName := ⟨R_Md, "menAs", "(I)I"⟩
abbrev b_Md_count : ByteArray := prog_12_method_68_code
def y_Md_count : MethodName := ⟨R_Md, "count", "(I)I"⟩
abbrev b_Md_coins : ByteArray := prog_12_method_69_code
def y_Md_coins : MethodName := ⟨R_Md, "coins", "(I)I"⟩
def R_Bd : String := "WaterMen$Bond"
def F_Bd : u_T := fun k => match k with
  | 0 => ("WaterMen$Bond", "master", "I", true)
  | 1 => ("WaterMen$Bond", "since", "I", true)
  | 2 => ("WaterMen$Bond", "gapFrom", "[I", true)
  | 3 => ("WaterMen$Bond", "gapTo", "[I", true)
  | _ => ("WaterMen$Bond", "gapCount", "I", false)
def t_Bd : Nat → FieldType := fun k => match k with
  | 0 => .int
  | 1 => .int
  | 2 => .array (.int)
  | 3 => .array (.int)
  | _ => .int
abbrev b_Bd_init : ByteArray := prog_3_method_1_code
def y_Bd_init : MethodName := ⟨R_Bd, "<init>", "(II)V"⟩
abbrev b_Bd_meetsGap : ByteArray := prog_3_method_2_code
def y_Bd_meetsGap : MethodName := ⟨R_Bd, "meetsGap", "(II)Z"⟩
abbrev b_Bd_addGap : ByteArray := prog_3_method_3_code
def y_Bd_addGap : MethodName := ⟨R_Bd, "addGap", "(II)I"⟩
abbrev b_Bd_daysServed : ByteArray := prog_3_method_4_code
def y_Bd_daysServed : MethodName := ⟨R_Bd, "daysServed", "(I)I"⟩
def R_Bt : String := "WaterMen$Boat"
def F_Bt : u_T := fun k => match k with
  | 0 => ("WaterMen$Boat", "oars", "I", true)
  | 1 => ("WaterMen$Boat", "stairs", "I", false)
  | 2 => ("WaterMen$Boat", "thereFrom", "I", false)
  | 3 => ("WaterMen$Boat", "rower", "I", false)
  | 4 => ("WaterMen$Boat", "lastTrip", "I", false)
  | _ => ("WaterMen$Boat", "sunk", "Z", false)
def t_Bt : Nat → FieldType := fun k => match k with
  | 0 => .int
  | 1 => .int
  | 2 => .int
  | 3 => .int
  | 4 => .int
  | _ => .boolean
abbrev b_Bt_init : ByteArray := prog_2_method_1_code
def y_Bt_init : MethodName := ⟨R_Bt, "<init>", "(II)V"⟩
abbrev b_Bt_stateAt : ByteArray := prog_2_method_2_code
def y_Bt_stateAt : MethodName := ⟨R_Bt, "stateAt", "(I)I"⟩
abbrev b_Bt_setOut : ByteArray := prog_2_method_3_code
def y_Bt_setOut : MethodName := ⟨R_Bt, "setOut", "(LWaterMen$Trip;I)V"⟩
def R_Tr : String := "WaterMen$Trip"
def F_Tr : u_T := fun k => match k with
  | 0 => ("WaterMen$Trip", "boat", "I", true)
  | 1 => ("WaterMen$Trip", "man", "I", true)
  | 2 => ("WaterMen$Trip", "start", "I", true)
  | 3 => ("WaterMen$Trip", "paid", "I", true)
  | 4 => ("WaterMen$Trip", "from", "I", false)
  | 5 => ("WaterMen$Trip", "to", "I", false)
  | 6 => ("WaterMen$Trip", "arrival", "I", false)
  | _ => ("WaterMen$Trip", "sank", "Z", false)
def t_Tr : Nat → FieldType := fun k => match k with
  | 0 => .int
  | 1 => .int
  | 2 => .int
  | 3 => .int
  | 4 => .int
  | 5 => .int
  | 6 => .int
  | _ => .boolean
abbrev b_Tr_init : ByteArray := prog_10_method_1_code
def y_Tr_init : MethodName := ⟨R_Tr, "<init>", "(IIII)V"⟩
abbrev vwCl : List vw_C := [(R_WM, F_WM, 13), (R_Rv, F_Rv, 6), (R_Mn, F_Mn, 8), (R_Or, F_Or, 9), (R_Tp, F_Tp, 6), (R_Bx, F_Bx, 7), (R_Pn, F_Pn, 3), (R_Md, F_Md, 64), (R_Bd, F_Bd, 5), (R_Bt, F_Bt, 6), (R_Tr, F_Tr, 8)]
theorem n_WM : ∀ a, a < 13 → ∀ b, b < 13 → a ≠ b → (F_WM a).2.1 ≠ (F_WM b).2.1 := by decide +kernel
theorem t_WM_ok : ∀ k, k < 13 → parseFieldDescriptor (F_WM k).2.2.1 = some (t_WM k) := by decide +kernel
theorem df_WM : ∀ j, j < 13 → defaultValue (t_WM j) = vp_V [.null, .null, .null, .null, .null, .null, .null, .int 0, .int 0, .int 0, .int 0, .int 0, .null] j := by decide +kernel
theorem n_Rv : ∀ a, a < 6 → ∀ b, b < 6 → a ≠ b → (F_Rv a).2.1 ≠ (F_Rv b).2.1 := by decide +kernel
theorem t_Rv_ok : ∀ k, k < 6 → parseFieldDescriptor (F_Rv k).2.2.1 = some (t_Rv k) := by decide +kernel
theorem df_Rv : ∀ j, j < 6 → defaultValue (t_Rv j) = vp_V [.null, .null, .null, .null, .int 0, .int 0] j := by decide +kernel
theorem n_Mn : ∀ a, a < 8 → ∀ b, b < 8 → a ≠ b → (F_Mn a).2.1 ≠ (F_Mn b).2.1 := by decide +kernel
theorem t_Mn_ok : ∀ k, k < 8 → parseFieldDescriptor (F_Mn k).2.2.1 = some (t_Mn k) := by decide +kernel
theorem df_Mn : ∀ j, j < 8 → defaultValue (t_Mn j) = vp_V [.int 0, .null, .int 0, .int 0, .int 0, .int 0, .int 0, .int 0] j := by decide +kernel
theorem n_Or : ∀ a, a < 9 → ∀ b, b < 9 → a ≠ b → (F_Or a).2.1 ≠ (F_Or b).2.1 := by decide +kernel
theorem t_Or_ok : ∀ k, k < 9 → parseFieldDescriptor (F_Or k).2.2.1 = some (t_Or k) := by decide +kernel
theorem df_Or : ∀ j, j < 9 → defaultValue (t_Or j) = vp_V [.int 0, .int 0, .null, .null, .null, .int 0, .int 0, .int 0, .int 0] j := by decide +kernel
theorem n_Tp : ∀ a, a < 6 → ∀ b, b < 6 → a ≠ b → (F_Tp a).2.1 ≠ (F_Tp b).2.1 := by decide +kernel
theorem t_Tp_ok : ∀ k, k < 6 → parseFieldDescriptor (F_Tp k).2.2.1 = some (t_Tp k) := by decide +kernel
theorem df_Tp : ∀ j, j < 6 → defaultValue (t_Tp j) = vp_V [.null, .int 0, .int 0, .int 0, .int 0, .int 0] j := by decide +kernel
theorem n_Bx : ∀ a, a < 7 → ∀ b, b < 7 → a ≠ b → (F_Bx a).2.1 ≠ (F_Bx b).2.1 := by decide +kernel
theorem t_Bx_ok : ∀ k, k < 7 → parseFieldDescriptor (F_Bx k).2.2.1 = some (t_Bx k) := by decide +kernel
theorem df_Bx : ∀ j, j < 7 → defaultValue (t_Bx j) = vp_V [.int 0, .int 0, .int 0, .int 0, .null, .null, .int 0] j := by decide +kernel
theorem n_Pn : ∀ a, a < 3 → ∀ b, b < 3 → a ≠ b → (F_Pn a).2.1 ≠ (F_Pn b).2.1 := by decide +kernel
theorem t_Pn_ok : ∀ k, k < 3 → parseFieldDescriptor (F_Pn k).2.2.1 = some (t_Pn k) := by decide +kernel
theorem df_Pn : ∀ j, j < 3 → defaultValue (t_Pn j) = vp_V [.int 0, .int 0, .int 0] j := by decide +kernel
theorem n_Md : ∀ a, a < 64 → ∀ b, b < 64 → a ≠ b → (F_Md a).2.1 ≠ (F_Md b).2.1 := by decide +kernel
theorem t_Md_ok : ∀ k, k < 64 → parseFieldDescriptor (F_Md k).2.2.1 = some (t_Md k) := by decide +kernel
theorem df_Md : ∀ j, j < 64 → defaultValue (t_Md j) = vp_V [.int 0, .int 0, .int 0, .null, .int 0, .null, .null, .null, .null, .null, .null, .null, .null, .null, .null, .null, .null, .null, .null, .null, .null, .int 0, .null, .null, .null, .null, .null, .null, .int 0, .int 0, .null, .null, .null, .null, .null, .null, .null, .null, .null, .null, .null, .null, .int 0, .int 0, .int 0, .int 0, .int 0, .int 0, .null, .null, .null, .null, .null, .null, .null, .null, .long 0, .long 0, .long 0, .null, .int 0, .null, .null, .null] j := by decide +kernel
theorem n_Bd : ∀ a, a < 5 → ∀ b, b < 5 → a ≠ b → (F_Bd a).2.1 ≠ (F_Bd b).2.1 := by decide +kernel
theorem t_Bd_ok : ∀ k, k < 5 → parseFieldDescriptor (F_Bd k).2.2.1 = some (t_Bd k) := by decide +kernel
theorem df_Bd : ∀ j, j < 5 → defaultValue (t_Bd j) = vp_V [.int 0, .int 0, .null, .null, .int 0] j := by decide +kernel
theorem n_Bt : ∀ a, a < 6 → ∀ b, b < 6 → a ≠ b → (F_Bt a).2.1 ≠ (F_Bt b).2.1 := by decide +kernel
theorem t_Bt_ok : ∀ k, k < 6 → parseFieldDescriptor (F_Bt k).2.2.1 = some (t_Bt k) := by decide +kernel
theorem df_Bt : ∀ j, j < 6 → defaultValue (t_Bt j) = vp_V [.int 0, .int 0, .int 0, .int 0, .int 0, .int 0] j := by decide +kernel
theorem n_Tr : ∀ a, a < 8 → ∀ b, b < 8 → a ≠ b → (F_Tr a).2.1 ≠ (F_Tr b).2.1 := by decide +kernel
theorem t_Tr_ok : ∀ k, k < 8 → parseFieldDescriptor (F_Tr k).2.2.1 = some (t_Tr k) := by decide +kernel
theorem df_Tr : ∀ j, j < 8 → defaultValue (t_Tr j) = vp_V [.int 0, .int 0, .int 0, .int 0, .int 0, .int 0, .int 0, .int 0] j := by decide +kernel
def TB : List Cond := lw_tbl.filter goodWord
set_option maxRecDepth 100000 in
theorem tw_f {w : Cond} (h : w ∈ lw_tbl) (g : goodWord w = true) : w ∈ TB := List.mem_filter.mpr ⟨h, g⟩
set_option maxRecDepth 100000 in
theorem tw_t1 {w : Cond} (h : w ∈ tables_1_1) : w ∈ lw_tbl := List.mem_append_right _ (List.mem_append_left _ h)
set_option maxRecDepth 100000 in
theorem tw_t2 {w : Cond} (h : w ∈ tables_1_2) : w ∈ lw_tbl := List.mem_append_right _ (List.mem_append_right _ (List.mem_append_left _ h))
set_option maxRecDepth 100000 in
theorem tw_t3 {w : Cond} (h : w ∈ tables_1_3) : w ∈ lw_tbl := List.mem_append_right _ (List.mem_append_right _ (List.mem_append_right _ (List.mem_append_left _ h)))
set_option maxRecDepth 100000 in
theorem tw_t4 {w : Cond} (h : w ∈ tables_1_4) : w ∈ lw_tbl := List.mem_append_right _ (List.mem_append_right _ (List.mem_append_right _ (List.mem_append_right _ (List.mem_append_left _ h))))
set_option maxRecDepth 100000 in
theorem tw_t5 {w : Cond} (h : w ∈ tables_1_5) : w ∈ lw_tbl := List.mem_append_right _ (List.mem_append_right _ (List.mem_append_right _ (List.mem_append_right _ (List.mem_append_right _ (List.mem_append_left _ h)))))
set_option maxRecDepth 100000 in
theorem tw_t6 {w : Cond} (h : w ∈ tables_1_6) : w ∈ lw_tbl := List.mem_append_right _ (List.mem_append_right _ (List.mem_append_right _ (List.mem_append_right _ (List.mem_append_right _ (List.mem_append_right _ (h))))))
set_option maxRecDepth 100000 in
theorem tw_s1 {w : Cond} (h : w ∈ k2_sels lw_privs_1) : w ∈ lw_tbl := by
  obtain ⟨q, hq, rfl⟩ := List.mem_map.mp h
  exact List.mem_append_left _ (List.mem_map.mpr ⟨q, (fun (h : q ∈ lw_privs_1) => (show q ∈ lw_privs from List.mem_append_left _ h)) hq, rfl⟩)
set_option maxRecDepth 100000 in
theorem tw_s2 {w : Cond} (h : w ∈ k2_sels lw_privs_2) : w ∈ lw_tbl := by
  obtain ⟨q, hq, rfl⟩ := List.mem_map.mp h
  exact List.mem_append_left _ (List.mem_map.mpr ⟨q, (fun (h : q ∈ lw_privs_2) => (show q ∈ lw_privs from List.mem_append_right _ (List.mem_append_left _ h))) hq, rfl⟩)
set_option maxRecDepth 100000 in
theorem tw_s3 {w : Cond} (h : w ∈ k2_sels lw_privs_3) : w ∈ lw_tbl := by
  obtain ⟨q, hq, rfl⟩ := List.mem_map.mp h
  exact List.mem_append_left _ (List.mem_map.mpr ⟨q, (fun (h : q ∈ lw_privs_3) => (show q ∈ lw_privs from List.mem_append_right _ (List.mem_append_right _ (h)))) hq, rfl⟩)
set_option maxRecDepth 100000 in
theorem ly_WM_0 : (.laysFinal R_WM "WaterMen" "river" "LWaterMen$River;") ∈ TB := tw_f (tw_t1 (List.mem_of_getElem? (i := 207) rfl)) rfl
set_option maxRecDepth 100000 in
theorem ly_WM_1 : (.laysFinal R_WM "WaterMen" "men" "[LWaterMen$Man;") ∈ TB := tw_f (tw_t1 (List.mem_of_getElem? (i := 209) rfl)) rfl
set_option maxRecDepth 100000 in
theorem ly_WM_2 : (.laysFinal R_WM "WaterMen" "boats" "[LWaterMen$Boat;") ∈ TB := tw_f (tw_t1 (List.mem_of_getElem? (i := 211) rfl)) rfl
set_option maxRecDepth 100000 in
theorem ly_WM_3 : (.laysFinal R_WM "WaterMen" "orders" "[LWaterMen$Order;") ∈ TB := tw_f (tw_t1 (List.mem_of_getElem? (i := 213) rfl)) rfl
set_option maxRecDepth 100000 in
theorem ly_WM_4 : (.laysFinal R_WM "WaterMen" "trips" "[LWaterMen$Trip;") ∈ TB := tw_f (tw_t1 (List.mem_of_getElem? (i := 215) rfl)) rfl
set_option maxRecDepth 100000 in
theorem ly_WM_5 : (.laysFinal R_WM "WaterMen" "tape" "LWaterMen$Tape;") ∈ TB := tw_f (tw_t1 (List.mem_of_getElem? (i := 217) rfl)) rfl
set_option maxRecDepth 100000 in
theorem ly_WM_6 : (.laysFinal R_WM "WaterMen" "box" "LWaterMen$Box;") ∈ TB := tw_f (tw_t1 (List.mem_of_getElem? (i := 219) rfl)) rfl
set_option maxRecDepth 100000 in
theorem ly_WM_7 : (.lays R_WM "WaterMen" "boatCount" "I") ∈ TB := tw_f (tw_t1 (List.mem_of_getElem? (i := 221) rfl)) rfl
set_option maxRecDepth 100000 in
theorem ly_WM_8 : (.lays R_WM "WaterMen" "orderCount" "I") ∈ TB := tw_f (tw_t1 (List.mem_of_getElem? (i := 223) rfl)) rfl
set_option maxRecDepth 100000 in
theorem ly_WM_9 : (.lays R_WM "WaterMen" "tripCount" "I") ∈ TB := tw_f (tw_t1 (List.mem_of_getElem? (i := 225) rfl)) rfl
set_option maxRecDepth 100000 in
theorem ly_WM_10 : (.lays R_WM "WaterMen" "now" "I") ∈ TB := tw_f (tw_t1 (List.mem_of_getElem? (i := 227) rfl)) rfl
set_option maxRecDepth 100000 in
theorem ly_WM_11 : (.lays R_WM "WaterMen" "joins" "I") ∈ TB := tw_f (tw_t1 (List.mem_of_getElem? (i := 229) rfl)) rfl
set_option maxRecDepth 100000 in
theorem ly_WM_12 : (.lays R_WM "WaterMen" "draft" "LWaterMen$Order;") ∈ TB := tw_f (tw_t1 (List.mem_of_getElem? (i := 231) rfl)) rfl
set_option maxRecDepth 100000 in
theorem i_WM : ∀ w ∈ u_ws R_WM F_WM 13, w ∈ TB := by
  intro w hw
  obtain ⟨k, hk, rfl⟩ := List.mem_map.mp hw
  have hk := List.mem_range.mp hk
  match k, hk with
  | 0, _ => exact ly_WM_0
  | 1, _ => exact ly_WM_1
  | 2, _ => exact ly_WM_2
  | 3, _ => exact ly_WM_3
  | 4, _ => exact ly_WM_4
  | 5, _ => exact ly_WM_5
  | 6, _ => exact ly_WM_6
  | 7, _ => exact ly_WM_7
  | 8, _ => exact ly_WM_8
  | 9, _ => exact ly_WM_9
  | 10, _ => exact ly_WM_10
  | 11, _ => exact ly_WM_11
  | 12, _ => exact ly_WM_12
set_option maxRecDepth 100000 in
theorem ly_Rv_0 : (.laysFinal R_Rv "WaterMen$River" "milesUp" "[I") ∈ TB := tw_f (tw_t1 (List.mem_of_getElem? (i := 43) rfl)) rfl
set_option maxRecDepth 100000 in
theorem ly_Rv_1 : (.laysFinal R_Rv "WaterMen$River" "table" "[I") ∈ TB := tw_f (tw_t1 (List.mem_of_getElem? (i := 45) rfl)) rfl
set_option maxRecDepth 100000 in
theorem ly_Rv_2 : (.laysFinal R_Rv "WaterMen$River" "rows" "[[I") ∈ TB := tw_f (tw_t1 (List.mem_of_getElem? (i := 47) rfl)) rfl
set_option maxRecDepth 100000 in
theorem ly_Rv_3 : (.laysFinal R_Rv "WaterMen$River" "frozen" "[Z") ∈ TB := tw_f (tw_t1 (List.mem_of_getElem? (i := 49) rfl)) rfl
set_option maxRecDepth 100000 in
theorem ly_Rv_4 : (.lays R_Rv "WaterMen$River" "stairCount" "I") ∈ TB := tw_f (tw_t1 (List.mem_of_getElem? (i := 51) rfl)) rfl
set_option maxRecDepth 100000 in
theorem ly_Rv_5 : (.lays R_Rv "WaterMen$River" "bridgeAbove" "I") ∈ TB := tw_f (tw_t1 (List.mem_of_getElem? (i := 53) rfl)) rfl
set_option maxRecDepth 100000 in
theorem i_Rv : ∀ w ∈ u_ws R_Rv F_Rv 6, w ∈ TB := by
  intro w hw
  obtain ⟨k, hk, rfl⟩ := List.mem_map.mp hw
  have hk := List.mem_range.mp hk
  match k, hk with
  | 0, _ => exact ly_Rv_0
  | 1, _ => exact ly_Rv_1
  | 2, _ => exact ly_Rv_2
  | 3, _ => exact ly_Rv_3
  | 4, _ => exact ly_Rv_4
  | 5, _ => exact ly_Rv_5
set_option maxRecDepth 100000 in
theorem ly_Mn_0 : (.lays R_Mn "WaterMen$Man" "state" "I") ∈ TB := tw_f (tw_t1 (List.mem_of_getElem? (i := 177) rfl)) rfl
set_option maxRecDepth 100000 in
theorem ly_Mn_1 : (.lays R_Mn "WaterMen$Man" "bond" "LWaterMen$Bond;") ∈ TB := tw_f (tw_t1 (List.mem_of_getElem? (i := 179) rfl)) rfl
set_option maxRecDepth 100000 in
theorem ly_Mn_2 : (.lays R_Mn "WaterMen$Man" "turnStairs" "I") ∈ TB := tw_f (tw_t1 (List.mem_of_getElem? (i := 181) rfl)) rfl
set_option maxRecDepth 100000 in
theorem ly_Mn_3 : (.lays R_Mn "WaterMen$Man" "turnTicket" "I") ∈ TB := tw_f (tw_t1 (List.mem_of_getElem? (i := 183) rfl)) rfl
set_option maxRecDepth 100000 in
theorem ly_Mn_4 : (.lays R_Mn "WaterMen$Man" "coins" "I") ∈ TB := tw_f (tw_t1 (List.mem_of_getElem? (i := 185) rfl)) rfl
set_option maxRecDepth 100000 in
theorem ly_Mn_5 : (.lays R_Mn "WaterMen$Man" "busyUntil" "I") ∈ TB := tw_f (tw_t1 (List.mem_of_getElem? (i := 187) rfl)) rfl
set_option maxRecDepth 100000 in
theorem ly_Mn_6 : (.lays R_Mn "WaterMen$Man" "tripCount" "I") ∈ TB := tw_f (tw_t1 (List.mem_of_getElem? (i := 189) rfl)) rfl
set_option maxRecDepth 100000 in
theorem ly_Mn_7 : (.lays R_Mn "WaterMen$Man" "lastSunday" "I") ∈ TB := tw_f (tw_t1 (List.mem_of_getElem? (i := 191) rfl)) rfl
set_option maxRecDepth 100000 in
theorem i_Mn : ∀ w ∈ u_ws R_Mn F_Mn 8, w ∈ TB := by
  intro w hw
  obtain ⟨k, hk, rfl⟩ := List.mem_map.mp hw
  have hk := List.mem_range.mp hk
  match k, hk with
  | 0, _ => exact ly_Mn_0
  | 1, _ => exact ly_Mn_1
  | 2, _ => exact ly_Mn_2
  | 3, _ => exact ly_Mn_3
  | 4, _ => exact ly_Mn_4
  | 5, _ => exact ly_Mn_5
  | 6, _ => exact ly_Mn_6
  | 7, _ => exact ly_Mn_7
set_option maxRecDepth 100000 in
theorem ly_Or_0 : (.lays R_Or "WaterMen$Order" "madeOn" "I") ∈ TB := tw_f (tw_t1 (List.mem_of_getElem? (i := 140) rfl)) rfl
set_option maxRecDepth 100000 in
theorem ly_Or_1 : (.lays R_Or "WaterMen$Order" "inForceFrom" "I") ∈ TB := tw_f (tw_t1 (List.mem_of_getElem? (i := 142) rfl)) rfl
set_option maxRecDepth 100000 in
theorem ly_Or_2 : (.laysFinal R_Or "WaterMen$Order" "fares" "[I") ∈ TB := tw_f (tw_t1 (List.mem_of_getElem? (i := 144) rfl)) rfl
set_option maxRecDepth 100000 in
theorem ly_Or_3 : (.laysFinal R_Or "WaterMen$Order" "hours" "[I") ∈ TB := tw_f (tw_t1 (List.mem_of_getElem? (i := 146) rfl)) rfl
set_option maxRecDepth 100000 in
theorem ly_Or_4 : (.laysFinal R_Or "WaterMen$Order" "single" "[I") ∈ TB := tw_f (tw_t1 (List.mem_of_getElem? (i := 148) rfl)) rfl
set_option maxRecDepth 100000 in
theorem ly_Or_5 : (.lays R_Or "WaterMen$Order" "fareCount" "I") ∈ TB := tw_f (tw_t1 (List.mem_of_getElem? (i := 150) rfl)) rfl
set_option maxRecDepth 100000 in
theorem ly_Or_6 : (.lays R_Or "WaterMen$Order" "hourCount" "I") ∈ TB := tw_f (tw_t1 (List.mem_of_getElem? (i := 152) rfl)) rfl
set_option maxRecDepth 100000 in
theorem ly_Or_7 : (.lays R_Or "WaterMen$Order" "bridgeOpens" "I") ∈ TB := tw_f (tw_t1 (List.mem_of_getElem? (i := 154) rfl)) rfl
set_option maxRecDepth 100000 in
theorem ly_Or_8 : (.lays R_Or "WaterMen$Order" "bridgeShuts" "I") ∈ TB := tw_f (tw_t1 (List.mem_of_getElem? (i := 156) rfl)) rfl
set_option maxRecDepth 100000 in
theorem i_Or : ∀ w ∈ u_ws R_Or F_Or 9, w ∈ TB := by
  intro w hw
  obtain ⟨k, hk, rfl⟩ := List.mem_map.mp hw
  have hk := List.mem_range.mp hk
  match k, hk with
  | 0, _ => exact ly_Or_0
  | 1, _ => exact ly_Or_1
  | 2, _ => exact ly_Or_2
  | 3, _ => exact ly_Or_3
  | 4, _ => exact ly_Or_4
  | 5, _ => exact ly_Or_5
  | 6, _ => exact ly_Or_6
  | 7, _ => exact ly_Or_7
  | 8, _ => exact ly_Or_8
set_option maxRecDepth 100000 in
theorem ly_Tp_0 : (.laysFinal R_Tp "WaterMen$Tape" "bytes" "[B") ∈ TB := tw_f (tw_t1 (List.mem_of_getElem? (i := 79) rfl)) rfl
set_option maxRecDepth 100000 in
theorem ly_Tp_1 : (.lays R_Tp "WaterMen$Tape" "length" "I") ∈ TB := tw_f (tw_t1 (List.mem_of_getElem? (i := 81) rfl)) rfl
set_option maxRecDepth 100000 in
theorem ly_Tp_2 : (.lays R_Tp "WaterMen$Tape" "sort" "I") ∈ TB := tw_f (tw_t1 (List.mem_of_getElem? (i := 83) rfl)) rfl
set_option maxRecDepth 100000 in
theorem ly_Tp_3 : (.lays R_Tp "WaterMen$Tape" "start" "I") ∈ TB := tw_f (tw_t1 (List.mem_of_getElem? (i := 85) rfl)) rfl
set_option maxRecDepth 100000 in
theorem ly_Tp_4 : (.lays R_Tp "WaterMen$Tape" "behind" "I") ∈ TB := tw_f (tw_t1 (List.mem_of_getElem? (i := 87) rfl)) rfl
set_option maxRecDepth 100000 in
theorem ly_Tp_5 : (.lays R_Tp "WaterMen$Tape" "value" "I") ∈ TB := tw_f (tw_t1 (List.mem_of_getElem? (i := 89) rfl)) rfl
set_option maxRecDepth 100000 in
theorem i_Tp : ∀ w ∈ u_ws R_Tp F_Tp 6, w ∈ TB := by
  intro w hw
  obtain ⟨k, hk, rfl⟩ := List.mem_map.mp hw
  have hk := List.mem_range.mp hk
  match k, hk with
  | 0, _ => exact ly_Tp_0
  | 1, _ => exact ly_Tp_1
  | 2, _ => exact ly_Tp_2
  | 3, _ => exact ly_Tp_3
  | 4, _ => exact ly_Tp_4
  | 5, _ => exact ly_Tp_5
set_option maxRecDepth 100000 in
theorem ly_Bx_0 : (.lays R_Bx "WaterMen$Box" "coins" "I") ∈ TB := tw_f (tw_t1 (List.mem_of_getElem? (i := 111) rfl)) rfl
set_option maxRecDepth 100000 in
theorem ly_Bx_1 : (.lays R_Bx "WaterMen$Box" "pot" "I") ∈ TB := tw_f (tw_t1 (List.mem_of_getElem? (i := 113) rfl)) rfl
set_option maxRecDepth 100000 in
theorem ly_Bx_2 : (.lays R_Bx "WaterMen$Box" "allPaid" "I") ∈ TB := tw_f (tw_t1 (List.mem_of_getElem? (i := 115) rfl)) rfl
set_option maxRecDepth 100000 in
theorem ly_Bx_3 : (.lays R_Bx "WaterMen$Box" "allPensions" "I") ∈ TB := tw_f (tw_t1 (List.mem_of_getElem? (i := 117) rfl)) rfl
set_option maxRecDepth 100000 in
theorem ly_Bx_4 : (.laysFinal R_Bx "WaterMen$Box" "income" "[I") ∈ TB := tw_f (tw_t1 (List.mem_of_getElem? (i := 119) rfl)) rfl
set_option maxRecDepth 100000 in
theorem ly_Bx_5 : (.laysFinal R_Bx "WaterMen$Box" "pensioners" "[LWaterMen$Pensioner;") ∈ TB := tw_f (tw_t1 (List.mem_of_getElem? (i := 121) rfl)) rfl
set_option maxRecDepth 100000 in
theorem ly_Bx_6 : (.lays R_Bx "WaterMen$Box" "pensionerCount" "I") ∈ TB := tw_f (tw_t1 (List.mem_of_getElem? (i := 123) rfl)) rfl
set_option maxRecDepth 100000 in
theorem i_Bx : ∀ w ∈ u_ws R_Bx F_Bx 7, w ∈ TB := by
  intro w hw
  obtain ⟨k, hk, rfl⟩ := List.mem_map.mp hw
  have hk := List.mem_range.mp hk
  match k, hk with
  | 0, _ => exact ly_Bx_0
  | 1, _ => exact ly_Bx_1
  | 2, _ => exact ly_Bx_2
  | 3, _ => exact ly_Bx_3
  | 4, _ => exact ly_Bx_4
  | 5, _ => exact ly_Bx_5
  | 6, _ => exact ly_Bx_6
set_option maxRecDepth 100000 in
theorem ly_Pn_0 : (.laysFinal R_Pn "WaterMen$Pensioner" "pension" "I") ∈ TB := tw_f (tw_t4 (List.mem_of_getElem? (i := 50) rfl)) rfl
set_option maxRecDepth 100000 in
theorem ly_Pn_1 : (.laysFinal R_Pn "WaterMen$Pensioner" "end" "I") ∈ TB := tw_f (tw_t4 (List.mem_of_getElem? (i := 52) rfl)) rfl
set_option maxRecDepth 100000 in
theorem ly_Pn_2 : (.lays R_Pn "WaterMen$Pensioner" "got" "I") ∈ TB := tw_f (tw_t4 (List.mem_of_getElem? (i := 54) rfl)) rfl
set_option maxRecDepth 100000 in
theorem i_Pn : ∀ w ∈ u_ws R_Pn F_Pn 3, w ∈ TB := by
  intro w hw
  obtain ⟨k, hk, rfl⟩ := List.mem_map.mp hw
  have hk := List.mem_range.mp hk
  match k, hk with
  | 0, _ => exact ly_Pn_0
  | 1, _ => exact ly_Pn_1
  | 2, _ => exact ly_Pn_2
set_option maxRecDepth 100000 in
theorem ly_Md_0 : (.lays R_Md "WaterMenModel" "code" "I") ∈ TB := tw_f (tw_t4 (List.mem_of_getElem? (i := 226) rfl)) rfl
set_option maxRecDepth 100000 in
theorem ly_Md_1 : (.lays R_Md "WaterMenModel" "time" "I") ∈ TB := tw_f (tw_t4 (List.mem_of_getElem? (i := 228) rfl)) rfl
set_option maxRecDepth 100000 in
theorem ly_Md_2 : (.lays R_Md "WaterMenModel" "stairs" "I") ∈ TB := tw_f (tw_t4 (List.mem_of_getElem? (i := 230) rfl)) rfl
set_option maxRecDepth 100000 in
theorem ly_Md_3 : (.laysFinal R_Md "WaterMenModel" "miles" "[I") ∈ TB := tw_f (tw_t4 (List.mem_of_getElem? (i := 232) rfl)) rfl
set_option maxRecDepth 100000 in
theorem ly_Md_4 : (.lays R_Md "WaterMenModel" "bridge" "I") ∈ TB := tw_f (tw_t4 (List.mem_of_getElem? (i := 234) rfl)) rfl
set_option maxRecDepth 100000 in
theorem ly_Md_5 : (.laysFinal R_Md "WaterMenModel" "table" "[I") ∈ TB := tw_f (tw_t4 (List.mem_of_getElem? (i := 236) rfl)) rfl
set_option maxRecDepth 100000 in
theorem ly_Md_6 : (.laysFinal R_Md "WaterMenModel" "hasRow" "[Z") ∈ TB := tw_f (tw_t4 (List.mem_of_getElem? (i := 238) rfl)) rfl
set_option maxRecDepth 100000 in
theorem ly_Md_7 : (.laysFinal R_Md "WaterMenModel" "rows" "[I") ∈ TB := tw_f (tw_t5 (List.mem_of_getElem? (i := 0) rfl)) rfl
set_option maxRecDepth 100000 in
theorem ly_Md_8 : (.laysFinal R_Md "WaterMenModel" "frosts" "[Z") ∈ TB := tw_f (tw_t5 (List.mem_of_getElem? (i := 2) rfl)) rfl
set_option maxRecDepth 100000 in
theorem ly_Md_9 : (.laysFinal R_Md "WaterMenModel" "state" "[I") ∈ TB := tw_f (tw_t5 (List.mem_of_getElem? (i := 4) rfl)) rfl
set_option maxRecDepth 100000 in
theorem ly_Md_10 : (.laysFinal R_Md "WaterMenModel" "master" "[I") ∈ TB := tw_f (tw_t5 (List.mem_of_getElem? (i := 6) rfl)) rfl
set_option maxRecDepth 100000 in
theorem ly_Md_11 : (.laysFinal R_Md "WaterMenModel" "boundOn" "[I") ∈ TB := tw_f (tw_t5 (List.mem_of_getElem? (i := 8) rfl)) rfl
set_option maxRecDepth 100000 in
theorem ly_Md_12 : (.laysFinal R_Md "WaterMenModel" "gaps" "[I") ∈ TB := tw_f (tw_t5 (List.mem_of_getElem? (i := 10) rfl)) rfl
set_option maxRecDepth 100000 in
theorem ly_Md_13 : (.laysFinal R_Md "WaterMenModel" "gapFrom" "[I") ∈ TB := tw_f (tw_t5 (List.mem_of_getElem? (i := 12) rfl)) rfl
set_option maxRecDepth 100000 in
theorem ly_Md_14 : (.laysFinal R_Md "WaterMenModel" "gapTo" "[I") ∈ TB := tw_f (tw_t5 (List.mem_of_getElem? (i := 14) rfl)) rfl
set_option maxRecDepth 100000 in
theorem ly_Md_15 : (.laysFinal R_Md "WaterMenModel" "coins" "[I") ∈ TB := tw_f (tw_t5 (List.mem_of_getElem? (i := 16) rfl)) rfl
set_option maxRecDepth 100000 in
theorem ly_Md_16 : (.laysFinal R_Md "WaterMenModel" "wayOf" "[I") ∈ TB := tw_f (tw_t5 (List.mem_of_getElem? (i := 18) rfl)) rfl
set_option maxRecDepth 100000 in
theorem ly_Md_17 : (.laysFinal R_Md "WaterMenModel" "tripsOf" "[I") ∈ TB := tw_f (tw_t5 (List.mem_of_getElem? (i := 20) rfl)) rfl
set_option maxRecDepth 100000 in
theorem ly_Md_18 : (.laysFinal R_Md "WaterMenModel" "shares" "[Z") ∈ TB := tw_f (tw_t5 (List.mem_of_getElem? (i := 22) rfl)) rfl
set_option maxRecDepth 100000 in
theorem ly_Md_19 : (.laysFinal R_Md "WaterMenModel" "turns" "[I") ∈ TB := tw_f (tw_t5 (List.mem_of_getElem? (i := 24) rfl)) rfl
set_option maxRecDepth 100000 in
theorem ly_Md_20 : (.laysFinal R_Md "WaterMenModel" "turn" "[I") ∈ TB := tw_f (tw_t5 (List.mem_of_getElem? (i := 26) rfl)) rfl
set_option maxRecDepth 100000 in
theorem ly_Md_21 : (.lays R_Md "WaterMenModel" "boats" "I") ∈ TB := tw_f (tw_t5 (List.mem_of_getElem? (i := 28) rfl)) rfl
set_option maxRecDepth 100000 in
theorem ly_Md_22 : (.laysFinal R_Md "WaterMenModel" "boatOars" "[I") ∈ TB := tw_f (tw_t5 (List.mem_of_getElem? (i := 30) rfl)) rfl
set_option maxRecDepth 100000 in
theorem ly_Md_23 : (.laysFinal R_Md "WaterMenModel" "boatAt" "[I") ∈ TB := tw_f (tw_t5 (List.mem_of_getElem? (i := 32) rfl)) rfl
set_option maxRecDepth 100000 in
theorem ly_Md_24 : (.laysFinal R_Md "WaterMenModel" "boatFrom" "[I") ∈ TB := tw_f (tw_t5 (List.mem_of_getElem? (i := 34) rfl)) rfl
set_option maxRecDepth 100000 in
theorem ly_Md_25 : (.laysFinal R_Md "WaterMenModel" "boatTrip" "[I") ∈ TB := tw_f (tw_t5 (List.mem_of_getElem? (i := 36) rfl)) rfl
set_option maxRecDepth 100000 in
theorem ly_Md_26 : (.laysFinal R_Md "WaterMenModel" "sunk" "[Z") ∈ TB := tw_f (tw_t5 (List.mem_of_getElem? (i := 38) rfl)) rfl
set_option maxRecDepth 100000 in
theorem ly_Md_27 : (.laysFinal R_Md "WaterMenModel" "tape" "[B") ∈ TB := tw_f (tw_t5 (List.mem_of_getElem? (i := 40) rfl)) rfl
set_option maxRecDepth 100000 in
theorem ly_Md_28 : (.lays R_Md "WaterMenModel" "taped" "I") ∈ TB := tw_f (tw_t5 (List.mem_of_getElem? (i := 42) rfl)) rfl
set_option maxRecDepth 100000 in
theorem ly_Md_29 : (.lays R_Md "WaterMenModel" "orders" "I") ∈ TB := tw_f (tw_t5 (List.mem_of_getElem? (i := 44) rfl)) rfl
set_option maxRecDepth 100000 in
theorem ly_Md_30 : (.laysFinal R_Md "WaterMenModel" "orderFrom" "[I") ∈ TB := tw_f (tw_t5 (List.mem_of_getElem? (i := 46) rfl)) rfl
set_option maxRecDepth 100000 in
theorem ly_Md_31 : (.laysFinal R_Md "WaterMenModel" "orderMade" "[I") ∈ TB := tw_f (tw_t5 (List.mem_of_getElem? (i := 48) rfl)) rfl
set_option maxRecDepth 100000 in
theorem ly_Md_32 : (.laysFinal R_Md "WaterMenModel" "fares" "[I") ∈ TB := tw_f (tw_t5 (List.mem_of_getElem? (i := 50) rfl)) rfl
set_option maxRecDepth 100000 in
theorem ly_Md_33 : (.laysFinal R_Md "WaterMenModel" "fareLow" "[I") ∈ TB := tw_f (tw_t5 (List.mem_of_getElem? (i := 52) rfl)) rfl
set_option maxRecDepth 100000 in
theorem ly_Md_34 : (.laysFinal R_Md "WaterMenModel" "fareHigh" "[I") ∈ TB := tw_f (tw_t5 (List.mem_of_getElem? (i := 54) rfl)) rfl
set_option maxRecDepth 100000 in
theorem ly_Md_35 : (.laysFinal R_Md "WaterMenModel" "fareIs" "[I") ∈ TB := tw_f (tw_t5 (List.mem_of_getElem? (i := 56) rfl)) rfl
set_option maxRecDepth 100000 in
theorem ly_Md_36 : (.laysFinal R_Md "WaterMenModel" "hours" "[I") ∈ TB := tw_f (tw_t5 (List.mem_of_getElem? (i := 58) rfl)) rfl
set_option maxRecDepth 100000 in
theorem ly_Md_37 : (.laysFinal R_Md "WaterMenModel" "hourLow" "[I") ∈ TB := tw_f (tw_t5 (List.mem_of_getElem? (i := 60) rfl)) rfl
set_option maxRecDepth 100000 in
theorem ly_Md_38 : (.laysFinal R_Md "WaterMenModel" "hourHigh" "[I") ∈ TB := tw_f (tw_t5 (List.mem_of_getElem? (i := 62) rfl)) rfl
set_option maxRecDepth 100000 in
theorem ly_Md_39 : (.laysFinal R_Md "WaterMenModel" "hourIs" "[I") ∈ TB := tw_f (tw_t5 (List.mem_of_getElem? (i := 64) rfl)) rfl
set_option maxRecDepth 100000 in
theorem ly_Md_40 : (.laysFinal R_Md "WaterMenModel" "single" "[I") ∈ TB := tw_f (tw_t5 (List.mem_of_getElem? (i := 66) rfl)) rfl
set_option maxRecDepth 100000 in
theorem ly_Md_41 : (.laysFinal R_Md "WaterMenModel" "singleTo" "[I") ∈ TB := tw_f (tw_t5 (List.mem_of_getElem? (i := 68) rfl)) rfl
set_option maxRecDepth 100000 in
theorem ly_Md_42 : (.lays R_Md "WaterMenModel" "at" "I") ∈ TB := tw_f (tw_t5 (List.mem_of_getElem? (i := 70) rfl)) rfl
set_option maxRecDepth 100000 in
theorem ly_Md_43 : (.lays R_Md "WaterMenModel" "tk" "I") ∈ TB := tw_f (tw_t5 (List.mem_of_getElem? (i := 72) rfl)) rfl
set_option maxRecDepth 100000 in
theorem ly_Md_44 : (.lays R_Md "WaterMenModel" "tkAt" "I") ∈ TB := tw_f (tw_t5 (List.mem_of_getElem? (i := 74) rfl)) rfl
set_option maxRecDepth 100000 in
theorem ly_Md_45 : (.lays R_Md "WaterMenModel" "tkNumber" "I") ∈ TB := tw_f (tw_t5 (List.mem_of_getElem? (i := 76) rfl)) rfl
set_option maxRecDepth 100000 in
theorem ly_Md_46 : (.lays R_Md "WaterMenModel" "got" "I") ∈ TB := tw_f (tw_t5 (List.mem_of_getElem? (i := 78) rfl)) rfl
set_option maxRecDepth 100000 in
theorem ly_Md_47 : (.lays R_Md "WaterMenModel" "trips" "I") ∈ TB := tw_f (tw_t5 (List.mem_of_getElem? (i := 80) rfl)) rfl
set_option maxRecDepth 100000 in
theorem ly_Md_48 : (.laysFinal R_Md "WaterMenModel" "tripBoat" "[I") ∈ TB := tw_f (tw_t5 (List.mem_of_getElem? (i := 82) rfl)) rfl
set_option maxRecDepth 100000 in
theorem ly_Md_49 : (.laysFinal R_Md "WaterMenModel" "tripMan" "[I") ∈ TB := tw_f (tw_t5 (List.mem_of_getElem? (i := 84) rfl)) rfl
set_option maxRecDepth 100000 in
theorem ly_Md_50 : (.laysFinal R_Md "WaterMenModel" "tripFrom" "[I") ∈ TB := tw_f (tw_t5 (List.mem_of_getElem? (i := 86) rfl)) rfl
set_option maxRecDepth 100000 in
theorem ly_Md_51 : (.laysFinal R_Md "WaterMenModel" "tripTo" "[I") ∈ TB := tw_f (tw_t5 (List.mem_of_getElem? (i := 88) rfl)) rfl
set_option maxRecDepth 100000 in
theorem ly_Md_52 : (.laysFinal R_Md "WaterMenModel" "tripBegin" "[I") ∈ TB := tw_f (tw_t5 (List.mem_of_getElem? (i := 90) rfl)) rfl
set_option maxRecDepth 100000 in
theorem ly_Md_53 : (.laysFinal R_Md "WaterMenModel" "tripThere" "[I") ∈ TB := tw_f (tw_t5 (List.mem_of_getElem? (i := 92) rfl)) rfl
set_option maxRecDepth 100000 in
theorem ly_Md_54 : (.laysFinal R_Md "WaterMenModel" "tripPaid" "[I") ∈ TB := tw_f (tw_t5 (List.mem_of_getElem? (i := 94) rfl)) rfl
set_option maxRecDepth 100000 in
theorem ly_Md_55 : (.laysFinal R_Md "WaterMenModel" "sank" "[Z") ∈ TB := tw_f (tw_t5 (List.mem_of_getElem? (i := 96) rfl)) rfl
set_option maxRecDepth 100000 in
theorem ly_Md_56 : (.lays R_Md "WaterMenModel" "box" "J") ∈ TB := tw_f (tw_t5 (List.mem_of_getElem? (i := 98) rfl)) rfl
set_option maxRecDepth 100000 in
theorem ly_Md_57 : (.lays R_Md "WaterMenModel" "pot" "J") ∈ TB := tw_f (tw_t5 (List.mem_of_getElem? (i := 100) rfl)) rfl
set_option maxRecDepth 100000 in
theorem ly_Md_58 : (.lays R_Md "WaterMenModel" "paidOut" "J") ∈ TB := tw_f (tw_t5 (List.mem_of_getElem? (i := 102) rfl)) rfl
set_option maxRecDepth 100000 in
theorem ly_Md_59 : (.laysFinal R_Md "WaterMenModel" "boxIn" "[J") ∈ TB := tw_f (tw_t5 (List.mem_of_getElem? (i := 104) rfl)) rfl
set_option maxRecDepth 100000 in
theorem ly_Md_60 : (.lays R_Md "WaterMenModel" "pensioners" "I") ∈ TB := tw_f (tw_t5 (List.mem_of_getElem? (i := 106) rfl)) rfl
set_option maxRecDepth 100000 in
theorem ly_Md_61 : (.laysFinal R_Md "WaterMenModel" "pensionOf" "[I") ∈ TB := tw_f (tw_t5 (List.mem_of_getElem? (i := 108) rfl)) rfl
set_option maxRecDepth 100000 in
theorem ly_Md_62 : (.laysFinal R_Md "WaterMenModel" "pensionEnd" "[I") ∈ TB := tw_f (tw_t5 (List.mem_of_getElem? (i := 110) rfl)) rfl
set_option maxRecDepth 100000 in
theorem ly_Md_63 : (.laysFinal R_Md "WaterMenModel" "gotten" "[I") ∈ TB := tw_f (tw_t5 (List.mem_of_getElem? (i := 112) rfl)) rfl
set_option maxRecDepth 100000 in
theorem i_Md : ∀ w ∈ u_ws R_Md F_Md 64, w ∈ TB := by
  intro w hw
  obtain ⟨k, hk, rfl⟩ := List.mem_map.mp hw
  have hk := List.mem_range.mp hk
  match k, hk with
  | 0, _ => exact ly_Md_0
  | 1, _ => exact ly_Md_1
  | 2, _ => exact ly_Md_2
  | 3, _ => exact ly_Md_3
  | 4, _ => exact ly_Md_4
  | 5, _ => exact ly_Md_5
  | 6, _ => exact ly_Md_6
  | 7, _ => exact ly_Md_7
  | 8, _ => exact ly_Md_8
  | 9, _ => exact ly_Md_9
  | 10, _ => exact ly_Md_10
  | 11, _ => exact ly_Md_11
  | 12, _ => exact ly_Md_12
  | 13, _ => exact ly_Md_13
  | 14, _ => exact ly_Md_14
  | 15, _ => exact ly_Md_15
  | 16, _ => exact ly_Md_16
  | 17, _ => exact ly_Md_17
  | 18, _ => exact ly_Md_18
  | 19, _ => exact ly_Md_19
  | 20, _ => exact ly_Md_20
  | 21, _ => exact ly_Md_21
  | 22, _ => exact ly_Md_22
  | 23, _ => exact ly_Md_23
  | 24, _ => exact ly_Md_24
  | 25, _ => exact ly_Md_25
  | 26, _ => exact ly_Md_26
  | 27, _ => exact ly_Md_27
  | 28, _ => exact ly_Md_28
  | 29, _ => exact ly_Md_29
  | 30, _ => exact ly_Md_30
  | 31, _ => exact ly_Md_31
  | 32, _ => exact ly_Md_32
  | 33, _ => exact ly_Md_33
  | 34, _ => exact ly_Md_34
  | 35, _ => exact ly_Md_35
  | 36, _ => exact ly_Md_36
  | 37, _ => exact ly_Md_37
  | 38, _ => exact ly_Md_38
  | 39, _ => exact ly_Md_39
  | 40, _ => exact ly_Md_40
  | 41, _ => exact ly_Md_41
  | 42, _ => exact ly_Md_42
  | 43, _ => exact ly_Md_43
  | 44, _ => exact ly_Md_44
  | 45, _ => exact ly_Md_45
  | 46, _ => exact ly_Md_46
  | 47, _ => exact ly_Md_47
  | 48, _ => exact ly_Md_48
  | 49, _ => exact ly_Md_49
  | 50, _ => exact ly_Md_50
  | 51, _ => exact ly_Md_51
  | 52, _ => exact ly_Md_52
  | 53, _ => exact ly_Md_53
  | 54, _ => exact ly_Md_54
  | 55, _ => exact ly_Md_55
  | 56, _ => exact ly_Md_56
  | 57, _ => exact ly_Md_57
  | 58, _ => exact ly_Md_58
  | 59, _ => exact ly_Md_59
  | 60, _ => exact ly_Md_60
  | 61, _ => exact ly_Md_61
  | 62, _ => exact ly_Md_62
  | 63, _ => exact ly_Md_63
  | k + 64, h => exact absurd h (by omega)
set_option maxRecDepth 100000 in
theorem ly_Bd_0 : (.laysFinal R_Bd "WaterMen$Bond" "master" "I") ∈ TB := tw_f (tw_t2 (List.mem_of_getElem? (i := 82) rfl)) rfl
set_option maxRecDepth 100000 in
theorem ly_Bd_1 : (.laysFinal R_Bd "WaterMen$Bond" "since" "I") ∈ TB := tw_f (tw_t2 (List.mem_of_getElem? (i := 84) rfl)) rfl
set_option maxRecDepth 100000 in
theorem ly_Bd_2 : (.laysFinal R_Bd "WaterMen$Bond" "gapFrom" "[I") ∈ TB := tw_f (tw_t2 (List.mem_of_getElem? (i := 86) rfl)) rfl
set_option maxRecDepth 100000 in
theorem ly_Bd_3 : (.laysFinal R_Bd "WaterMen$Bond" "gapTo" "[I") ∈ TB := tw_f (tw_t2 (List.mem_of_getElem? (i := 88) rfl)) rfl
set_option maxRecDepth 100000 in
theorem ly_Bd_4 : (.lays R_Bd "WaterMen$Bond" "gapCount" "I") ∈ TB := tw_f (tw_t2 (List.mem_of_getElem? (i := 90) rfl)) rfl
set_option maxRecDepth 100000 in
theorem i_Bd : ∀ w ∈ u_ws R_Bd F_Bd 5, w ∈ TB := by
  intro w hw
  obtain ⟨k, hk, rfl⟩ := List.mem_map.mp hw
  have hk := List.mem_range.mp hk
  match k, hk with
  | 0, _ => exact ly_Bd_0
  | 1, _ => exact ly_Bd_1
  | 2, _ => exact ly_Bd_2
  | 3, _ => exact ly_Bd_3
  | 4, _ => exact ly_Bd_4
set_option maxRecDepth 100000 in
theorem ly_Bt_0 : (.laysFinal R_Bt "WaterMen$Boat" "oars" "I") ∈ TB := tw_f (tw_t2 (List.mem_of_getElem? (i := 161) rfl)) rfl
set_option maxRecDepth 100000 in
theorem ly_Bt_1 : (.lays R_Bt "WaterMen$Boat" "stairs" "I") ∈ TB := tw_f (tw_t2 (List.mem_of_getElem? (i := 163) rfl)) rfl
set_option maxRecDepth 100000 in
theorem ly_Bt_2 : (.lays R_Bt "WaterMen$Boat" "thereFrom" "I") ∈ TB := tw_f (tw_t2 (List.mem_of_getElem? (i := 165) rfl)) rfl
set_option maxRecDepth 100000 in
theorem ly_Bt_3 : (.lays R_Bt "WaterMen$Boat" "rower" "I") ∈ TB := tw_f (tw_t2 (List.mem_of_getElem? (i := 167) rfl)) rfl
set_option maxRecDepth 100000 in
theorem ly_Bt_4 : (.lays R_Bt "WaterMen$Boat" "lastTrip" "I") ∈ TB := tw_f (tw_t2 (List.mem_of_getElem? (i := 169) rfl)) rfl
set_option maxRecDepth 100000 in
theorem ly_Bt_5 : (.lays R_Bt "WaterMen$Boat" "sunk" "Z") ∈ TB := tw_f (tw_t2 (List.mem_of_getElem? (i := 171) rfl)) rfl
set_option maxRecDepth 100000 in
theorem i_Bt : ∀ w ∈ u_ws R_Bt F_Bt 6, w ∈ TB := by
  intro w hw
  obtain ⟨k, hk, rfl⟩ := List.mem_map.mp hw
  have hk := List.mem_range.mp hk
  match k, hk with
  | 0, _ => exact ly_Bt_0
  | 1, _ => exact ly_Bt_1
  | 2, _ => exact ly_Bt_2
  | 3, _ => exact ly_Bt_3
  | 4, _ => exact ly_Bt_4
  | 5, _ => exact ly_Bt_5
set_option maxRecDepth 100000 in
theorem ly_Tr_0 : (.laysFinal R_Tr "WaterMen$Trip" "boat" "I") ∈ TB := tw_f (tw_t3 (List.mem_of_getElem? (i := 211) rfl)) rfl
set_option maxRecDepth 100000 in
theorem ly_Tr_1 : (.laysFinal R_Tr "WaterMen$Trip" "man" "I") ∈ TB := tw_f (tw_t3 (List.mem_of_getElem? (i := 213) rfl)) rfl
set_option maxRecDepth 100000 in
theorem ly_Tr_2 : (.laysFinal R_Tr "WaterMen$Trip" "start" "I") ∈ TB := tw_f (tw_t3 (List.mem_of_getElem? (i := 215) rfl)) rfl
set_option maxRecDepth 100000 in
theorem ly_Tr_3 : (.laysFinal R_Tr "WaterMen$Trip" "paid" "I") ∈ TB := tw_f (tw_t3 (List.mem_of_getElem? (i := 217) rfl)) rfl
set_option maxRecDepth 100000 in
theorem ly_Tr_4 : (.lays R_Tr "WaterMen$Trip" "from" "I") ∈ TB := tw_f (tw_t3 (List.mem_of_getElem? (i := 219) rfl)) rfl
set_option maxRecDepth 100000 in
theorem ly_Tr_5 : (.lays R_Tr "WaterMen$Trip" "to" "I") ∈ TB := tw_f (tw_t3 (List.mem_of_getElem? (i := 221) rfl)) rfl
set_option maxRecDepth 100000 in
theorem ly_Tr_6 : (.lays R_Tr "WaterMen$Trip" "arrival" "I") ∈ TB := tw_f (tw_t3 (List.mem_of_getElem? (i := 223) rfl)) rfl
set_option maxRecDepth 100000 in
theorem ly_Tr_7 : (.lays R_Tr "WaterMen$Trip" "sank" "Z") ∈ TB := tw_f (tw_t3 (List.mem_of_getElem? (i := 225) rfl)) rfl
set_option maxRecDepth 100000 in
theorem i_Tr : ∀ w ∈ u_ws R_Tr F_Tr 8, w ∈ TB := by
  intro w hw
  obtain ⟨k, hk, rfl⟩ := List.mem_map.mp hw
  have hk := List.mem_range.mp hk
  match k, hk with
  | 0, _ => exact ly_Tr_0
  | 1, _ => exact ly_Tr_1
  | 2, _ => exact ly_Tr_2
  | 3, _ => exact ly_Tr_3
  | 4, _ => exact ly_Tr_4
  | 5, _ => exact ly_Tr_5
  | 6, _ => exact ly_Tr_6
  | 7, _ => exact ly_Tr_7
def NWL : List Cond := [(.methodLinkNest R_WM 11 y_Rv_init "WaterMen"), (.methodLinkNest R_WM 42 y_Tp_init "WaterMen"), (.methodLinkNest R_WM 49 y_Bx_init "WaterMen"), (.methodLinkNest R_WM 54 y_Or_init "WaterMen"), (.methodLinkNest R_WM 59 y_Mn_init "WaterMen"), (.methodLinkNest R_Rv 31 y_WM_isDay "WaterMen"), (.methodLinkNest R_Or 52 y_WM_isSunday "WaterMen"), (.methodLinkNest R_Bx 25 y_WM_isDay "WaterMen")]
def nw_is : Cond → Bool
  | .methodLinkNest _ _ _ _ => true
  | _ => false
def AOL : List String := [R_Mn, R_Bt, R_Or, R_Tr, R_Pn]
set_option maxRecDepth 100000 in
theorem ao_Mn : R_Mn ∈ AOL := List.mem_of_getElem? (i := 0) rfl
set_option maxRecDepth 100000 in
theorem ao_Bt : R_Bt ∈ AOL := List.mem_of_getElem? (i := 1) rfl
set_option maxRecDepth 100000 in
theorem ao_Or : R_Or ∈ AOL := List.mem_of_getElem? (i := 2) rfl
set_option maxRecDepth 100000 in
theorem ao_Tr : R_Tr ∈ AOL := List.mem_of_getElem? (i := 3) rfl
set_option maxRecDepth 100000 in
theorem ao_Pn : R_Pn ∈ AOL := List.mem_of_getElem? (i := 4) rfl
set_option maxRecDepth 100000 in
theorem nw_0 : (.methodLinkNest R_WM 11 y_Rv_init "WaterMen") ∈ NWL := List.mem_of_getElem? (i := 0) rfl
set_option maxRecDepth 100000 in
theorem nw_1 : (.methodLinkNest R_WM 42 y_Tp_init "WaterMen") ∈ NWL := List.mem_of_getElem? (i := 1) rfl
set_option maxRecDepth 100000 in
theorem nw_2 : (.methodLinkNest R_WM 49 y_Bx_init "WaterMen") ∈ NWL := List.mem_of_getElem? (i := 2) rfl
set_option maxRecDepth 100000 in
theorem nw_3 : (.methodLinkNest R_WM 54 y_Or_init "WaterMen") ∈ NWL := List.mem_of_getElem? (i := 3) rfl
set_option maxRecDepth 100000 in
theorem nw_4 : (.methodLinkNest R_WM 59 y_Mn_init "WaterMen") ∈ NWL := List.mem_of_getElem? (i := 4) rfl
set_option maxRecDepth 100000 in
theorem nw_5 : (.methodLinkNest R_Rv 31 y_WM_isDay "WaterMen") ∈ NWL := List.mem_of_getElem? (i := 5) rfl
set_option maxRecDepth 100000 in
theorem nw_6 : (.methodLinkNest R_Or 52 y_WM_isSunday "WaterMen") ∈ NWL := List.mem_of_getElem? (i := 6) rfl
set_option maxRecDepth 100000 in
theorem nw_7 : (.methodLinkNest R_Bx 25 y_WM_isDay "WaterMen") ∈ NWL := List.mem_of_getElem? (i := 7) rfl
set_option maxRecDepth 100000 in
theorem nw_tbl : ∀ w ∈ NWL, w ∈ lw_tbl := by
  intro w hw
  simp only [NWL, List.mem_cons, List.not_mem_nil, or_false] at hw
  rcases hw with rfl | rfl | rfl | rfl | rfl | rfl | rfl | rfl
  · exact tw_t1 (List.mem_of_getElem? (i := 27) rfl)
  · exact tw_t1 (List.mem_of_getElem? (i := 68) rfl)
  · exact tw_t1 (List.mem_of_getElem? (i := 95) rfl)
  · exact tw_t1 (List.mem_of_getElem? (i := 127) rfl)
  · exact tw_t1 (List.mem_of_getElem? (i := 160) rfl)
  · exact tw_t2 (List.mem_of_getElem? (i := 55) rfl)
  · exact tw_t3 (List.mem_of_getElem? (i := 139) rfl)
  · exact tw_t4 (List.mem_of_getElem? (i := 4) rfl)
set_option maxRecDepth 100000 in
theorem ao_tbl : ∀ C ∈ AOL, Cond.arrayOver (.object C) ∈ lw_tbl := by
  intro w hw
  simp only [AOL, List.mem_cons, List.not_mem_nil, or_false] at hw
  rcases hw with rfl | rfl | rfl | rfl | rfl
  · exact tw_t1 (List.mem_of_getElem? (i := 59) rfl)
  · exact tw_t1 (List.mem_of_getElem? (i := 61) rfl)
  · exact tw_t1 (List.mem_of_getElem? (i := 63) rfl)
  · exact tw_t1 (List.mem_of_getElem? (i := 65) rfl)
  · exact tw_t1 (List.mem_of_getElem? (i := 100) rfl)
set_option maxRecDepth 100000 in
theorem aa_tbl : Cond.arrayOver (.array .int) ∈ lw_tbl := tw_t1 (List.mem_of_getElem? (i := 32) rfl)
end
section
section HB
variable {p : Program} {l : Launch} {e : Env} {R : Room} {s : State} {m : MethodId} {args : Array Value} {below : List Frame} {meth : Method} {c : Code} {H : Heap} {locs : List Loc} {cells slots : Nat} {Q : State → Prop}
variable {cc : ByteArray} {pc : Nat} {ls : Array Slot} {rest : List Value}
theorem hb_tv {a : Value} (v : Value) (h : a = v) (k : W p l e R s m args below meth c H locs cells slots Q (F0 m pc ls (v :: rest))) : W p l e R s m args below meth c H locs cells slots Q (F0 m pc ls (a :: rest)) := by
  subst h; exact k
theorem hb_ti {x : Int32} (v : Int32) (h : x = v) (k : W p l e R s m args below meth c H locs cells slots Q (F0 m pc ls (.int v :: rest))) : W p l e R s m args below meth c H locs cells slots Q (F0 m pc ls (.int x :: rest)) := by
  subst h; exact k
theorem hb_tl {x : Int64} (v : Int64) (h : x = v) (k : W p l e R s m args below meth c H locs cells slots Q (F0 m pc ls (.long v :: rest))) : W p l e R s m args below meth c H locs cells slots Q (F0 m pc ls (.long x :: rest)) := by
  subst h; exact k
theorem hb_in {i N : Int32} {n : Nat} (h1 : ¬ i < 0) (h2 : ¬ N ≤ i) (hN : N.toInt ≤ (n : Int)) : vp_in i n := by
  rw [vp_in_iff]
  rw [Int32.lt_iff_toInt_lt] at h1
  rw [Int32.le_iff_toInt_le] at h2
  have h0 : (0 : Int32).toInt = 0 := by decide
  omega
theorem hb_inl {i N : Int32} {n : Nat} (h1 : ¬ i < 0) (h2 : ¬ N < i) (hN : N.toInt < (n : Int)) : vp_in i n := by
  rw [vp_in_iff]
  rw [Int32.lt_iff_toInt_lt] at h1 h2
  have h0 : (0 : Int32).toInt = 0 := by decide
  omega
theorem hb_inp {i N : Int32} {n : Nat} (h1 : ¬ i < 0) (h2 : i < N) (hN : N.toInt ≤ (n : Int)) : vp_in i n := by
  rw [vp_in_iff]
  rw [Int32.lt_iff_toInt_lt] at h1 h2
  have h0 : (0 : Int32).toInt = 0 := by decide
  omega
theorem hb_free {A0 : Nat → Prop} {ws : va_W} {H0 H : Heap} {locs : List Loc} (hD : va_D A0 ws) (hS : va_S A0 H0 H locs) (hA : ∀ q, H0.size ≤ q → A0 q) : ∀ q, va_A ws H.size q → A0 q := by
  intro q h
  rcases h with ⟨k, e, h⟩ | h
  · exact hD.2 k _ h
  · exact hA q (Nat.le_trans hS.1 h)
end HB
/-- the words of nest mates, and of the arrays of references -/
def NW (U : State) : Prop := (∀ w ∈ NWL, va_Nw w U) ∧ (∀ C ∈ AOL, va_AO C U) ∧ (Cond.arrayOver (.array .int)).before #[] U = true
theorem NW.warm {s U : State} (hW : s.WarmedH U.vm) (h : NW s) : NW U := by
  refine ⟨?_, fun C hC => va_AO.moved hW.alike (h.2.1 C hC), over_moved hW.alike h.2.2⟩
  intro w hw
  have h1 := h.1 w hw
  have h2 : ∀ w ∈ NWL, nw_is w = true := by decide +kernel
  have h3 := h2 w hw
  cases w <;> first | exact va_Nw.warmM hW h1 | exact absurd h3 (by simp [nw_is])
theorem NW.blind {U : State} {g : JFrame} {mk : MethodId} {a : Array Value} (h : NW U) : NW (U.calling g mk a) := by
  refine ⟨?_, fun C hC => va_AO.moved (u := U) (U := U.calling g mk a) (Vm.Alike.refl U.vm) (h.2.1 C hC), over_moved (u := U) (E := U.calling g mk a) (Vm.Alike.refl U.vm) h.2.2⟩
  intro w hw
  have h1 := h.1 w hw
  have h2 : ∀ w ∈ NWL, w.onTables = true := by decide +kernel
  exact va_Nw.same (u := U) (U := U.calling g mk a) (h2 w hw) rfl h1
def PR (dC : Nat → ClassId) (dI : Nat → Nat → Nat) (ws : va_W) (tys : List (ClassId × FieldType)) (U : State) : Prop := va_P (dC, dI) vwCl ws U.heap ∧ va_K (dC, dI) vwCl tys U ∧ NW U
def PC (dC : Nat → ClassId) (dI : Nat → Nat → Nat) (ws : va_W) (tys : List (ClassId × FieldType)) (sz : Nat) (U : State) : Prop := U.heap.size = sz ∧ va_P (dC, dI) vwCl ws U.heap ∧ va_K (dC, dI) vwCl tys U ∧ va_D (fun _ => True) ws ∧ NW U
theorem pr_blind {av : List Value} {dC : Nat → ClassId} {dI : Nat → Nat → Nat} {ws : va_W} {tys : List (ClassId × FieldType)} : FrameBlind (va_Pc av (PR dC dI ws tys)) := by
  intro a U g mk q
  obtain ⟨q0, qP, qK, qN⟩ := q
  exact ⟨q0, qP, va_K.moved (u := U) (U := U.calling g mk a) (Vm.Alike.refl U.vm) qK, qN.blind⟩
theorem pc_blind {av : List Value} {dC : Nat → ClassId} {dI : Nat → Nat → Nat} {ws : va_W} {tys : List (ClassId × FieldType)} {sz : Nat} : FrameBlind (va_Pc av (PC dC dI ws tys sz)) := by
  intro a U g mk q
  obtain ⟨q0, q1, qP, qK, qD, qN⟩ := q
  exact ⟨q0, q1, qP, va_K.moved (u := U) (U := U.calling g mk a) (Vm.Alike.refl U.vm) qK, qD, qN.blind⟩
theorem pr_pre {s : State} {H : Heap} {av : List Value} {dC : Nat → ClassId} {dI : Nat → Nat → Nat} {ws : va_W} {tys : List (ClassId × FieldType)} (hP : va_P (dC, dI) vwCl ws H) (hK : va_K (dC, dI) vwCl tys s) (hN : NW s) : ∀ U : State, U.heap = H → s.WarmedH U.vm → va_Pc av (PR dC dI ws tys) av.toArray U :=
  fun U hU hW => ⟨rfl, by rw [hU]; exact hP, va_K.moved hW.alike hK, hN.warm hW⟩
theorem pc_pre {A : Nat → Prop} {s : State} {H : Heap} {av : List Value} {dC : Nat → ClassId} {dI : Nat → Nat → Nat} {ws : va_W} {tys : List (ClassId × FieldType)} (hP : va_P (dC, dI) vwCl ws H) (hK : va_K (dC, dI) vwCl tys s) (hD : va_D A ws) (hN : NW s) : ∀ U : State, U.heap = H → s.WarmedH U.vm → va_Pc av (PC dC dI ws tys H.size) av.toArray U :=
  fun U hU hW => ⟨rfl, by rw [hU], by rw [hU]; exact hP, va_K.moved hW.alike hK, hD.weaken (fun _ _ _ _ => trivial), hN.warm hW⟩
theorem gd_I {cy : Cond} (h : cy ∈ TB) : GoodIn TB (cy :: TB) := by
  intro w hw
  have hm : w ∈ TB := by
    rcases List.mem_cons.mp hw with rfl | h'
    · exact h
    · exact h'
  exact ⟨hm, good_of_word (List.mem_filter.mp hm).2⟩
theorem gd_app {a : List Cond} (ha : ∀ w ∈ a, w ∈ TB) {b : List Cond} (hb : GoodIn TB b) : GoodIn TB (a ++ b) := by
  intro w hw
  rcases List.mem_append.mp hw with h | h
  · exact ⟨ha w h, good_of_word (List.mem_filter.mp (ha w h)).2⟩
  · exact hb w h
theorem gd_V {own C : String} {idx : Nat} {y : MethodName} {cy : Cond} (h1 : Cond.methodLink own idx y ∈ TB) (h2 : Cond.instanceMethod y ∈ TB) (h3 : Cond.selects C y y ∈ TB) (h4 : Cond.initialized C ∈ TB) (h5 : cy ∈ TB) : GoodIn TB (wsV own idx C y (cy :: TB)) := by
  unfold wsV
  refine gd_app (fun w hw => ?_) (gd_I h5)
  simp only [List.mem_cons, List.not_mem_nil, or_false] at hw
  rcases hw with rfl | rfl | rfl | rfl <;> assumption
theorem gd_S {own : String} {idx : Nat} {y : MethodName} {cy : Cond} (h1 : Cond.methodLink own idx y ∈ TB) (h2 : Cond.static y ∈ TB) (h4 : Cond.initialized own ∈ TB) (h5 : cy ∈ TB) : GoodIn TB (wsS own idx y (cy :: TB)) := by
  unfold wsS
  refine gd_app (fun w hw => ?_) (gd_I h5)
  simp only [List.mem_cons, List.not_mem_nil, or_false] at hw
  rcases hw with rfl | rfl | rfl <;> assumption
theorem gd_S2 {own : String} {idx : Nat} {y : MethodName} {cy : Cond} (h1 : Cond.methodLink own idx y ∈ TB) (h2 : Cond.static y ∈ TB) (h4 : Cond.initialized y.cls ∈ TB) (h5 : cy ∈ TB) : GoodIn TB (va_wsS own idx y (cy :: TB)) := by
  unfold va_wsS
  refine gd_app (fun w hw => ?_) (gd_I h5)
  simp only [List.mem_cons, List.not_mem_nil, or_false] at hw
  rcases hw with rfl | rfl | rfl <;> assumption
theorem fb_rng (x : Int32) : -2147483648 ≤ x.toInt ∧ x.toInt < 2147483648 := ⟨Int32.le_toInt x, Int32.toInt_lt x⟩
theorem fb_bmod {z : Int} (h1 : -2147483648 ≤ z) (h2 : z < 2147483648) : z.bmod (2 ^ 32) = z := by
  rw [Int.bmod_def]; split <;> omega
theorem fb_addI {x y : Int32} (h1 : -2147483648 ≤ x.toInt + y.toInt) (h2 : x.toInt + y.toInt < 2147483648) : (x + y).toInt = x.toInt + y.toInt := by
  rw [Int32.toInt_add]; exact fb_bmod h1 h2
theorem fb_subI {x y : Int32} (h1 : -2147483648 ≤ x.toInt - y.toInt) (h2 : x.toInt - y.toInt < 2147483648) : (x - y).toInt = x.toInt - y.toInt := by
  rw [Int32.toInt_sub]; exact fb_bmod h1 h2
theorem hb_upd0 (v : Int32) (i : Nat) (w : Int32) (h : w = v) : upd (fun _ => v) i w = fun _ => v := by
  subst h; funext j; simp [upd]
theorem hb_updL0 (v : Int64) (i : Nat) : vp_updL (fun _ => v) i v = fun _ => v := by
  funext j; simp [vp_updL]
theorem hb_nat {x : Int32} (h0 : ¬ x < 0) (h1 : ¬ 1000 < x) : ∃ j : Nat, j ≤ 1000 ∧ x = nI j := by
  refine nI_of2 (M := 1000) (by decide) h0 ?_
  rw [Int32.lt_iff_toInt_lt] at h1
  rw [Int32.le_iff_toInt_le]
  omega
theorem hb_rem12 {x y : Int32} (hx0 : ¬ x < 0) (hx1 : ¬ 1000 < x) (hy0 : ¬ y < 0) (hy1 : ¬ 1000 < y) : vp_in ((x + y) - (x + y) / 12 * 12) 12 := by
  obtain ⟨a, ha, rfl⟩ := hb_nat hx0 hx1
  obtain ⟨b, hb, rfl⟩ := hb_nat hy0 hy1
  rw [nI_add, show (12 : Int32) = nI 12 from rfl, pk_rem (by omega) (by omega) (by omega)]
  exact vp_in_nI (Nat.mod_lt _ (by omega)) (by omega)
theorem hb_i6000 {x y : Int32} (hx0 : ¬ x < 0) (hx1 : ¬ 499 < x) (hy0 : ¬ y < 0) (hy1 : ¬ 11 < y) : vp_in ((12 * x) + y) 6000 := by
  obtain ⟨a, ha, rfl⟩ : ∃ j : Nat, j ≤ 499 ∧ x = nI j := by
    refine nI_of2 (M := 499) (by decide) hx0 ?_
    rw [Int32.lt_iff_toInt_lt] at hx1; rw [Int32.le_iff_toInt_le]; omega
  obtain ⟨b, hb, rfl⟩ : ∃ j : Nat, j ≤ 11 ∧ y = nI j := by
    refine nI_of2 (M := 11) (by decide) hy0 ?_
    rw [Int32.lt_iff_toInt_lt] at hy1; rw [Int32.le_iff_toInt_le]; omega
  rw [show (12 : Int32) = nI 12 from rfl, pk_mul, nI_add]
  exact vp_in_nI (by omega) (by omega)
theorem hb_div720 {x : Int32} (h0 : ¬ x < 1) (h1 : ¬ 1440 < x) : ∃ j : Nat, 1 ≤ j ∧ j ≤ 1440 ∧ x = nI j ∧ (0 + x) / 720 = nI (j / 720) := by
  obtain ⟨j, hj, rfl⟩ : ∃ j : Nat, j ≤ 1440 ∧ x = nI j := by
    refine nI_of2 (M := 1440) (by decide) ?_ ?_
    · rw [Int32.lt_iff_toInt_lt] at h0 ⊢
      have z0 : (0 : Int32).toInt = 0 := by decide
      have z1 : (1 : Int32).toInt = 1 := by decide
      omega
    · rw [Int32.lt_iff_toInt_lt] at h1; rw [Int32.le_iff_toInt_le]; omega
  refine ⟨j, ?_, hj, rfl, ?_⟩
  · rw [show (1 : Int32) = nI 1 from rfl, nI_ltI (by omega) (by omega)] at h0; omega
  · rw [Int32.zero_add, show (720 : Int32) = nI 720 from rfl, pk_div (by omega) (by omega) (by omega)]
theorem hb_day3 {x : Int32} (h0 : ¬ x < 1) (h1 : ¬ 1440 < x) : (0 + x) / 720 < 3 := by
  obtain ⟨j, h2, h3, -, e⟩ := hb_div720 h0 h1
  rw [e, show (3 : Int32) = nI 3 from rfl, nI_ltI (by omega) (by omega)]
  omega
theorem hb_time {x : Int32} (h0 : ¬ x < 1) (h1 : ¬ 1440 < x) : (0 + x) ≤ 359999 := by
  rw [Int32.zero_add]
  rw [Int32.lt_iff_toInt_lt] at h1
  rw [Int32.le_iff_toInt_le]
  have z1 : (1440 : Int32).toInt = 1440 := by decide
  have z2 : (359999 : Int32).toInt = 359999 := by decide
  omega
section HA
variable {p : Program} {l : Launch} {e : Env} {R : Room} {s : State} {m : MethodId} {args : Array Value} {below : List Frame} {meth : Method} {c : Code} {H : Heap} {locs : List Loc} {cells slots : Nat} {Q : State → Prop}
variable {cc : ByteArray} {pc : Nat} {ls : Array Slot} {rest : List Value} {D : va_G} {cl : List vw_C} {A : Nat → Prop} {a : Nat} {tys : List (ClassId × FieldType)} {ws : va_W} {H0 : Heap}
theorem va_aldA (hexec : p.tables.exec = Jvm.exec) (hb : c.code = cc) (hK : va_K D cl tys s) (hP : va_P D cl ws H) (q0 t0 : Nat) {cA : ClassId} {t : FieldType} {n : Nat} {f : Nat → Option Nat} (ha : ws[q0]? = some (a, .inl (cA, n, .inr (.inr (.inr (.inr f)))))) (ht : tys[t0]? = some (cA, .array t)) {i : Int32} (hin : vp_in i n) (hdg : decode cc pc = .ok (.aaload, 1))
    (kk : W p l e R s m args below meth c H locs cells slots Q (F0 m (pc + 1) ls (va_rf (f i.toNatClampNeg) :: rest))) : W p l e R s m args below meth c H locs cells slots Q (F0 m pc ls (.int i :: .ref a :: rest)) := by
  have hlt : i.toNatClampNeg < n := Nat.not_le.mp fun q => hin (Or.inr q)
  exact W.aald (v := va_rf (f i.toNatClampNeg)) (ty := .array t) hexec hb (hP q0 _ ha) ((hK.2 t0 _ ht).1 n (fun j => va_rf (f j))) rfl (fun q => by cases q) (by show ¬ (i < 0 ∨ (arrV _ _ _).slots.size ≤ _); rw [arrV_size]; exact hin) (by show (arrV _ _ _).slots[_]? = _; rw [arrV_read _ _ hlt]) rfl rfl hdg kk
theorem va_newA (hexec : p.tables.exec = Jvm.exec) (hb : c.code = cc) {own : String} {index : Nat} {t : FieldType} (hown : s.vm.findClass own = some m.cls) (hclink : (Cond.classLink own index (FieldType.array t).toString).before args s = true) (hover : (Cond.arrayOver (.array t)).before args s = true) (hK : va_K D cl tys s) (hP : va_P D cl ws H) (hD : va_D A ws) (hS : va_S A H0 H locs) (hA : ∀ q, H0.size ≤ q → A q)
    {n : Int32} {N' : Nat} (hn : ¬ n < 0) (hN : n.toNatClampNeg = N') (hbytes : N' * 4 ≤ 536870912) (hcells : cells + 1 ≤ R.cells) (hslots : slots + N' ≤ R.slots) (hdg : decode cc pc = .ok (.anewarray index, 3))
    (kk : ∀ (q : Nat) (cA : ClassId) (H1 : Heap), va_K D cl (tys ++ [(cA, .array t)]) s → va_P D cl (ws ++ [(q, .inl (cA, N', .inr (.inr (.inr (.inr (fun _ => none))))))]) H1 → va_D A (ws ++ [(q, .inl (cA, N', .inr (.inr (.inr (.inr (fun _ => none))))))]) → va_S A H0 H1 locs →
      W p l e R s m args below meth c H1 locs (cells + 1) (slots + N') Q (F0 m (pc + 3) ls (.ref q :: rest))) : W p l e R s m args below meth c H locs cells slots Q (F0 m pc ls (.int n :: rest)) := by
  subst hN
  refine W.anewA hexec hb hown hclink hover rfl hdg rfl hn hbytes hcells hslots fun cA kA comp f1 f2 f3 f4 => ?_
  generalize hH1 : H.push ({ cls := cA, slots := Array.replicate n.toNatClampNeg .null, vm := .none } : Cell) = H1
  have z1 : H1.size = H.size + 1 := by rw [← hH1, Array.size_push]
  have e1 : H1[H.size]? = some (arrV cA n.toNatClampNeg (fun _ => .null)) := by rw [← hH1, Array.getElem?_push_size, ← arrV_new]
  have o1 : ∀ q : Nat, q < H.size → H1[q]? = H[q]? := fun q hq => by rw [← hH1, Array.getElem?_push, if_neg (Nat.ne_of_lt hq)]
  have hAr : ArrOfT s cA (.array t) := fun N z => ⟨(fun k h => by cases h), kA, f2, comp, f3⟩
  have hk : ∀ (k : Nat) (x : Nat × va_E), ws[k]? = some x → H1[x.1]? = H[x.1]? := fun k x hx => o1 x.1 ((hP k x hx).lt)
  refine kk H.size cA H1 ⟨hK.1, fun k x hx => ?_⟩ ((hP.kept hk).app (fun k x hx => ?_)) (hD.push hP rfl (hA _ hS.1)) ⟨Nat.le_trans hS.1 (by omega), fun x h1 h2 => (o1 x (Nat.lt_of_lt_of_le h1 hS.1)).trans (hS.2.1 x h1 h2), hS.2.2⟩
  · by_cases hl : k < tys.length
    · rw [List.getElem?_append_left hl] at hx
      exact hK.2 k x hx
    · rw [List.getElem?_append_right (by omega)] at hx
      have hz : k - tys.length < 1 := (List.getElem?_eq_some_iff.mp hx).1
      rw [show k - tys.length = 0 by omega] at hx
      cases hx
      exact ⟨hAr, f1⟩
  · have hz : k < 1 := (List.getElem?_eq_some_iff.mp hx).1
    rw [show k = 0 by omega] at hx
    cases hx
    show H1[H.size]? = some (vp_cell _ _)
    rw [vp_cell_q]
    exact e1
theorem va_astA (hexec : p.tables.exec = Jvm.exec) (hb : c.code = cc) (hover : (Cond.arrayOver (.array .int)).before args s = true) (hK : va_K D cl tys s) (hP : va_P D cl ws H) (hD : va_D A ws) (hS : va_S A H0 H locs) (q0 t0 qk tk : Nat) {cA cV : ClassId} {x : vp_A} {n v : Nat} {f : Nat → Option Nat} (ha : ws[q0]? = some (a, .inl (cA, n, .inr (.inr (.inr (.inr f)))))) (ht : tys[t0]? = some (cA, .array .int)) (hv : ws[qk]? = some (v, .inl (cV, x))) (htk : tys[tk]? = some (cV, .int)) {i : Int32} (hin : vp_in i n) (hdg : decode cc pc = .ok (.aastore, 1))
    (kk : ∀ (H1 : Heap) (locs1 : List Loc), va_P D cl (ws.set q0 (a, .inl (cA, n, .inr (.inr (.inr (.inr (va_up f i.toNatClampNeg (some v)))))))) H1 → va_D A (ws.set q0 (a, .inl (cA, n, .inr (.inr (.inr (.inr (va_up f i.toNatClampNeg (some v)))))))) → va_S A H0 H1 locs1 → W p l e R s m args below meth c H1 locs1 cells slots Q (F0 m (pc + 1) ls rest)) : W p l e R s m args below meth c H locs cells slots Q (F0 m pc ls (.ref v :: .int i :: .ref a :: rest)) := by
  have hlt : i.toNatClampNeg < n := Nat.not_le.mp fun q => hin (Or.inr q)
  have h0 : ¬ i < 0 := fun q => hin (Or.inl q)
  have g1 : H[v]? = some (vp_cell cV x) := hP qk _ hv
  have hvm0 : (vp_cell cV x).vm = .none := by
    obtain ⟨n, f | f | f | f | f⟩ := x <;> rfl
  have hcl0 : (vp_cell cV x).cls = cV := by
    obtain ⟨n, f | f | f | f | f⟩ := x <;> rfl
  obtain ⟨comp, c1, kA, k0, k1, k2, k3, k4⟩ := arrayOverA_spec hover
  have hcA : c1 = cA := Option.some.inj (k4.symm.trans (hK.2 t0 _ ht).2)
  subst hcA
  have hcV : comp = cV := Option.some.inj (k0.symm.trans (hK.2 tk _ htk).2)
  subst hcV
  obtain ⟨kE, hkE, -⟩ := Vm.findClass_spec k0
  refine W.aast hexec hb (hP q0 _ ha) (fun q h => by cases h) (fun h => by cases h) k2 k3 rfl hkE ⟨h0, by show _ < (arrV _ _ _).slots.size; rw [arrV_size]; exact hlt⟩ g1 (fun q h => by rw [hvm0] at h; cases h) (by rw [hcl0]; exact hkE) (by rw [hcl0]; exact va_asg _ _) rfl rfl hdg fun H1 e z oq => ?_
  refine kk H1 _ (hP.set hD ha ?_ oq) (hD.set ha) (hS.put z oq (hD.2 q0 _ ha))
  show H1[a]? = some (vp_cell _ _)
  rw [e]
  rw [vp_cell_q, vp_cell_q, arrV_store]
  congr 2
  funext q
  by_cases hq : q = i.toNatClampNeg
  · subst hq
    simp [updV, va_up, va_rf]
  · simp [updV, va_up, hq]
end HA
theorem hb_last {ws : va_W} {x : Nat × va_E} : (ws ++ [x])[ws.length]? = some x := by simp
def hb_fl (v w : Int32) (i : Nat) : Nat → Int32 := fun j => if j < i then v else w
theorem hb_fl_0 (v w : Int32) : hb_fl v w 0 = fun _ => w := by funext j; simp [hb_fl]
theorem hb_fill {v w : Int32} {i : Nat} (h : i < 2 ^ 31) : upd (hb_fl v w i) (nI i).toNatClampNeg v = hb_fl v w (i + 1) := by
  rw [nI_clamp h]
  funext j
  unfold upd hb_fl
  by_cases h1 : j = i
  · rw [if_pos h1, if_pos (by omega)]
  · rw [if_neg h1]
    by_cases h2 : j < i
    · rw [if_pos h2, if_pos (by omega)]
    · rw [if_neg h2, if_neg (by omega)]
theorem hb_cellf {cA : ClassId} {n : Nat} {f g : Nat → Int32} (h : ∀ j, j < n → f j = g j) : vp_cell cA (n, .inl f) = vp_cell cA (n, .inl g) := by
  show arrV cA n (fun j => .int (f j)) = arrV cA n (fun j => .int (g j))
  unfold arrV
  congr 2
  funext j
  show Value.int (f j.val) = Value.int (g j.val)
  rw [h j.val j.isLt]
theorem hb_swap {D : va_G} {cl : List vw_C} {ws : va_W} {H : Heap} (i : Nat) {a : Nat} {k : ClassId} {n : Nat} {f : Nat → Int32} (g : Nat → Int32) (hP : va_P D cl ws H) (he : ws[i]? = some (a, .inl (k, n, .inl f))) (h : ∀ j, j < n → f j = g j) : va_P D cl (ws.set i (a, .inl (k, n, .inl g))) H := by
  intro j q hj
  by_cases hji : j = i
  · subst hji
    rw [List.getElem?_set_self (List.getElem?_eq_some_iff.mp he).1] at hj
    cases hj
    have h1 : H[a]? = some (vp_cell k (n, .inl f)) := hP j _ he
    show H[a]? = some (vp_cell k (n, .inl g))
    rw [h1, hb_cellf h]
  · rw [List.getElem?_set_ne (Ne.symm hji)] at hj
    exact hP j q hj
theorem hb_plpush {X : va_W} {L : List Nat} {e : va_E} {q : Nat} : (X ++ va_pl L (fun _ => e)) ++ [(q, e)] = X ++ va_pl (L ++ [q]) (fun _ => e) := by
  simp [va_pl]
theorem hb_fm {L : List Nat} {fm : Nat → Option Nat} {i q : Nat} (hi : i < 2 ^ 31) (hL : L.length = i) (h : ∀ j, fm j = L[j]?) : ∀ j, va_up fm (nI i).toNatClampNeg (some q) j = (L ++ [q])[j]? := by
  intro j
  rw [nI_clamp hi]
  unfold va_up
  by_cases h1 : j = i
  · rw [if_pos h1, h1, ← hL]; simp
  · rw [if_neg h1, h j]
    by_cases h2 : j < L.length
    · rw [List.getElem?_append_left h2]
    · rw [List.getElem?_eq_none (by omega), List.getElem?_eq_none (by simp; omega)]
theorem hb_right {D : va_G} {cl : List vw_C} {u v : va_W} {H : Heap} (h : va_P D cl (u ++ v) H) : va_P D cl v H := by
  intro k q hk
  exact h (u.length + k) q (by rw [List.getElem?_append_right (by omega), Nat.add_sub_cancel_left]; exact hk)
theorem hb_left {D : va_G} {cl : List vw_C} {u v : va_W} {H : Heap} (h : va_P D cl (u ++ v) H) : va_P D cl u H := by
  intro k q hk
  exact h k q (by rw [List.getElem?_append_left (List.getElem?_eq_some_iff.mp hk).1]; exact hk)
theorem hb_rightD {A : Nat → Prop} {u v : va_W} (h : va_D A (u ++ v)) : va_D A v := by
  have key : ∀ (k : Nat) (q : Nat × va_E), v[k]? = some q → (u ++ v)[u.length + k]? = some q := fun k q hk => by
    rw [List.getElem?_append_right (by omega), Nat.add_sub_cancel_left]; exact hk
  refine ⟨fun i j p q hi hj e => ?_, fun k q hk => h.2 _ q (key k q hk)⟩
  have := h.1 _ _ p q (key i p hi) (key j q hj) e
  omega
theorem hb_leftD {A : Nat → Prop} {u v : va_W} (h : va_D A (u ++ v)) : va_D A u := by
  have key : ∀ (k : Nat) (q : Nat × va_E), u[k]? = some q → (u ++ v)[k]? = some q := fun k q hk => by
    rw [List.getElem?_append_left (List.getElem?_eq_some_iff.mp hk).1]; exact hk
  exact ⟨fun i j p q hi hj e => h.1 _ _ p q (key i p hi) (key j q hj) e, fun k q hk => h.2 _ q (key k q hk)⟩
/-- the left world stays behind a call that had the right one -/
theorem hb_keep {A : Nat → Prop} {D : va_G} {cl : List vw_C} {u v : va_W} {H H1 : Heap} (hP : va_P D cl (u ++ v) H) (hD : va_D A (u ++ v)) (hk : ∀ q : Nat, q < H.size → ¬ va_A v H.size q → H1[q]? = H[q]?) : va_P D cl u H1 := by
  have hu := hb_left hP
  refine hu.kept (fun k q hq => hk q.1 (hu k q hq).lt (fun h => ?_))
  rcases h with ⟨k2, e, h⟩ | h
  · have h1 : (u ++ v)[k]? = some q := by rw [List.getElem?_append_left (List.getElem?_eq_some_iff.mp hq).1]; exact hq
    have h2 : (u ++ v)[u.length + k2]? = some (q.1, e) := by rw [List.getElem?_append_right (by omega), Nat.add_sub_cancel_left]; exact h
    have h3 := hD.1 _ _ q (q.1, e) h1 h2 rfl
    have h4 := (List.getElem?_eq_some_iff.mp hq).1
    omega
  · have := (hu k q hq).lt
    omega
end
section
set_option maxRecDepth 100000 in
theorem tw_0 : (.methodLink R_WM 3 objectInit) ∈ TB := tw_f (tw_t1 (List.mem_of_getElem? (i := 22) rfl)) rfl
set_option maxRecDepth 100000 in
theorem tw_1 : (.instanceMethod objectInit) ∈ TB := tw_f (tw_t1 (List.mem_of_getElem? (i := 23) rfl)) rfl
set_option maxRecDepth 100000 in
theorem tw_2 : (.code objectInit ⟨#[0xb1]⟩ 1 none) ∈ TB := tw_f (tw_t1 (List.mem_of_getElem? (i := 24) rfl)) rfl
set_option maxRecDepth 100000 in
theorem tw_3 : (.classLink R_WM 9 R_Rv) ∈ TB := tw_f (tw_t1 (List.mem_of_getElem? (i := 25) rfl)) rfl
set_option maxRecDepth 100000 in
theorem tw_4 : (.instantiable R_Rv 6) ∈ TB := tw_f (tw_t1 (List.mem_of_getElem? (i := 26) rfl)) rfl
set_option maxRecDepth 100000 in
theorem tw_5 : (.initialized R_Rv) ∈ TB := tw_f (tw_t1 (List.mem_of_getElem? (i := 2) rfl)) rfl
set_option maxRecDepth 100000 in
theorem tw_6 : (.methodLink R_Rv 3 objectInit) ∈ TB := tw_f (tw_t1 (List.mem_of_getElem? (i := 30) rfl)) rfl
set_option maxRecDepth 100000 in
theorem tw_7 : (.arrayClass .int) ∈ TB := tw_f (tw_t1 (List.mem_of_getElem? (i := 56) rfl)) rfl
set_option maxRecDepth 100000 in
theorem tw_8 : (.fieldLink R_Rv 9 "WaterMen$River" "milesUp" "[I") ∈ TB := tw_f (tw_t1 (List.mem_of_getElem? (i := 33) rfl)) rfl
set_option maxRecDepth 100000 in
theorem tw_9 : (.fieldLink R_Rv 15 "WaterMen$River" "table" "[I") ∈ TB := tw_f (tw_t1 (List.mem_of_getElem? (i := 34) rfl)) rfl
set_option maxRecDepth 100000 in
theorem tw_10 : (.classLink R_Rv 18 "[I") ∈ TB := tw_f (tw_t1 (List.mem_of_getElem? (i := 31) rfl)) rfl
set_option maxRecDepth 100000 in
theorem tw_11 : (.fieldLink R_Rv 19 "WaterMen$River" "rows" "[[I") ∈ TB := tw_f (tw_t1 (List.mem_of_getElem? (i := 36) rfl)) rfl
set_option maxRecDepth 100000 in
theorem tw_12 : (.arrayClass .boolean) ∈ TB := tw_f (tw_t1 (List.mem_of_getElem? (i := 57) rfl)) rfl
set_option maxRecDepth 100000 in
theorem tw_13 : (.fieldLink R_Rv 23 "WaterMen$River" "frozen" "[Z") ∈ TB := tw_f (tw_t1 (List.mem_of_getElem? (i := 37) rfl)) rfl
set_option maxRecDepth 100000 in
theorem tw_14 : (.fieldLink R_Rv 27 "WaterMen$River" "bridgeAbove" "I") ∈ TB := tw_f (tw_t1 (List.mem_of_getElem? (i := 41) rfl)) rfl
set_option maxRecDepth 100000 in
theorem tw_15 : (.code y_Rv_init b_Rv_init 1 none) ∈ TB := tw_f (tw_t1 (List.mem_of_getElem? (i := 29) rfl)) rfl
set_option maxRecDepth 100000 in
theorem tw_16 : (.instanceMethod y_Rv_init) ∈ TB := tw_f (tw_t1 (List.mem_of_getElem? (i := 28) rfl)) rfl
set_option maxRecDepth 100000 in
theorem tw_17 : (.fieldLink R_WM 12 "WaterMen" "river" "LWaterMen$River;") ∈ TB := tw_f (tw_t1 (List.mem_of_getElem? (i := 194) rfl)) rfl
set_option maxRecDepth 100000 in
theorem tw_18 : (.classLink R_WM 16 R_Mn) ∈ TB := tw_f (tw_t1 (List.mem_of_getElem? (i := 58) rfl)) rfl
set_option maxRecDepth 100000 in
theorem tw_19 : (.fieldLink R_WM 18 "WaterMen" "men" "[LWaterMen$Man;") ∈ TB := tw_f (tw_t1 (List.mem_of_getElem? (i := 195) rfl)) rfl
set_option maxRecDepth 100000 in
theorem tw_20 : (.classLink R_WM 22 R_Bt) ∈ TB := tw_f (tw_t1 (List.mem_of_getElem? (i := 60) rfl)) rfl
set_option maxRecDepth 100000 in
theorem tw_21 : (.fieldLink R_WM 24 "WaterMen" "boats" "[LWaterMen$Boat;") ∈ TB := tw_f (tw_t1 (List.mem_of_getElem? (i := 196) rfl)) rfl
set_option maxRecDepth 100000 in
theorem tw_22 : (.classLink R_WM 28 R_Or) ∈ TB := tw_f (tw_t1 (List.mem_of_getElem? (i := 62) rfl)) rfl
set_option maxRecDepth 100000 in
theorem tw_23 : (.fieldLink R_WM 30 "WaterMen" "orders" "[LWaterMen$Order;") ∈ TB := tw_f (tw_t1 (List.mem_of_getElem? (i := 197) rfl)) rfl
set_option maxRecDepth 100000 in
theorem tw_24 : (.classLink R_WM 34 R_Tr) ∈ TB := tw_f (tw_t1 (List.mem_of_getElem? (i := 64) rfl)) rfl
set_option maxRecDepth 100000 in
theorem tw_25 : (.fieldLink R_WM 36 "WaterMen" "trips" "[LWaterMen$Trip;") ∈ TB := tw_f (tw_t1 (List.mem_of_getElem? (i := 198) rfl)) rfl
set_option maxRecDepth 100000 in
theorem tw_26 : (.classLink R_WM 40 R_Tp) ∈ TB := tw_f (tw_t1 (List.mem_of_getElem? (i := 66) rfl)) rfl
set_option maxRecDepth 100000 in
theorem tw_27 : (.instantiable R_Tp 6) ∈ TB := tw_f (tw_t1 (List.mem_of_getElem? (i := 67) rfl)) rfl
set_option maxRecDepth 100000 in
theorem tw_28 : (.initialized R_Tp) ∈ TB := tw_f (tw_t1 (List.mem_of_getElem? (i := 3) rfl)) rfl
set_option maxRecDepth 100000 in
theorem tw_29 : (.methodLink R_Tp 3 objectInit) ∈ TB := tw_f (tw_t1 (List.mem_of_getElem? (i := 71) rfl)) rfl
set_option maxRecDepth 100000 in
theorem tw_30 : (.arrayClass .byte) ∈ TB := tw_f (tw_t1 (List.mem_of_getElem? (i := 92) rfl)) rfl
set_option maxRecDepth 100000 in
theorem tw_31 : (.fieldLink R_Tp 9 "WaterMen$Tape" "bytes" "[B") ∈ TB := tw_f (tw_t1 (List.mem_of_getElem? (i := 72) rfl)) rfl
set_option maxRecDepth 100000 in
theorem tw_32 : (.code y_Tp_init b_Tp_init 1 none) ∈ TB := tw_f (tw_t1 (List.mem_of_getElem? (i := 70) rfl)) rfl
set_option maxRecDepth 100000 in
theorem tw_33 : (.instanceMethod y_Tp_init) ∈ TB := tw_f (tw_t1 (List.mem_of_getElem? (i := 69) rfl)) rfl
set_option maxRecDepth 100000 in
theorem tw_34 : (.fieldLink R_WM 43 "WaterMen" "tape" "LWaterMen$Tape;") ∈ TB := tw_f (tw_t1 (List.mem_of_getElem? (i := 199) rfl)) rfl
set_option maxRecDepth 100000 in
theorem tw_35 : (.classLink R_WM 47 R_Bx) ∈ TB := tw_f (tw_t1 (List.mem_of_getElem? (i := 93) rfl)) rfl
set_option maxRecDepth 100000 in
theorem tw_36 : (.instantiable R_Bx 7) ∈ TB := tw_f (tw_t1 (List.mem_of_getElem? (i := 94) rfl)) rfl
set_option maxRecDepth 100000 in
theorem tw_37 : (.initialized R_Bx) ∈ TB := tw_f (tw_t1 (List.mem_of_getElem? (i := 4) rfl)) rfl
set_option maxRecDepth 100000 in
theorem tw_38 : (.methodLink R_Bx 3 objectInit) ∈ TB := tw_f (tw_t1 (List.mem_of_getElem? (i := 98) rfl)) rfl
set_option maxRecDepth 100000 in
theorem tw_39 : (.fieldLink R_Bx 9 "WaterMen$Box" "income" "[I") ∈ TB := tw_f (tw_t1 (List.mem_of_getElem? (i := 107) rfl)) rfl
set_option maxRecDepth 100000 in
theorem tw_40 : (.classLink R_Bx 15 R_Pn) ∈ TB := tw_f (tw_t1 (List.mem_of_getElem? (i := 99) rfl)) rfl
set_option maxRecDepth 100000 in
theorem tw_41 : (.fieldLink R_Bx 17 "WaterMen$Box" "pensioners" "[LWaterMen$Pensioner;") ∈ TB := tw_f (tw_t1 (List.mem_of_getElem? (i := 108) rfl)) rfl
set_option maxRecDepth 100000 in
theorem tw_42 : (.code y_Bx_init b_Bx_init 1 none) ∈ TB := tw_f (tw_t1 (List.mem_of_getElem? (i := 97) rfl)) rfl
set_option maxRecDepth 100000 in
theorem tw_43 : (.instanceMethod y_Bx_init) ∈ TB := tw_f (tw_t1 (List.mem_of_getElem? (i := 96) rfl)) rfl
set_option maxRecDepth 100000 in
theorem tw_44 : (.fieldLink R_WM 50 "WaterMen" "box" "LWaterMen$Box;") ∈ TB := tw_f (tw_t1 (List.mem_of_getElem? (i := 200) rfl)) rfl
set_option maxRecDepth 100000 in
theorem tw_45 : (.instantiable R_Or 9) ∈ TB := tw_f (tw_t1 (List.mem_of_getElem? (i := 126) rfl)) rfl
set_option maxRecDepth 100000 in
theorem tw_46 : (.initialized R_Or) ∈ TB := tw_f (tw_t1 (List.mem_of_getElem? (i := 5) rfl)) rfl
set_option maxRecDepth 100000 in
theorem tw_47 : (.methodLink R_Or 3 objectInit) ∈ TB := tw_f (tw_t1 (List.mem_of_getElem? (i := 130) rfl)) rfl
set_option maxRecDepth 100000 in
theorem tw_48 : (.fieldLink R_Or 9 "WaterMen$Order" "fares" "[I") ∈ TB := tw_f (tw_t1 (List.mem_of_getElem? (i := 133) rfl)) rfl
set_option maxRecDepth 100000 in
theorem tw_49 : (.fieldLink R_Or 15 "WaterMen$Order" "hours" "[I") ∈ TB := tw_f (tw_t1 (List.mem_of_getElem? (i := 134) rfl)) rfl
set_option maxRecDepth 100000 in
theorem tw_50 : (.fieldLink R_Or 20 "WaterMen$Order" "single" "[I") ∈ TB := tw_f (tw_t1 (List.mem_of_getElem? (i := 135) rfl)) rfl
set_option maxRecDepth 100000 in
theorem tw_51 : (.code y_Or_init b_Or_init 1 none) ∈ TB := tw_f (tw_t1 (List.mem_of_getElem? (i := 129) rfl)) rfl
set_option maxRecDepth 100000 in
theorem tw_52 : (.instanceMethod y_Or_init) ∈ TB := tw_f (tw_t1 (List.mem_of_getElem? (i := 128) rfl)) rfl
set_option maxRecDepth 100000 in
theorem tw_53 : (.fieldLink R_WM 55 "WaterMen" "draft" "LWaterMen$Order;") ∈ TB := tw_f (tw_t1 (List.mem_of_getElem? (i := 206) rfl)) rfl
set_option maxRecDepth 100000 in
theorem tw_54 : (.instantiable R_Mn 8) ∈ TB := tw_f (tw_t1 (List.mem_of_getElem? (i := 159) rfl)) rfl
set_option maxRecDepth 100000 in
theorem tw_55 : (.initialized R_Mn) ∈ TB := tw_f (tw_t1 (List.mem_of_getElem? (i := 6) rfl)) rfl
set_option maxRecDepth 100000 in
theorem tw_56 : (.methodLink R_Mn 3 objectInit) ∈ TB := tw_f (tw_t1 (List.mem_of_getElem? (i := 163) rfl)) rfl
set_option maxRecDepth 100000 in
theorem tw_57 : (.fieldLink R_Mn 9 "WaterMen$Man" "state" "I") ∈ TB := tw_f (tw_t1 (List.mem_of_getElem? (i := 164) rfl)) rfl
set_option maxRecDepth 100000 in
theorem tw_58 : (.fieldLink R_Mn 15 "WaterMen$Man" "turnStairs" "I") ∈ TB := tw_f (tw_t1 (List.mem_of_getElem? (i := 167) rfl)) rfl
set_option maxRecDepth 100000 in
theorem tw_59 : (.fieldLink R_Mn 18 "WaterMen$Man" "lastSunday" "I") ∈ TB := tw_f (tw_t1 (List.mem_of_getElem? (i := 175) rfl)) rfl
set_option maxRecDepth 100000 in
theorem tw_60 : (.code y_Mn_init b_Mn_init 1 none) ∈ TB := tw_f (tw_t1 (List.mem_of_getElem? (i := 162) rfl)) rfl
set_option maxRecDepth 100000 in
theorem tw_61 : (.instanceMethod y_Mn_init) ∈ TB := tw_f (tw_t1 (List.mem_of_getElem? (i := 161) rfl)) rfl
end
section
set_option maxRecDepth 100000 in
theorem d_Bx_init_0 : decode b_Bx_init 0 = .ok (.aload_n 0, 1) := by decide +kernel
set_option maxRecDepth 100000 in
theorem d_Bx_init_1 : decode b_Bx_init 1 = .ok (.invokespecial 3, 3) := by decide +kernel
set_option maxRecDepth 100000 in
theorem d_Bx_init_4 : decode b_Bx_init 4 = .ok (.aload_n 0, 1) := by decide +kernel
set_option maxRecDepth 100000 in
theorem d_Bx_init_5 : decode b_Bx_init 5 = .ok (.sipush 500, 3) := by decide +kernel
set_option maxRecDepth 100000 in
theorem d_Bx_init_8 : decode b_Bx_init 8 = .ok (.newarray .int, 2) := by decide +kernel
set_option maxRecDepth 100000 in
theorem d_Bx_init_10 : decode b_Bx_init 10 = .ok (.putfield 9, 3) := by decide +kernel
set_option maxRecDepth 100000 in
theorem d_Bx_init_13 : decode b_Bx_init 13 = .ok (.aload_n 0, 1) := by decide +kernel
set_option maxRecDepth 100000 in
theorem d_Bx_init_14 : decode b_Bx_init 14 = .ok (.bipush 30, 2) := by decide +kernel
set_option maxRecDepth 100000 in
theorem d_Bx_init_16 : decode b_Bx_init 16 = .ok (.anewarray 15, 3) := by decide +kernel
set_option maxRecDepth 100000 in
theorem d_Bx_init_19 : decode b_Bx_init 19 = .ok (.putfield 17, 3) := by decide +kernel
set_option maxRecDepth 100000 in
theorem d_Bx_init_22 : decode b_Bx_init 22 = .ok (.return_, 1) := by decide +kernel
set_option maxRecDepth 100000 in
theorem d_Mn_init_0 : decode b_Mn_init 0 = .ok (.aload_n 0, 1) := by decide +kernel
set_option maxRecDepth 100000 in
theorem d_Mn_init_1 : decode b_Mn_init 1 = .ok (.invokespecial 3, 3) := by decide +kernel
set_option maxRecDepth 100000 in
theorem d_Mn_init_4 : decode b_Mn_init 4 = .ok (.aload_n 0, 1) := by decide +kernel
set_option maxRecDepth 100000 in
theorem d_Mn_init_5 : decode b_Mn_init 5 = .ok (.iconst 0, 1) := by decide +kernel
set_option maxRecDepth 100000 in
theorem d_Mn_init_6 : decode b_Mn_init 6 = .ok (.putfield 9, 3) := by decide +kernel
set_option maxRecDepth 100000 in
theorem d_Mn_init_9 : decode b_Mn_init 9 = .ok (.aload_n 0, 1) := by decide +kernel
set_option maxRecDepth 100000 in
theorem d_Mn_init_10 : decode b_Mn_init 10 = .ok (.iconst (-1), 1) := by decide +kernel
set_option maxRecDepth 100000 in
theorem d_Mn_init_11 : decode b_Mn_init 11 = .ok (.putfield 15, 3) := by decide +kernel
set_option maxRecDepth 100000 in
theorem d_Mn_init_14 : decode b_Mn_init 14 = .ok (.aload_n 0, 1) := by decide +kernel
set_option maxRecDepth 100000 in
theorem d_Mn_init_15 : decode b_Mn_init 15 = .ok (.iconst (-1), 1) := by decide +kernel
set_option maxRecDepth 100000 in
theorem d_Mn_init_16 : decode b_Mn_init 16 = .ok (.putfield 18, 3) := by decide +kernel
set_option maxRecDepth 100000 in
theorem d_Mn_init_19 : decode b_Mn_init 19 = .ok (.return_, 1) := by decide +kernel
set_option maxRecDepth 100000 in
theorem d_Or_init_0 : decode b_Or_init 0 = .ok (.aload_n 0, 1) := by decide +kernel
set_option maxRecDepth 100000 in
theorem d_Or_init_1 : decode b_Or_init 1 = .ok (.invokespecial 3, 3) := by decide +kernel
set_option maxRecDepth 100000 in
theorem d_Or_init_4 : decode b_Or_init 4 = .ok (.aload_n 0, 1) := by decide +kernel
set_option maxRecDepth 100000 in
theorem d_Or_init_5 : decode b_Or_init 5 = .ok (.bipush 36, 2) := by decide +kernel
set_option maxRecDepth 100000 in
theorem d_Or_init_7 : decode b_Or_init 7 = .ok (.newarray .int, 2) := by decide +kernel
set_option maxRecDepth 100000 in
theorem d_Or_init_9 : decode b_Or_init 9 = .ok (.putfield 9, 3) := by decide +kernel
set_option maxRecDepth 100000 in
theorem d_Or_init_12 : decode b_Or_init 12 = .ok (.aload_n 0, 1) := by decide +kernel
set_option maxRecDepth 100000 in
theorem d_Or_init_13 : decode b_Or_init 13 = .ok (.bipush 36, 2) := by decide +kernel
set_option maxRecDepth 100000 in
theorem d_Or_init_15 : decode b_Or_init 15 = .ok (.newarray .int, 2) := by decide +kernel
set_option maxRecDepth 100000 in
theorem d_Or_init_17 : decode b_Or_init 17 = .ok (.putfield 15, 3) := by decide +kernel
set_option maxRecDepth 100000 in
theorem d_Or_init_20 : decode b_Or_init 20 = .ok (.aload_n 0, 1) := by decide +kernel
set_option maxRecDepth 100000 in
theorem d_Or_init_21 : decode b_Or_init 21 = .ok (.bipush 9, 2) := by decide +kernel
set_option maxRecDepth 100000 in
theorem d_Or_init_23 : decode b_Or_init 23 = .ok (.newarray .int, 2) := by decide +kernel
set_option maxRecDepth 100000 in
theorem d_Or_init_25 : decode b_Or_init 25 = .ok (.putfield 20, 3) := by decide +kernel
set_option maxRecDepth 100000 in
theorem d_Or_init_28 : decode b_Or_init 28 = .ok (.return_, 1) := by decide +kernel
set_option maxRecDepth 100000 in
theorem d_Rv_init_0 : decode b_Rv_init 0 = .ok (.aload_n 0, 1) := by decide +kernel
set_option maxRecDepth 100000 in
theorem d_Rv_init_1 : decode b_Rv_init 1 = .ok (.invokespecial 3, 3) := by decide +kernel
set_option maxRecDepth 100000 in
theorem d_Rv_init_4 : decode b_Rv_init 4 = .ok (.aload_n 0, 1) := by decide +kernel
set_option maxRecDepth 100000 in
theorem d_Rv_init_5 : decode b_Rv_init 5 = .ok (.bipush 12, 2) := by decide +kernel
set_option maxRecDepth 100000 in
theorem d_Rv_init_7 : decode b_Rv_init 7 = .ok (.newarray .int, 2) := by decide +kernel
set_option maxRecDepth 100000 in
theorem d_Rv_init_9 : decode b_Rv_init 9 = .ok (.putfield 9, 3) := by decide +kernel
set_option maxRecDepth 100000 in
theorem d_Rv_init_12 : decode b_Rv_init 12 = .ok (.aload_n 0, 1) := by decide +kernel
set_option maxRecDepth 100000 in
theorem d_Rv_init_13 : decode b_Rv_init 13 = .ok (.bipush 12, 2) := by decide +kernel
set_option maxRecDepth 100000 in
theorem d_Rv_init_15 : decode b_Rv_init 15 = .ok (.newarray .int, 2) := by decide +kernel
set_option maxRecDepth 100000 in
theorem d_Rv_init_17 : decode b_Rv_init 17 = .ok (.putfield 15, 3) := by decide +kernel
set_option maxRecDepth 100000 in
theorem d_Rv_init_20 : decode b_Rv_init 20 = .ok (.aload_n 0, 1) := by decide +kernel
set_option maxRecDepth 100000 in
theorem d_Rv_init_21 : decode b_Rv_init 21 = .ok (.sipush 500, 3) := by decide +kernel
set_option maxRecDepth 100000 in
theorem d_Rv_init_24 : decode b_Rv_init 24 = .ok (.anewarray 18, 3) := by decide +kernel
set_option maxRecDepth 100000 in
theorem d_Rv_init_27 : decode b_Rv_init 27 = .ok (.putfield 19, 3) := by decide +kernel
set_option maxRecDepth 100000 in
theorem d_Rv_init_30 : decode b_Rv_init 30 = .ok (.aload_n 0, 1) := by decide +kernel
set_option maxRecDepth 100000 in
theorem d_Rv_init_31 : decode b_Rv_init 31 = .ok (.sipush 500, 3) := by decide +kernel
set_option maxRecDepth 100000 in
theorem d_Rv_init_34 : decode b_Rv_init 34 = .ok (.newarray .boolean, 2) := by decide +kernel
set_option maxRecDepth 100000 in
theorem d_Rv_init_36 : decode b_Rv_init 36 = .ok (.putfield 23, 3) := by decide +kernel
set_option maxRecDepth 100000 in
theorem d_Rv_init_39 : decode b_Rv_init 39 = .ok (.aload_n 0, 1) := by decide +kernel
set_option maxRecDepth 100000 in
theorem d_Rv_init_40 : decode b_Rv_init 40 = .ok (.iconst (-1), 1) := by decide +kernel
set_option maxRecDepth 100000 in
theorem d_Rv_init_41 : decode b_Rv_init 41 = .ok (.putfield 27, 3) := by decide +kernel
set_option maxRecDepth 100000 in
theorem d_Rv_init_44 : decode b_Rv_init 44 = .ok (.return_, 1) := by decide +kernel
set_option maxRecDepth 100000 in
theorem d_Tp_init_0 : decode b_Tp_init 0 = .ok (.aload_n 0, 1) := by decide +kernel
set_option maxRecDepth 100000 in
theorem d_Tp_init_1 : decode b_Tp_init 1 = .ok (.invokespecial 3, 3) := by decide +kernel
set_option maxRecDepth 100000 in
theorem d_Tp_init_4 : decode b_Tp_init 4 = .ok (.aload_n 0, 1) := by decide +kernel
set_option maxRecDepth 100000 in
theorem d_Tp_init_5 : decode b_Tp_init 5 = .ok (.sipush 400, 3) := by decide +kernel
set_option maxRecDepth 100000 in
theorem d_Tp_init_8 : decode b_Tp_init 8 = .ok (.newarray .byte, 2) := by decide +kernel
set_option maxRecDepth 100000 in
theorem d_Tp_init_10 : decode b_Tp_init 10 = .ok (.putfield 9, 3) := by decide +kernel
set_option maxRecDepth 100000 in
theorem d_Tp_init_13 : decode b_Tp_init 13 = .ok (.return_, 1) := by decide +kernel
set_option maxRecDepth 100000 in
theorem d_WM_init_0 : decode b_WM_init 0 = .ok (.aload_n 0, 1) := by decide +kernel
set_option maxRecDepth 100000 in
theorem d_WM_init_1 : decode b_WM_init 1 = .ok (.invokespecial 3, 3) := by decide +kernel
set_option maxRecDepth 100000 in
theorem d_WM_init_4 : decode b_WM_init 4 = .ok (.aload_n 0, 1) := by decide +kernel
set_option maxRecDepth 100000 in
theorem d_WM_init_5 : decode b_WM_init 5 = .ok (.new 9, 3) := by decide +kernel
set_option maxRecDepth 100000 in
theorem d_WM_init_8 : decode b_WM_init 8 = .ok (.dup, 1) := by decide +kernel
set_option maxRecDepth 100000 in
theorem d_WM_init_9 : decode b_WM_init 9 = .ok (.invokespecial 11, 3) := by decide +kernel
set_option maxRecDepth 100000 in
theorem d_WM_init_12 : decode b_WM_init 12 = .ok (.putfield 12, 3) := by decide +kernel
set_option maxRecDepth 100000 in
theorem d_WM_init_15 : decode b_WM_init 15 = .ok (.aload_n 0, 1) := by decide +kernel
set_option maxRecDepth 100000 in
theorem d_WM_init_16 : decode b_WM_init 16 = .ok (.bipush 40, 2) := by decide +kernel
set_option maxRecDepth 100000 in
theorem d_WM_init_18 : decode b_WM_init 18 = .ok (.anewarray 16, 3) := by decide +kernel
set_option maxRecDepth 100000 in
theorem d_WM_init_21 : decode b_WM_init 21 = .ok (.putfield 18, 3) := by decide +kernel
set_option maxRecDepth 100000 in
theorem d_WM_init_24 : decode b_WM_init 24 = .ok (.aload_n 0, 1) := by decide +kernel
set_option maxRecDepth 100000 in
theorem d_WM_init_25 : decode b_WM_init 25 = .ok (.bipush 20, 2) := by decide +kernel
set_option maxRecDepth 100000 in
theorem d_WM_init_27 : decode b_WM_init 27 = .ok (.anewarray 22, 3) := by decide +kernel
set_option maxRecDepth 100000 in
theorem d_WM_init_30 : decode b_WM_init 30 = .ok (.putfield 24, 3) := by decide +kernel
set_option maxRecDepth 100000 in
theorem d_WM_init_33 : decode b_WM_init 33 = .ok (.aload_n 0, 1) := by decide +kernel
set_option maxRecDepth 100000 in
theorem d_WM_init_34 : decode b_WM_init 34 = .ok (.bipush 20, 2) := by decide +kernel
set_option maxRecDepth 100000 in
theorem d_WM_init_36 : decode b_WM_init 36 = .ok (.anewarray 28, 3) := by decide +kernel
set_option maxRecDepth 100000 in
theorem d_WM_init_39 : decode b_WM_init 39 = .ok (.putfield 30, 3) := by decide +kernel
set_option maxRecDepth 100000 in
theorem d_WM_init_42 : decode b_WM_init 42 = .ok (.aload_n 0, 1) := by decide +kernel
set_option maxRecDepth 100000 in
theorem d_WM_init_43 : decode b_WM_init 43 = .ok (.sipush 600, 3) := by decide +kernel
set_option maxRecDepth 100000 in
theorem d_WM_init_46 : decode b_WM_init 46 = .ok (.anewarray 34, 3) := by decide +kernel
set_option maxRecDepth 100000 in
theorem d_WM_init_49 : decode b_WM_init 49 = .ok (.putfield 36, 3) := by decide +kernel
set_option maxRecDepth 100000 in
theorem d_WM_init_52 : decode b_WM_init 52 = .ok (.aload_n 0, 1) := by decide +kernel
set_option maxRecDepth 100000 in
theorem d_WM_init_53 : decode b_WM_init 53 = .ok (.new 40, 3) := by decide +kernel
set_option maxRecDepth 100000 in
theorem d_WM_init_56 : decode b_WM_init 56 = .ok (.dup, 1) := by decide +kernel
set_option maxRecDepth 100000 in
theorem d_WM_init_57 : decode b_WM_init 57 = .ok (.invokespecial 42, 3) := by decide +kernel
set_option maxRecDepth 100000 in
theorem d_WM_init_60 : decode b_WM_init 60 = .ok (.putfield 43, 3) := by decide +kernel
set_option maxRecDepth 100000 in
theorem d_WM_init_63 : decode b_WM_init 63 = .ok (.aload_n 0, 1) := by decide +kernel
set_option maxRecDepth 100000 in
theorem d_WM_init_64 : decode b_WM_init 64 = .ok (.new 47, 3) := by decide +kernel
set_option maxRecDepth 100000 in
theorem d_WM_init_67 : decode b_WM_init 67 = .ok (.dup, 1) := by decide +kernel
set_option maxRecDepth 100000 in
theorem d_WM_init_68 : decode b_WM_init 68 = .ok (.invokespecial 49, 3) := by decide +kernel
set_option maxRecDepth 100000 in
theorem d_WM_init_71 : decode b_WM_init 71 = .ok (.putfield 50, 3) := by decide +kernel
set_option maxRecDepth 100000 in
theorem d_WM_init_74 : decode b_WM_init 74 = .ok (.aload_n 0, 1) := by decide +kernel
set_option maxRecDepth 100000 in
theorem d_WM_init_75 : decode b_WM_init 75 = .ok (.new 28, 3) := by decide +kernel
set_option maxRecDepth 100000 in
theorem d_WM_init_78 : decode b_WM_init 78 = .ok (.dup, 1) := by decide +kernel
set_option maxRecDepth 100000 in
theorem d_WM_init_79 : decode b_WM_init 79 = .ok (.invokespecial 54, 3) := by decide +kernel
set_option maxRecDepth 100000 in
theorem d_WM_init_82 : decode b_WM_init 82 = .ok (.putfield 55, 3) := by decide +kernel
set_option maxRecDepth 100000 in
theorem d_WM_init_85 : decode b_WM_init 85 = .ok (.iconst 0, 1) := by decide +kernel
set_option maxRecDepth 100000 in
theorem d_WM_init_86 : decode b_WM_init 86 = .ok (.istore_n 1, 1) := by decide +kernel
set_option maxRecDepth 100000 in
theorem d_WM_init_87 : decode b_WM_init 87 = .ok (.iload_n 1, 1) := by decide +kernel
set_option maxRecDepth 100000 in
theorem d_WM_init_88 : decode b_WM_init 88 = .ok (.bipush 40, 2) := by decide +kernel
set_option maxRecDepth 100000 in
theorem d_WM_init_90 : decode b_WM_init 90 = .ok (.if_icmp .ge 22, 3) := by decide +kernel
set_option maxRecDepth 100000 in
theorem d_WM_init_93 : decode b_WM_init 93 = .ok (.aload_n 0, 1) := by decide +kernel
set_option maxRecDepth 100000 in
theorem d_WM_init_94 : decode b_WM_init 94 = .ok (.getfield 18, 3) := by decide +kernel
set_option maxRecDepth 100000 in
theorem d_WM_init_97 : decode b_WM_init 97 = .ok (.iload_n 1, 1) := by decide +kernel
set_option maxRecDepth 100000 in
theorem d_WM_init_98 : decode b_WM_init 98 = .ok (.new 16, 3) := by decide +kernel
set_option maxRecDepth 100000 in
theorem d_WM_init_101 : decode b_WM_init 101 = .ok (.dup, 1) := by decide +kernel
set_option maxRecDepth 100000 in
theorem d_WM_init_102 : decode b_WM_init 102 = .ok (.invokespecial 59, 3) := by decide +kernel
set_option maxRecDepth 100000 in
theorem d_WM_init_105 : decode b_WM_init 105 = .ok (.aastore, 1) := by decide +kernel
set_option maxRecDepth 100000 in
theorem d_WM_init_106 : decode b_WM_init 106 = .ok (.iinc 1 1, 3) := by decide +kernel
set_option maxRecDepth 100000 in
theorem d_WM_init_109 : decode b_WM_init 109 = .ok (.goto (-22), 3) := by decide +kernel
set_option maxRecDepth 100000 in
theorem d_WM_init_112 : decode b_WM_init 112 = .ok (.return_, 1) := by decide +kernel
end
section
def manF : List Value := [.int 0, .null, .int (-1), .int 0, .int 0, .int 0, .int 0, .int (-1)]
def XW (a : Nat → Nat) (k : Nat → ClassId) (L : List Nat) : va_W := [((a 0), .inr (0, [.ref (a 1), .ref (a 6), .ref (a 7), .ref (a 8), .ref (a 9), .ref (a 10), .ref (a 12), .int 0, .int 0, .int 0, .int 0, .int 0, .ref (a 15)])), ((a 1), .inr (1, [.ref (a 2), .ref (a 3), .ref (a 4), .ref (a 5), .int 0, .int (-1)])), ((a 2), .inl ((k 2), 12, .inl (fun _ => 0))), ((a 3), .inl ((k 3), 12, .inl (fun _ => 0))), ((a 4), .inl ((k 4), 500, .inr (.inr (.inr (.inr (fun _ => none)))))), ((a 5), .inl ((k 5), 500, .inl (fun _ => 0))), ((a 6), .inl ((k 6), 40, .inr (.inr (.inr (.inr (fun j => L[j]?)))))), ((a 7), .inl ((k 7), 20, .inr (.inr (.inr (.inr (fun _ => none)))))), ((a 8), .inl ((k 8), 20, .inr (.inr (.inr (.inr (fun _ => none)))))), ((a 9), .inl ((k 9), 600, .inr (.inr (.inr (.inr (fun _ => none)))))), ((a 10), .inr (4, [.ref (a 11), .int 0, .int 0, .int 0, .int 0, .int 0])), ((a 11), .inl ((k 11), 400, .inl (fun _ => 0))), ((a 12), .inr (5, [.int 0, .int 0, .int 0, .int 0, .ref (a 13), .ref (a 14), .int 0])), ((a 13), .inl ((k 13), 500, .inl (fun _ => 0))), ((a 14), .inl ((k 14), 30, .inr (.inr (.inr (.inr (fun _ => none)))))), ((a 15), .inr (3, [.int 0, .int 0, .ref (a 16), .ref (a 17), .ref (a 18), .int 0, .int 0, .int 0, .int 0])), ((a 16), .inl ((k 16), 36, .inl (fun _ => 0))), ((a 17), .inl ((k 17), 36, .inl (fun _ => 0))), ((a 18), .inl ((k 18), 9, .inl (fun _ => 0)))] ++ va_pl L (fun _ => .inr (2, manF))
def XT (k : Nat → ClassId) : List (ClassId × FieldType) := [((k 2), .int), ((k 3), .int), ((k 4), .array .int), ((k 5), .boolean), ((k 6), .object R_Mn), ((k 7), .object R_Bt), ((k 8), .object R_Or), ((k 9), .object R_Tr), ((k 11), .byte), ((k 13), .int), ((k 14), .object R_Pn), ((k 16), .int), ((k 17), .int), ((k 18), .int)]
def MW (a : Nat → Nat) (k : Nat → ClassId) : va_W := [((a 0), .inr (7, [.int 0, .int 0, .int 0, .ref (a 1), .int (-1), .ref (a 2), .ref (a 3), .ref (a 4), .ref (a 5), .ref (a 6), .ref (a 7), .ref (a 8), .ref (a 9), .ref (a 10), .ref (a 11), .ref (a 12), .ref (a 13), .ref (a 14), .ref (a 15), .ref (a 16), .ref (a 17), .int 0, .ref (a 18), .ref (a 19), .ref (a 20), .ref (a 21), .ref (a 22), .ref (a 23), .int 0, .int 0, .ref (a 24), .ref (a 25), .ref (a 26), .ref (a 27), .ref (a 28), .ref (a 29), .ref (a 30), .ref (a 31), .ref (a 32), .ref (a 33), .ref (a 34), .ref (a 35), .int 0, .int 0, .int 0, .int 0, .int 0, .int 0, .ref (a 36), .ref (a 37), .ref (a 38), .ref (a 39), .ref (a 40), .ref (a 41), .ref (a 42), .ref (a 43), .long 0, .long 0, .long 0, .ref (a 44), .int 0, .ref (a 45), .ref (a 46), .ref (a 47)])), ((a 1), .inl ((k 1), 12, .inl (fun _ => 0))), ((a 2), .inl ((k 2), 12, .inl (fun _ => 0))), ((a 3), .inl ((k 3), 500, .inl (fun _ => 0))), ((a 4), .inl ((k 4), 6000, .inl (fun _ => 0))), ((a 5), .inl ((k 5), 500, .inl (fun _ => 0))), ((a 6), .inl ((k 6), 40, .inl (fun _ => 0))), ((a 7), .inl ((k 7), 40, .inl (fun _ => (-1)))), ((a 8), .inl ((k 8), 40, .inl (fun _ => 0))), ((a 9), .inl ((k 9), 40, .inl (fun _ => 0))), ((a 10), .inl ((k 10), 240, .inl (fun _ => 0))), ((a 11), .inl ((k 11), 240, .inl (fun _ => 0))), ((a 12), .inl ((k 12), 40, .inl (fun _ => 0))), ((a 13), .inl ((k 13), 40, .inl (fun _ => (-1)))), ((a 14), .inl ((k 14), 40, .inl (fun _ => 0))), ((a 15), .inl ((k 15), 40, .inl (fun _ => 0))), ((a 16), .inl ((k 16), 12, .inl (fun _ => 0))), ((a 17), .inl ((k 17), 480, .inl (fun _ => 0))), ((a 18), .inl ((k 18), 20, .inl (fun _ => 0))), ((a 19), .inl ((k 19), 20, .inl (fun _ => 0))), ((a 20), .inl ((k 20), 20, .inl (fun _ => 0))), ((a 21), .inl ((k 21), 20, .inl (fun _ => 0))), ((a 22), .inl ((k 22), 20, .inl (fun _ => 0))), ((a 23), .inl ((k 23), 400, .inl (fun _ => 0))), ((a 24), .inl ((k 24), 20, .inl (fun _ => 0))), ((a 25), .inl ((k 25), 20, .inl (fun _ => 0))), ((a 26), .inl ((k 26), 20, .inl (fun _ => 0))), ((a 27), .inl ((k 27), 240, .inl (fun _ => 0))), ((a 28), .inl ((k 28), 240, .inl (fun _ => 0))), ((a 29), .inl ((k 29), 240, .inl (fun _ => 0))), ((a 30), .inl ((k 30), 20, .inl (fun _ => 0))), ((a 31), .inl ((k 31), 240, .inl (fun _ => 0))), ((a 32), .inl ((k 32), 240, .inl (fun _ => 0))), ((a 33), .inl ((k 33), 240, .inl (fun _ => 0))), ((a 34), .inl ((k 34), 180, .inl (fun _ => 0))), ((a 35), .inl ((k 35), 20, .inl (fun _ => 0))), ((a 36), .inl ((k 36), 600, .inl (fun _ => 0))), ((a 37), .inl ((k 37), 600, .inl (fun _ => 0))), ((a 38), .inl ((k 38), 600, .inl (fun _ => 0))), ((a 39), .inl ((k 39), 600, .inl (fun _ => 0))), ((a 40), .inl ((k 40), 600, .inl (fun _ => 0))), ((a 41), .inl ((k 41), 600, .inl (fun _ => 0))), ((a 42), .inl ((k 42), 600, .inl (fun _ => 0))), ((a 43), .inl ((k 43), 600, .inl (fun _ => 0))), ((a 44), .inl ((k 44), 500, .inr (.inl (fun _ => 0)))), ((a 45), .inl ((k 45), 30, .inl (fun _ => 0))), ((a 46), .inl ((k 46), 30, .inl (fun _ => 0))), ((a 47), .inl ((k 47), 30, .inl (fun _ => 0)))]
def MT (k : Nat → ClassId) : List (ClassId × FieldType) := [((k 1), .int), ((k 2), .int), ((k 3), .boolean), ((k 4), .int), ((k 5), .boolean), ((k 6), .int), ((k 7), .int), ((k 8), .int), ((k 9), .int), ((k 10), .int), ((k 11), .int), ((k 12), .int), ((k 13), .int), ((k 14), .int), ((k 15), .boolean), ((k 16), .int), ((k 17), .int), ((k 18), .int), ((k 19), .int), ((k 20), .int), ((k 21), .int), ((k 22), .boolean), ((k 23), .byte), ((k 24), .int), ((k 25), .int), ((k 26), .int), ((k 27), .int), ((k 28), .int), ((k 29), .int), ((k 30), .int), ((k 31), .int), ((k 32), .int), ((k 33), .int), ((k 34), .int), ((k 35), .int), ((k 36), .int), ((k 37), .int), ((k 38), .int), ((k 39), .int), ((k 40), .int), ((k 41), .int), ((k 42), .int), ((k 43), .boolean), ((k 44), .long), ((k 45), .int), ((k 46), .int), ((k 47), .int)]
theorem xw_man {a : Nat → Nat} {k : Nat → ClassId} {L : List Nat} (hL : L.length = 40) {i : Int32} (h : vp_in i 40) : ∃ (q kx : Nat), L[i.toNatClampNeg]? = some q ∧ (XW a k L)[kx]? = some (q, .inr (2, manF)) := by
  have hlt : i.toNatClampNeg < L.length := by rw [hL]; exact Nat.not_le.mp fun q => h (Or.inr q)
  obtain ⟨kx, hk⟩ := va_pl_get (X := [((a 0), .inr (0, [.ref (a 1), .ref (a 6), .ref (a 7), .ref (a 8), .ref (a 9), .ref (a 10), .ref (a 12), .int 0, .int 0, .int 0, .int 0, .int 0, .ref (a 15)])), ((a 1), .inr (1, [.ref (a 2), .ref (a 3), .ref (a 4), .ref (a 5), .int 0, .int (-1)])), ((a 2), .inl ((k 2), 12, .inl (fun _ => 0))), ((a 3), .inl ((k 3), 12, .inl (fun _ => 0))), ((a 4), .inl ((k 4), 500, .inr (.inr (.inr (.inr (fun _ => none)))))), ((a 5), .inl ((k 5), 500, .inl (fun _ => 0))), ((a 6), .inl ((k 6), 40, .inr (.inr (.inr (.inr (fun j => L[j]?)))))), ((a 7), .inl ((k 7), 20, .inr (.inr (.inr (.inr (fun _ => none)))))), ((a 8), .inl ((k 8), 20, .inr (.inr (.inr (.inr (fun _ => none)))))), ((a 9), .inl ((k 9), 600, .inr (.inr (.inr (.inr (fun _ => none)))))), ((a 10), .inr (4, [.ref (a 11), .int 0, .int 0, .int 0, .int 0, .int 0])), ((a 11), .inl ((k 11), 400, .inl (fun _ => 0))), ((a 12), .inr (5, [.int 0, .int 0, .int 0, .int 0, .ref (a 13), .ref (a 14), .int 0])), ((a 13), .inl ((k 13), 500, .inl (fun _ => 0))), ((a 14), .inl ((k 14), 30, .inr (.inr (.inr (.inr (fun _ => none)))))), ((a 15), .inr (3, [.int 0, .int 0, .ref (a 16), .ref (a 17), .ref (a 18), .int 0, .int 0, .int 0, .int 0])), ((a 16), .inl ((k 16), 36, .inl (fun _ => 0))), ((a 17), .inl ((k 17), 36, .inl (fun _ => 0))), ((a 18), .inl ((k 18), 9, .inl (fun _ => 0)))]) (f := fun _ => .inr (2, manF)) (List.getElem_mem hlt)
  exact ⟨_, kx, List.getElem?_eq_getElem hlt, hk⟩
end
section
set_option maxHeartbeats 4000000 in
set_option maxRecDepth 100000 in
theorem c_Rv_init_c0 (l : Launch) (dC : Nat → ClassId) (dI : Nat → Nat → Nat) (h_0 : Nat) (sz : Nat)   : Met l y_Rv_init (.code y_Rv_init b_Rv_init 1 none :: TB) ({ frames := 1, cells := 4, slots := 1024, locals := 12 }) (va_Pc [.ref h_0] (PC dC dI [(h_0, .inr (1, [.null, .null, .null, .null, .int 0, .int 0]))] [] sz)) (va_Qv (fun (_ : Unit) => True) (fun (_ : Unit) t => ∃ (q_1 q_3 q_5 q_7 : Nat) (k_2 k_4 k_6 k_8 : ClassId) , va_P (dC, dI) vwCl [(h_0, .inr (1, [.ref q_1, .ref q_3, .ref q_5, .ref q_7, .int 0, .int (-1)])), (q_1, .inl (k_2, 12, .inl (fun _ => 0))), (q_3, .inl (k_4, 12, .inl (fun _ => 0))), (q_5, .inl (k_6, 500, .inr (.inr (.inr (.inr (fun _ => none)))))), (q_7, .inl (k_8, 500, .inl (fun _ => 0)))] t.heap ∧ va_K (dC, dI) vwCl [(k_2, .int), (k_4, .int), (k_6, .array .int), (k_8, .boolean)] t ∧ va_D (va_A [(h_0, .inr (1, [.null, .null, .null, .null, .int 0, .int 0]))] sz) [(h_0, .inr (1, [.ref q_1, .ref q_3, .ref q_5, .ref q_7, .int 0, .int (-1)])), (q_1, .inl (k_2, 12, .inl (fun _ => 0))), (q_3, .inl (k_4, 12, .inl (fun _ => 0))), (q_5, .inl (k_6, 500, .inr (.inr (.inr (.inr (fun _ => none)))))), (q_7, .inl (k_8, 500, .inl (fun _ => 0)))]) (va_A [(h_0, .inr (1, [.null, .null, .null, .null, .int 0, .int 0]))] sz)) 4 1024 (va_A [(h_0, .inr (1, [.null, .null, .null, .null, .int 0, .int 0]))] sz) := by
  refine Met.ofW (cc := b_Rv_init) (maxL := 1) (ret := none) (by decide) rfl ?_
  intro p e s m args below meth c s₁ B hml hv
  obtain ⟨rfl, hsz, hP, hK, hD0, hN⟩ := hv
  have hx := B.exec
  have hb := B.bytes
  have hr := B.returns
  have hts := atoms_spec (ws := (.code y_Rv_init b_Rv_init 1 none :: TB)) B.pre
  have htb := fun w (h : w ∈ TB) => hts w (List.mem_cons_of_mem _ h)
  have hown : s.vm.findClass R_Rv = some m.cls := findClass_of_methodNamed B.named
  have hlocks := B.notSynchronized
  have hin : meth.name = "<init>" := (name_of_methodNamed B.named B.method).1
  have hl := lv_entry ([.ref h_0]) (n := 1) (Nat.le_of_ble_eq_true rfl)
  rw [lg_entry_eq]
  generalize (lg_sl ([.ref h_0]) ++ List.replicate (1 - (lg_sl ([.ref h_0])).length) Slot.unset).toArray = ls at hl ⊢
  have hl : lv_has ls 1 [(0, .ref h_0)] := hl
  subst hsz
  have hD := hD0.self (sz := s.heap.size)
  obtain ⟨A, hAe⟩ : ∃ A, va_A [(h_0, .inr (1, [.null, .null, .null, .null, .int 0, .int 0]))] s.heap.size = A := ⟨_, rfl⟩
  rw [hAe] at hD
  have hA : ∀ q : Nat, s.heap.size ≤ q → A q := fun q h => by rw [← hAe]; exact Or.inr h
  have hS : va_S A s.heap s.heap [] := va_S.rf
  have hP := hP
  refine lv_aload_n hx hb d_Rv_init_0 rfl (lv_at hl 0 rfl) ?_
  refine W.objInit hx hb hown (htb (.methodLink R_Rv 3 objectInit) tw_6) (htb (.instanceMethod objectInit) tw_1) (htb (.code objectInit ⟨#[0xb1]⟩ 1 none) tw_2) rfl (by rw [hml]; exact hl.1) rfl d_Rv_init_1 (Nat.le_of_ble_eq_true rfl) (Nat.le_of_ble_eq_true rfl) ?_
  refine W.eq (g2 := F0 m 4 ls []) rfl ?_
  refine lv_aload_n hx hb d_Rv_init_4 rfl (lv_at hl 0 rfl) ?_
  refine lv_bipush (v := 12) hx hb d_Rv_init_5 (by decide +kernel) ?_
  refine va_newa (atype := .int) (ty := .int) (N' := 12) (a0 := (12, .inl (fun _ => 0))) hx hb (htb (.arrayClass .int) tw_7) rfl hK hP hD hS hA (fun _ => rfl) (by decide +kernel) (by decide +kernel) (by decide +kernel) (Nat.le_of_ble_eq_true rfl) (Nat.le_of_ble_eq_true rfl) d_Rv_init_7 (fun q_1 k_2 H hK hP hD hS => ?_)
  have hP : va_P (dC, dI) vwCl [(h_0, .inr (1, [.null, .null, .null, .null, .int 0, .int 0])), (q_1, .inl (k_2, 12, .inl (fun _ => 0)))] H := hP
  have hD : va_D A [(h_0, .inr (1, [.null, .null, .null, .null, .int 0, .int 0])), (q_1, .inl (k_2, 12, .inl (fun _ => 0)))] := hD
  refine va_putF (D := (dC, dI)) (ci := 1) (v := .ref q_1) (ty := .array (.int)) (C := R_Rv) (T := F_Rv) (N := 6) hx hb htb i_Rv t_Rv t_Rv_ok n_Rv hown hK hP hD hS 0 rfl rfl 0 (by decide) (htb (.fieldLink R_Rv 9 "WaterMen$River" "milesUp" "[I") tw_8) (fun _ h9 => h9) rfl hin rfl (by decide +kernel) rfl rfl (Nat.le_of_ble_eq_true rfl) d_Rv_init_9 (fun H locs hP hD hS => ?_)
  have hP : va_P (dC, dI) vwCl [(h_0, .inr (1, [.ref q_1, .null, .null, .null, .int 0, .int 0])), (q_1, .inl (k_2, 12, .inl (fun _ => 0)))] H := hP
  have hD : va_D A [(h_0, .inr (1, [.ref q_1, .null, .null, .null, .int 0, .int 0])), (q_1, .inl (k_2, 12, .inl (fun _ => 0)))] := hD
  refine lv_aload_n hx hb d_Rv_init_12 rfl (lv_at hl 0 rfl) ?_
  refine lv_bipush (v := 12) hx hb d_Rv_init_13 (by decide +kernel) ?_
  refine va_newa (atype := .int) (ty := .int) (N' := 12) (a0 := (12, .inl (fun _ => 0))) hx hb (htb (.arrayClass .int) tw_7) rfl hK hP hD hS hA (fun _ => rfl) (by decide +kernel) (by decide +kernel) (by decide +kernel) (Nat.le_of_ble_eq_true rfl) (Nat.le_of_ble_eq_true rfl) d_Rv_init_15 (fun q_3 k_4 H hK hP hD hS => ?_)
  have hP : va_P (dC, dI) vwCl [(h_0, .inr (1, [.ref q_1, .null, .null, .null, .int 0, .int 0])), (q_1, .inl (k_2, 12, .inl (fun _ => 0))), (q_3, .inl (k_4, 12, .inl (fun _ => 0)))] H := hP
  have hD : va_D A [(h_0, .inr (1, [.ref q_1, .null, .null, .null, .int 0, .int 0])), (q_1, .inl (k_2, 12, .inl (fun _ => 0))), (q_3, .inl (k_4, 12, .inl (fun _ => 0)))] := hD
  refine va_putF (D := (dC, dI)) (ci := 1) (v := .ref q_3) (ty := .array (.int)) (C := R_Rv) (T := F_Rv) (N := 6) hx hb htb i_Rv t_Rv t_Rv_ok n_Rv hown hK hP hD hS 0 rfl rfl 1 (by decide) (htb (.fieldLink R_Rv 15 "WaterMen$River" "table" "[I") tw_9) (fun _ h9 => h9) rfl hin rfl (by decide +kernel) rfl rfl (Nat.le_of_ble_eq_true rfl) d_Rv_init_17 (fun H locs hP hD hS => ?_)
  have hP : va_P (dC, dI) vwCl [(h_0, .inr (1, [.ref q_1, .ref q_3, .null, .null, .int 0, .int 0])), (q_1, .inl (k_2, 12, .inl (fun _ => 0))), (q_3, .inl (k_4, 12, .inl (fun _ => 0)))] H := hP
  have hD : va_D A [(h_0, .inr (1, [.ref q_1, .ref q_3, .null, .null, .int 0, .int 0])), (q_1, .inl (k_2, 12, .inl (fun _ => 0))), (q_3, .inl (k_4, 12, .inl (fun _ => 0)))] := hD
  refine lv_aload_n hx hb d_Rv_init_20 rfl (lv_at hl 0 rfl) ?_
  refine lv_sipush (v := 500) hx hb d_Rv_init_21 (by decide +kernel) ?_
  refine va_newA (t := .int) (N' := 500) hx hb hown (htb (.classLink R_Rv 18 "[I") tw_10) (over_moved (Vm.Alike.refl s.vm) hN.2.2) hK hP hD hS hA (by decide +kernel) (by decide +kernel) (by decide +kernel) (Nat.le_of_ble_eq_true rfl) (Nat.le_of_ble_eq_true rfl) d_Rv_init_24 (fun q_5 k_6 H hK hP hD hS => ?_)
  have hP : va_P (dC, dI) vwCl [(h_0, .inr (1, [.ref q_1, .ref q_3, .null, .null, .int 0, .int 0])), (q_1, .inl (k_2, 12, .inl (fun _ => 0))), (q_3, .inl (k_4, 12, .inl (fun _ => 0))), (q_5, .inl (k_6, 500, .inr (.inr (.inr (.inr (fun _ => none))))))] H := hP
  have hD : va_D A [(h_0, .inr (1, [.ref q_1, .ref q_3, .null, .null, .int 0, .int 0])), (q_1, .inl (k_2, 12, .inl (fun _ => 0))), (q_3, .inl (k_4, 12, .inl (fun _ => 0))), (q_5, .inl (k_6, 500, .inr (.inr (.inr (.inr (fun _ => none))))))] := hD
  refine va_putF (D := (dC, dI)) (ci := 1) (v := .ref q_5) (ty := .array (.array (.int))) (C := R_Rv) (T := F_Rv) (N := 6) hx hb htb i_Rv t_Rv t_Rv_ok n_Rv hown hK hP hD hS 0 rfl rfl 2 (by decide) (htb (.fieldLink R_Rv 19 "WaterMen$River" "rows" "[[I") tw_11) (fun _ h9 => h9) rfl hin rfl (by decide +kernel) rfl rfl (Nat.le_of_ble_eq_true rfl) d_Rv_init_27 (fun H locs hP hD hS => ?_)
  have hP : va_P (dC, dI) vwCl [(h_0, .inr (1, [.ref q_1, .ref q_3, .ref q_5, .null, .int 0, .int 0])), (q_1, .inl (k_2, 12, .inl (fun _ => 0))), (q_3, .inl (k_4, 12, .inl (fun _ => 0))), (q_5, .inl (k_6, 500, .inr (.inr (.inr (.inr (fun _ => none))))))] H := hP
  have hD : va_D A [(h_0, .inr (1, [.ref q_1, .ref q_3, .ref q_5, .null, .int 0, .int 0])), (q_1, .inl (k_2, 12, .inl (fun _ => 0))), (q_3, .inl (k_4, 12, .inl (fun _ => 0))), (q_5, .inl (k_6, 500, .inr (.inr (.inr (.inr (fun _ => none))))))] := hD
  refine lv_aload_n hx hb d_Rv_init_30 rfl (lv_at hl 0 rfl) ?_
  refine lv_sipush (v := 500) hx hb d_Rv_init_31 (by decide +kernel) ?_
  refine va_newa (atype := .boolean) (ty := .boolean) (N' := 500) (a0 := (500, .inl (fun _ => 0))) hx hb (htb (.arrayClass .boolean) tw_12) rfl hK hP hD hS hA (fun _ => rfl) (by decide +kernel) (by decide +kernel) (by decide +kernel) (Nat.le_of_ble_eq_true rfl) (Nat.le_of_ble_eq_true rfl) d_Rv_init_34 (fun q_7 k_8 H hK hP hD hS => ?_)
  have hP : va_P (dC, dI) vwCl [(h_0, .inr (1, [.ref q_1, .ref q_3, .ref q_5, .null, .int 0, .int 0])), (q_1, .inl (k_2, 12, .inl (fun _ => 0))), (q_3, .inl (k_4, 12, .inl (fun _ => 0))), (q_5, .inl (k_6, 500, .inr (.inr (.inr (.inr (fun _ => none)))))), (q_7, .inl (k_8, 500, .inl (fun _ => 0)))] H := hP
  have hD : va_D A [(h_0, .inr (1, [.ref q_1, .ref q_3, .ref q_5, .null, .int 0, .int 0])), (q_1, .inl (k_2, 12, .inl (fun _ => 0))), (q_3, .inl (k_4, 12, .inl (fun _ => 0))), (q_5, .inl (k_6, 500, .inr (.inr (.inr (.inr (fun _ => none)))))), (q_7, .inl (k_8, 500, .inl (fun _ => 0)))] := hD
  refine va_putF (D := (dC, dI)) (ci := 1) (v := .ref q_7) (ty := .array (.boolean)) (C := R_Rv) (T := F_Rv) (N := 6) hx hb htb i_Rv t_Rv t_Rv_ok n_Rv hown hK hP hD hS 0 rfl rfl 3 (by decide) (htb (.fieldLink R_Rv 23 "WaterMen$River" "frozen" "[Z") tw_13) (fun _ h9 => h9) rfl hin rfl (by decide +kernel) rfl rfl (Nat.le_of_ble_eq_true rfl) d_Rv_init_36 (fun H locs hP hD hS => ?_)
  have hP : va_P (dC, dI) vwCl [(h_0, .inr (1, [.ref q_1, .ref q_3, .ref q_5, .ref q_7, .int 0, .int 0])), (q_1, .inl (k_2, 12, .inl (fun _ => 0))), (q_3, .inl (k_4, 12, .inl (fun _ => 0))), (q_5, .inl (k_6, 500, .inr (.inr (.inr (.inr (fun _ => none)))))), (q_7, .inl (k_8, 500, .inl (fun _ => 0)))] H := hP
  have hD : va_D A [(h_0, .inr (1, [.ref q_1, .ref q_3, .ref q_5, .ref q_7, .int 0, .int 0])), (q_1, .inl (k_2, 12, .inl (fun _ => 0))), (q_3, .inl (k_4, 12, .inl (fun _ => 0))), (q_5, .inl (k_6, 500, .inr (.inr (.inr (.inr (fun _ => none)))))), (q_7, .inl (k_8, 500, .inl (fun _ => 0)))] := hD
  refine lv_aload_n hx hb d_Rv_init_39 rfl (lv_at hl 0 rfl) ?_
  refine lv_iconst (v := (-1)) hx hb d_Rv_init_40 (by decide +kernel) ?_
  refine va_put (D := (dC, dI)) (ci := 1) (v := .int (-1)) (ty := .int) (C := R_Rv) (T := F_Rv) (N := 6) hx hb htb i_Rv t_Rv t_Rv_ok n_Rv hown hK hP hD hS 0 rfl rfl 5 (by decide) (htb (.fieldLink R_Rv 27 "WaterMen$River" "bridgeAbove" "I") tw_14) (fun _ h9 => h9) rfl (by decide +kernel) rfl rfl (Nat.le_of_ble_eq_true rfl) d_Rv_init_41 (fun H locs hP hD hS => ?_)
  have hP : va_P (dC, dI) vwCl [(h_0, .inr (1, [.ref q_1, .ref q_3, .ref q_5, .ref q_7, .int 0, .int (-1)])), (q_1, .inl (k_2, 12, .inl (fun _ => 0))), (q_3, .inl (k_4, 12, .inl (fun _ => 0))), (q_5, .inl (k_6, 500, .inr (.inr (.inr (.inr (fun _ => none)))))), (q_7, .inl (k_8, 500, .inl (fun _ => 0)))] H := hP
  have hD : va_D A [(h_0, .inr (1, [.ref q_1, .ref q_3, .ref q_5, .ref q_7, .int 0, .int (-1)])), (q_1, .inl (k_2, 12, .inl (fun _ => 0))), (q_3, .inl (k_4, 12, .inl (fun _ => 0))), (q_5, .inl (k_6, 500, .inr (.inr (.inr (.inr (fun _ => none)))))), (q_7, .inl (k_8, 500, .inl (fun _ => 0)))] := hD
  refine W.widen (k := 4) (n := 1024) (Nat.le_of_ble_eq_true rfl) (Nat.le_of_ble_eq_true rfl) ?_
  exact W.vret hx hb hr (fun t ht hW => ⟨⟨(), rfl, trivial, q_1, q_3, q_5, q_7, k_2, k_4, k_6, k_8, by rw [ht]; exact hP, va_K.moved hW.alike hK, by rw [hAe]; exact hD⟩, by rw [hAe]; exact hS.F ht⟩) (by rw [hAe]; exact hS.2.2) d_Rv_init_44
set_option maxHeartbeats 4000000 in
set_option maxRecDepth 100000 in
theorem c_Tp_init_c1 (l : Launch) (dC : Nat → ClassId) (dI : Nat → Nat → Nat) (h_0 : Nat) (sz : Nat)   : Met l y_Tp_init (.code y_Tp_init b_Tp_init 1 none :: TB) ({ frames := 1, cells := 1, slots := 400, locals := 12 }) (va_Pc [.ref h_0] (PC dC dI [(h_0, .inr (4, [.null, .int 0, .int 0, .int 0, .int 0, .int 0]))] [] sz)) (va_Qv (fun (_ : Unit) => True) (fun (_ : Unit) t => ∃ (q_1 : Nat) (k_2 : ClassId) , va_P (dC, dI) vwCl [(h_0, .inr (4, [.ref q_1, .int 0, .int 0, .int 0, .int 0, .int 0])), (q_1, .inl (k_2, 400, .inl (fun _ => 0)))] t.heap ∧ va_K (dC, dI) vwCl [(k_2, .byte)] t ∧ va_D (va_A [(h_0, .inr (4, [.null, .int 0, .int 0, .int 0, .int 0, .int 0]))] sz) [(h_0, .inr (4, [.ref q_1, .int 0, .int 0, .int 0, .int 0, .int 0])), (q_1, .inl (k_2, 400, .inl (fun _ => 0)))]) (va_A [(h_0, .inr (4, [.null, .int 0, .int 0, .int 0, .int 0, .int 0]))] sz)) 1 400 (va_A [(h_0, .inr (4, [.null, .int 0, .int 0, .int 0, .int 0, .int 0]))] sz) := by
  refine Met.ofW (cc := b_Tp_init) (maxL := 1) (ret := none) (by decide) rfl ?_
  intro p e s m args below meth c s₁ B hml hv
  obtain ⟨rfl, hsz, hP, hK, hD0, hN⟩ := hv
  have hx := B.exec
  have hb := B.bytes
  have hr := B.returns
  have hts := atoms_spec (ws := (.code y_Tp_init b_Tp_init 1 none :: TB)) B.pre
  have htb := fun w (h : w ∈ TB) => hts w (List.mem_cons_of_mem _ h)
  have hown : s.vm.findClass R_Tp = some m.cls := findClass_of_methodNamed B.named
  have hlocks := B.notSynchronized
  have hin : meth.name = "<init>" := (name_of_methodNamed B.named B.method).1
  have hl := lv_entry ([.ref h_0]) (n := 1) (Nat.le_of_ble_eq_true rfl)
  rw [lg_entry_eq]
  generalize (lg_sl ([.ref h_0]) ++ List.replicate (1 - (lg_sl ([.ref h_0])).length) Slot.unset).toArray = ls at hl ⊢
  have hl : lv_has ls 1 [(0, .ref h_0)] := hl
  subst hsz
  have hD := hD0.self (sz := s.heap.size)
  obtain ⟨A, hAe⟩ : ∃ A, va_A [(h_0, .inr (4, [.null, .int 0, .int 0, .int 0, .int 0, .int 0]))] s.heap.size = A := ⟨_, rfl⟩
  rw [hAe] at hD
  have hA : ∀ q : Nat, s.heap.size ≤ q → A q := fun q h => by rw [← hAe]; exact Or.inr h
  have hS : va_S A s.heap s.heap [] := va_S.rf
  have hP := hP
  refine lv_aload_n hx hb d_Tp_init_0 rfl (lv_at hl 0 rfl) ?_
  refine W.objInit hx hb hown (htb (.methodLink R_Tp 3 objectInit) tw_29) (htb (.instanceMethod objectInit) tw_1) (htb (.code objectInit ⟨#[0xb1]⟩ 1 none) tw_2) rfl (by rw [hml]; exact hl.1) rfl d_Tp_init_1 (Nat.le_of_ble_eq_true rfl) (Nat.le_of_ble_eq_true rfl) ?_
  refine W.eq (g2 := F0 m 4 ls []) rfl ?_
  refine lv_aload_n hx hb d_Tp_init_4 rfl (lv_at hl 0 rfl) ?_
  refine lv_sipush (v := 400) hx hb d_Tp_init_5 (by decide +kernel) ?_
  refine va_newa (atype := .byte) (ty := .byte) (N' := 400) (a0 := (400, .inl (fun _ => 0))) hx hb (htb (.arrayClass .byte) tw_30) rfl hK hP hD hS hA (fun _ => rfl) (by decide +kernel) (by decide +kernel) (by decide +kernel) (Nat.le_of_ble_eq_true rfl) (Nat.le_of_ble_eq_true rfl) d_Tp_init_8 (fun q_1 k_2 H hK hP hD hS => ?_)
  have hP : va_P (dC, dI) vwCl [(h_0, .inr (4, [.null, .int 0, .int 0, .int 0, .int 0, .int 0])), (q_1, .inl (k_2, 400, .inl (fun _ => 0)))] H := hP
  have hD : va_D A [(h_0, .inr (4, [.null, .int 0, .int 0, .int 0, .int 0, .int 0])), (q_1, .inl (k_2, 400, .inl (fun _ => 0)))] := hD
  refine va_putF (D := (dC, dI)) (ci := 4) (v := .ref q_1) (ty := .array (.byte)) (C := R_Tp) (T := F_Tp) (N := 6) hx hb htb i_Tp t_Tp t_Tp_ok n_Tp hown hK hP hD hS 0 rfl rfl 0 (by decide) (htb (.fieldLink R_Tp 9 "WaterMen$Tape" "bytes" "[B") tw_31) (fun _ h9 => h9) rfl hin rfl (by decide +kernel) rfl rfl (Nat.le_of_ble_eq_true rfl) d_Tp_init_10 (fun H locs hP hD hS => ?_)
  have hP : va_P (dC, dI) vwCl [(h_0, .inr (4, [.ref q_1, .int 0, .int 0, .int 0, .int 0, .int 0])), (q_1, .inl (k_2, 400, .inl (fun _ => 0)))] H := hP
  have hD : va_D A [(h_0, .inr (4, [.ref q_1, .int 0, .int 0, .int 0, .int 0, .int 0])), (q_1, .inl (k_2, 400, .inl (fun _ => 0)))] := hD
  refine W.widen (k := 1) (n := 400) (Nat.le_of_ble_eq_true rfl) (Nat.le_of_ble_eq_true rfl) ?_
  exact W.vret hx hb hr (fun t ht hW => ⟨⟨(), rfl, trivial, q_1, k_2, by rw [ht]; exact hP, va_K.moved hW.alike hK, by rw [hAe]; exact hD⟩, by rw [hAe]; exact hS.F ht⟩) (by rw [hAe]; exact hS.2.2) d_Tp_init_13
set_option maxHeartbeats 4000000 in
set_option maxRecDepth 100000 in
theorem c_Bx_init_c2 (l : Launch) (dC : Nat → ClassId) (dI : Nat → Nat → Nat) (h_0 : Nat) (sz : Nat)   : Met l y_Bx_init (.code y_Bx_init b_Bx_init 1 none :: TB) ({ frames := 1, cells := 2, slots := 530, locals := 12 }) (va_Pc [.ref h_0] (PC dC dI [(h_0, .inr (5, [.int 0, .int 0, .int 0, .int 0, .null, .null, .int 0]))] [] sz)) (va_Qv (fun (_ : Unit) => True) (fun (_ : Unit) t => ∃ (q_1 q_3 : Nat) (k_2 k_4 : ClassId) , va_P (dC, dI) vwCl [(h_0, .inr (5, [.int 0, .int 0, .int 0, .int 0, .ref q_1, .ref q_3, .int 0])), (q_1, .inl (k_2, 500, .inl (fun _ => 0))), (q_3, .inl (k_4, 30, .inr (.inr (.inr (.inr (fun _ => none))))))] t.heap ∧ va_K (dC, dI) vwCl [(k_2, .int), (k_4, .object R_Pn)] t ∧ va_D (va_A [(h_0, .inr (5, [.int 0, .int 0, .int 0, .int 0, .null, .null, .int 0]))] sz) [(h_0, .inr (5, [.int 0, .int 0, .int 0, .int 0, .ref q_1, .ref q_3, .int 0])), (q_1, .inl (k_2, 500, .inl (fun _ => 0))), (q_3, .inl (k_4, 30, .inr (.inr (.inr (.inr (fun _ => none))))))]) (va_A [(h_0, .inr (5, [.int 0, .int 0, .int 0, .int 0, .null, .null, .int 0]))] sz)) 2 530 (va_A [(h_0, .inr (5, [.int 0, .int 0, .int 0, .int 0, .null, .null, .int 0]))] sz) := by
  refine Met.ofW (cc := b_Bx_init) (maxL := 1) (ret := none) (by decide) rfl ?_
  intro p e s m args below meth c s₁ B hml hv
  obtain ⟨rfl, hsz, hP, hK, hD0, hN⟩ := hv
  have hx := B.exec
  have hb := B.bytes
  have hr := B.returns
  have hts := atoms_spec (ws := (.code y_Bx_init b_Bx_init 1 none :: TB)) B.pre
  have htb := fun w (h : w ∈ TB) => hts w (List.mem_cons_of_mem _ h)
  have hown : s.vm.findClass R_Bx = some m.cls := findClass_of_methodNamed B.named
  have hlocks := B.notSynchronized
  have hin : meth.name = "<init>" := (name_of_methodNamed B.named B.method).1
  have hl := lv_entry ([.ref h_0]) (n := 1) (Nat.le_of_ble_eq_true rfl)
  rw [lg_entry_eq]
  generalize (lg_sl ([.ref h_0]) ++ List.replicate (1 - (lg_sl ([.ref h_0])).length) Slot.unset).toArray = ls at hl ⊢
  have hl : lv_has ls 1 [(0, .ref h_0)] := hl
  subst hsz
  have hD := hD0.self (sz := s.heap.size)
  obtain ⟨A, hAe⟩ : ∃ A, va_A [(h_0, .inr (5, [.int 0, .int 0, .int 0, .int 0, .null, .null, .int 0]))] s.heap.size = A := ⟨_, rfl⟩
  rw [hAe] at hD
  have hA : ∀ q : Nat, s.heap.size ≤ q → A q := fun q h => by rw [← hAe]; exact Or.inr h
  have hS : va_S A s.heap s.heap [] := va_S.rf
  have hP := hP
  refine lv_aload_n hx hb d_Bx_init_0 rfl (lv_at hl 0 rfl) ?_
  refine W.objInit hx hb hown (htb (.methodLink R_Bx 3 objectInit) tw_38) (htb (.instanceMethod objectInit) tw_1) (htb (.code objectInit ⟨#[0xb1]⟩ 1 none) tw_2) rfl (by rw [hml]; exact hl.1) rfl d_Bx_init_1 (Nat.le_of_ble_eq_true rfl) (Nat.le_of_ble_eq_true rfl) ?_
  refine W.eq (g2 := F0 m 4 ls []) rfl ?_
  refine lv_aload_n hx hb d_Bx_init_4 rfl (lv_at hl 0 rfl) ?_
  refine lv_sipush (v := 500) hx hb d_Bx_init_5 (by decide +kernel) ?_
  refine va_newa (atype := .int) (ty := .int) (N' := 500) (a0 := (500, .inl (fun _ => 0))) hx hb (htb (.arrayClass .int) tw_7) rfl hK hP hD hS hA (fun _ => rfl) (by decide +kernel) (by decide +kernel) (by decide +kernel) (Nat.le_of_ble_eq_true rfl) (Nat.le_of_ble_eq_true rfl) d_Bx_init_8 (fun q_1 k_2 H hK hP hD hS => ?_)
  have hP : va_P (dC, dI) vwCl [(h_0, .inr (5, [.int 0, .int 0, .int 0, .int 0, .null, .null, .int 0])), (q_1, .inl (k_2, 500, .inl (fun _ => 0)))] H := hP
  have hD : va_D A [(h_0, .inr (5, [.int 0, .int 0, .int 0, .int 0, .null, .null, .int 0])), (q_1, .inl (k_2, 500, .inl (fun _ => 0)))] := hD
  refine va_putF (D := (dC, dI)) (ci := 5) (v := .ref q_1) (ty := .array (.int)) (C := R_Bx) (T := F_Bx) (N := 7) hx hb htb i_Bx t_Bx t_Bx_ok n_Bx hown hK hP hD hS 0 rfl rfl 4 (by decide) (htb (.fieldLink R_Bx 9 "WaterMen$Box" "income" "[I") tw_39) (fun _ h9 => h9) rfl hin rfl (by decide +kernel) rfl rfl (Nat.le_of_ble_eq_true rfl) d_Bx_init_10 (fun H locs hP hD hS => ?_)
  have hP : va_P (dC, dI) vwCl [(h_0, .inr (5, [.int 0, .int 0, .int 0, .int 0, .ref q_1, .null, .int 0])), (q_1, .inl (k_2, 500, .inl (fun _ => 0)))] H := hP
  have hD : va_D A [(h_0, .inr (5, [.int 0, .int 0, .int 0, .int 0, .ref q_1, .null, .int 0])), (q_1, .inl (k_2, 500, .inl (fun _ => 0)))] := hD
  refine lv_aload_n hx hb d_Bx_init_13 rfl (lv_at hl 0 rfl) ?_
  refine lv_bipush (v := 30) hx hb d_Bx_init_14 (by decide +kernel) ?_
  refine va_newq (C := R_Pn) (N' := 30) hx hb hown (htb (.classLink R_Bx 15 R_Pn) tw_40) (hN.2.1 _ ao_Pn) hK hP hD hS hA (by decide +kernel) (by decide +kernel) (by decide +kernel) (Nat.le_of_ble_eq_true rfl) (Nat.le_of_ble_eq_true rfl) d_Bx_init_16 (fun q_3 k_4 H hK hP hD hS => ?_)
  have hP : va_P (dC, dI) vwCl [(h_0, .inr (5, [.int 0, .int 0, .int 0, .int 0, .ref q_1, .null, .int 0])), (q_1, .inl (k_2, 500, .inl (fun _ => 0))), (q_3, .inl (k_4, 30, .inr (.inr (.inr (.inr (fun _ => none))))))] H := hP
  have hD : va_D A [(h_0, .inr (5, [.int 0, .int 0, .int 0, .int 0, .ref q_1, .null, .int 0])), (q_1, .inl (k_2, 500, .inl (fun _ => 0))), (q_3, .inl (k_4, 30, .inr (.inr (.inr (.inr (fun _ => none))))))] := hD
  refine va_putF (D := (dC, dI)) (ci := 5) (v := .ref q_3) (ty := .array (.object "WaterMen$Pensioner")) (C := R_Bx) (T := F_Bx) (N := 7) hx hb htb i_Bx t_Bx t_Bx_ok n_Bx hown hK hP hD hS 0 rfl rfl 5 (by decide) (htb (.fieldLink R_Bx 17 "WaterMen$Box" "pensioners" "[LWaterMen$Pensioner;") tw_41) (fun _ h9 => h9) rfl hin rfl (by decide +kernel) rfl rfl (Nat.le_of_ble_eq_true rfl) d_Bx_init_19 (fun H locs hP hD hS => ?_)
  have hP : va_P (dC, dI) vwCl [(h_0, .inr (5, [.int 0, .int 0, .int 0, .int 0, .ref q_1, .ref q_3, .int 0])), (q_1, .inl (k_2, 500, .inl (fun _ => 0))), (q_3, .inl (k_4, 30, .inr (.inr (.inr (.inr (fun _ => none))))))] H := hP
  have hD : va_D A [(h_0, .inr (5, [.int 0, .int 0, .int 0, .int 0, .ref q_1, .ref q_3, .int 0])), (q_1, .inl (k_2, 500, .inl (fun _ => 0))), (q_3, .inl (k_4, 30, .inr (.inr (.inr (.inr (fun _ => none))))))] := hD
  refine W.widen (k := 2) (n := 530) (Nat.le_of_ble_eq_true rfl) (Nat.le_of_ble_eq_true rfl) ?_
  exact W.vret hx hb hr (fun t ht hW => ⟨⟨(), rfl, trivial, q_1, q_3, k_2, k_4, by rw [ht]; exact hP, va_K.moved hW.alike hK, by rw [hAe]; exact hD⟩, by rw [hAe]; exact hS.F ht⟩) (by rw [hAe]; exact hS.2.2) d_Bx_init_22
set_option maxHeartbeats 4000000 in
set_option maxRecDepth 100000 in
theorem c_Or_init_c3 (l : Launch) (dC : Nat → ClassId) (dI : Nat → Nat → Nat) (h_0 : Nat) (sz : Nat)   : Met l y_Or_init (.code y_Or_init b_Or_init 1 none :: TB) ({ frames := 1, cells := 3, slots := 81, locals := 12 }) (va_Pc [.ref h_0] (PC dC dI [(h_0, .inr (3, [.int 0, .int 0, .null, .null, .null, .int 0, .int 0, .int 0, .int 0]))] [] sz)) (va_Qv (fun (_ : Unit) => True) (fun (_ : Unit) t => ∃ (q_1 q_3 q_5 : Nat) (k_2 k_4 k_6 : ClassId) , va_P (dC, dI) vwCl [(h_0, .inr (3, [.int 0, .int 0, .ref q_1, .ref q_3, .ref q_5, .int 0, .int 0, .int 0, .int 0])), (q_1, .inl (k_2, 36, .inl (fun _ => 0))), (q_3, .inl (k_4, 36, .inl (fun _ => 0))), (q_5, .inl (k_6, 9, .inl (fun _ => 0)))] t.heap ∧ va_K (dC, dI) vwCl [(k_2, .int), (k_4, .int), (k_6, .int)] t ∧ va_D (va_A [(h_0, .inr (3, [.int 0, .int 0, .null, .null, .null, .int 0, .int 0, .int 0, .int 0]))] sz) [(h_0, .inr (3, [.int 0, .int 0, .ref q_1, .ref q_3, .ref q_5, .int 0, .int 0, .int 0, .int 0])), (q_1, .inl (k_2, 36, .inl (fun _ => 0))), (q_3, .inl (k_4, 36, .inl (fun _ => 0))), (q_5, .inl (k_6, 9, .inl (fun _ => 0)))]) (va_A [(h_0, .inr (3, [.int 0, .int 0, .null, .null, .null, .int 0, .int 0, .int 0, .int 0]))] sz)) 3 81 (va_A [(h_0, .inr (3, [.int 0, .int 0, .null, .null, .null, .int 0, .int 0, .int 0, .int 0]))] sz) := by
  refine Met.ofW (cc := b_Or_init) (maxL := 1) (ret := none) (by decide) rfl ?_
  intro p e s m args below meth c s₁ B hml hv
  obtain ⟨rfl, hsz, hP, hK, hD0, hN⟩ := hv
  have hx := B.exec
  have hb := B.bytes
  have hr := B.returns
  have hts := atoms_spec (ws := (.code y_Or_init b_Or_init 1 none :: TB)) B.pre
  have htb := fun w (h : w ∈ TB) => hts w (List.mem_cons_of_mem _ h)
  have hown : s.vm.findClass R_Or = some m.cls := findClass_of_methodNamed B.named
  have hlocks := B.notSynchronized
  have hin : meth.name = "<init>" := (name_of_methodNamed B.named B.method).1
  have hl := lv_entry ([.ref h_0]) (n := 1) (Nat.le_of_ble_eq_true rfl)
  rw [lg_entry_eq]
  generalize (lg_sl ([.ref h_0]) ++ List.replicate (1 - (lg_sl ([.ref h_0])).length) Slot.unset).toArray = ls at hl ⊢
  have hl : lv_has ls 1 [(0, .ref h_0)] := hl
  subst hsz
  have hD := hD0.self (sz := s.heap.size)
  obtain ⟨A, hAe⟩ : ∃ A, va_A [(h_0, .inr (3, [.int 0, .int 0, .null, .null, .null, .int 0, .int 0, .int 0, .int 0]))] s.heap.size = A := ⟨_, rfl⟩
  rw [hAe] at hD
  have hA : ∀ q : Nat, s.heap.size ≤ q → A q := fun q h => by rw [← hAe]; exact Or.inr h
  have hS : va_S A s.heap s.heap [] := va_S.rf
  have hP := hP
  refine lv_aload_n hx hb d_Or_init_0 rfl (lv_at hl 0 rfl) ?_
  refine W.objInit hx hb hown (htb (.methodLink R_Or 3 objectInit) tw_47) (htb (.instanceMethod objectInit) tw_1) (htb (.code objectInit ⟨#[0xb1]⟩ 1 none) tw_2) rfl (by rw [hml]; exact hl.1) rfl d_Or_init_1 (Nat.le_of_ble_eq_true rfl) (Nat.le_of_ble_eq_true rfl) ?_
  refine W.eq (g2 := F0 m 4 ls []) rfl ?_
  refine lv_aload_n hx hb d_Or_init_4 rfl (lv_at hl 0 rfl) ?_
  refine lv_bipush (v := 36) hx hb d_Or_init_5 (by decide +kernel) ?_
  refine va_newa (atype := .int) (ty := .int) (N' := 36) (a0 := (36, .inl (fun _ => 0))) hx hb (htb (.arrayClass .int) tw_7) rfl hK hP hD hS hA (fun _ => rfl) (by decide +kernel) (by decide +kernel) (by decide +kernel) (Nat.le_of_ble_eq_true rfl) (Nat.le_of_ble_eq_true rfl) d_Or_init_7 (fun q_1 k_2 H hK hP hD hS => ?_)
  have hP : va_P (dC, dI) vwCl [(h_0, .inr (3, [.int 0, .int 0, .null, .null, .null, .int 0, .int 0, .int 0, .int 0])), (q_1, .inl (k_2, 36, .inl (fun _ => 0)))] H := hP
  have hD : va_D A [(h_0, .inr (3, [.int 0, .int 0, .null, .null, .null, .int 0, .int 0, .int 0, .int 0])), (q_1, .inl (k_2, 36, .inl (fun _ => 0)))] := hD
  refine va_putF (D := (dC, dI)) (ci := 3) (v := .ref q_1) (ty := .array (.int)) (C := R_Or) (T := F_Or) (N := 9) hx hb htb i_Or t_Or t_Or_ok n_Or hown hK hP hD hS 0 rfl rfl 2 (by decide) (htb (.fieldLink R_Or 9 "WaterMen$Order" "fares" "[I") tw_48) (fun _ h9 => h9) rfl hin rfl (by decide +kernel) rfl rfl (Nat.le_of_ble_eq_true rfl) d_Or_init_9 (fun H locs hP hD hS => ?_)
  have hP : va_P (dC, dI) vwCl [(h_0, .inr (3, [.int 0, .int 0, .ref q_1, .null, .null, .int 0, .int 0, .int 0, .int 0])), (q_1, .inl (k_2, 36, .inl (fun _ => 0)))] H := hP
  have hD : va_D A [(h_0, .inr (3, [.int 0, .int 0, .ref q_1, .null, .null, .int 0, .int 0, .int 0, .int 0])), (q_1, .inl (k_2, 36, .inl (fun _ => 0)))] := hD
  refine lv_aload_n hx hb d_Or_init_12 rfl (lv_at hl 0 rfl) ?_
  refine lv_bipush (v := 36) hx hb d_Or_init_13 (by decide +kernel) ?_
  refine va_newa (atype := .int) (ty := .int) (N' := 36) (a0 := (36, .inl (fun _ => 0))) hx hb (htb (.arrayClass .int) tw_7) rfl hK hP hD hS hA (fun _ => rfl) (by decide +kernel) (by decide +kernel) (by decide +kernel) (Nat.le_of_ble_eq_true rfl) (Nat.le_of_ble_eq_true rfl) d_Or_init_15 (fun q_3 k_4 H hK hP hD hS => ?_)
  have hP : va_P (dC, dI) vwCl [(h_0, .inr (3, [.int 0, .int 0, .ref q_1, .null, .null, .int 0, .int 0, .int 0, .int 0])), (q_1, .inl (k_2, 36, .inl (fun _ => 0))), (q_3, .inl (k_4, 36, .inl (fun _ => 0)))] H := hP
  have hD : va_D A [(h_0, .inr (3, [.int 0, .int 0, .ref q_1, .null, .null, .int 0, .int 0, .int 0, .int 0])), (q_1, .inl (k_2, 36, .inl (fun _ => 0))), (q_3, .inl (k_4, 36, .inl (fun _ => 0)))] := hD
  refine va_putF (D := (dC, dI)) (ci := 3) (v := .ref q_3) (ty := .array (.int)) (C := R_Or) (T := F_Or) (N := 9) hx hb htb i_Or t_Or t_Or_ok n_Or hown hK hP hD hS 0 rfl rfl 3 (by decide) (htb (.fieldLink R_Or 15 "WaterMen$Order" "hours" "[I") tw_49) (fun _ h9 => h9) rfl hin rfl (by decide +kernel) rfl rfl (Nat.le_of_ble_eq_true rfl) d_Or_init_17 (fun H locs hP hD hS => ?_)
  have hP : va_P (dC, dI) vwCl [(h_0, .inr (3, [.int 0, .int 0, .ref q_1, .ref q_3, .null, .int 0, .int 0, .int 0, .int 0])), (q_1, .inl (k_2, 36, .inl (fun _ => 0))), (q_3, .inl (k_4, 36, .inl (fun _ => 0)))] H := hP
  have hD : va_D A [(h_0, .inr (3, [.int 0, .int 0, .ref q_1, .ref q_3, .null, .int 0, .int 0, .int 0, .int 0])), (q_1, .inl (k_2, 36, .inl (fun _ => 0))), (q_3, .inl (k_4, 36, .inl (fun _ => 0)))] := hD
  refine lv_aload_n hx hb d_Or_init_20 rfl (lv_at hl 0 rfl) ?_
  refine lv_bipush (v := 9) hx hb d_Or_init_21 (by decide +kernel) ?_
  refine va_newa (atype := .int) (ty := .int) (N' := 9) (a0 := (9, .inl (fun _ => 0))) hx hb (htb (.arrayClass .int) tw_7) rfl hK hP hD hS hA (fun _ => rfl) (by decide +kernel) (by decide +kernel) (by decide +kernel) (Nat.le_of_ble_eq_true rfl) (Nat.le_of_ble_eq_true rfl) d_Or_init_23 (fun q_5 k_6 H hK hP hD hS => ?_)
  have hP : va_P (dC, dI) vwCl [(h_0, .inr (3, [.int 0, .int 0, .ref q_1, .ref q_3, .null, .int 0, .int 0, .int 0, .int 0])), (q_1, .inl (k_2, 36, .inl (fun _ => 0))), (q_3, .inl (k_4, 36, .inl (fun _ => 0))), (q_5, .inl (k_6, 9, .inl (fun _ => 0)))] H := hP
  have hD : va_D A [(h_0, .inr (3, [.int 0, .int 0, .ref q_1, .ref q_3, .null, .int 0, .int 0, .int 0, .int 0])), (q_1, .inl (k_2, 36, .inl (fun _ => 0))), (q_3, .inl (k_4, 36, .inl (fun _ => 0))), (q_5, .inl (k_6, 9, .inl (fun _ => 0)))] := hD
  refine va_putF (D := (dC, dI)) (ci := 3) (v := .ref q_5) (ty := .array (.int)) (C := R_Or) (T := F_Or) (N := 9) hx hb htb i_Or t_Or t_Or_ok n_Or hown hK hP hD hS 0 rfl rfl 4 (by decide) (htb (.fieldLink R_Or 20 "WaterMen$Order" "single" "[I") tw_50) (fun _ h9 => h9) rfl hin rfl (by decide +kernel) rfl rfl (Nat.le_of_ble_eq_true rfl) d_Or_init_25 (fun H locs hP hD hS => ?_)
  have hP : va_P (dC, dI) vwCl [(h_0, .inr (3, [.int 0, .int 0, .ref q_1, .ref q_3, .ref q_5, .int 0, .int 0, .int 0, .int 0])), (q_1, .inl (k_2, 36, .inl (fun _ => 0))), (q_3, .inl (k_4, 36, .inl (fun _ => 0))), (q_5, .inl (k_6, 9, .inl (fun _ => 0)))] H := hP
  have hD : va_D A [(h_0, .inr (3, [.int 0, .int 0, .ref q_1, .ref q_3, .ref q_5, .int 0, .int 0, .int 0, .int 0])), (q_1, .inl (k_2, 36, .inl (fun _ => 0))), (q_3, .inl (k_4, 36, .inl (fun _ => 0))), (q_5, .inl (k_6, 9, .inl (fun _ => 0)))] := hD
  refine W.widen (k := 3) (n := 81) (Nat.le_of_ble_eq_true rfl) (Nat.le_of_ble_eq_true rfl) ?_
  exact W.vret hx hb hr (fun t ht hW => ⟨⟨(), rfl, trivial, q_1, q_3, q_5, k_2, k_4, k_6, by rw [ht]; exact hP, va_K.moved hW.alike hK, by rw [hAe]; exact hD⟩, by rw [hAe]; exact hS.F ht⟩) (by rw [hAe]; exact hS.2.2) d_Or_init_28
set_option maxHeartbeats 4000000 in
set_option maxRecDepth 100000 in
theorem c_Mn_init_c4 (l : Launch) (dC : Nat → ClassId) (dI : Nat → Nat → Nat) (h_0 : Nat) (sz : Nat)   : Met l y_Mn_init (.code y_Mn_init b_Mn_init 1 none :: TB) ({ frames := 1, cells := 0, slots := 0, locals := 12 }) (va_Pc [.ref h_0] (PC dC dI [(h_0, .inr (2, [.int 0, .null, .int 0, .int 0, .int 0, .int 0, .int 0, .int 0]))] [] sz)) (va_Qv (fun (_ : Unit) => True) (fun (_ : Unit) t => va_P (dC, dI) vwCl [(h_0, .inr (2, [.int 0, .null, .int (-1), .int 0, .int 0, .int 0, .int 0, .int (-1)]))] t.heap ∧ va_K (dC, dI) vwCl [] t ∧ va_D (va_A [(h_0, .inr (2, [.int 0, .null, .int 0, .int 0, .int 0, .int 0, .int 0, .int 0]))] sz) [(h_0, .inr (2, [.int 0, .null, .int (-1), .int 0, .int 0, .int 0, .int 0, .int (-1)]))]) (va_A [(h_0, .inr (2, [.int 0, .null, .int 0, .int 0, .int 0, .int 0, .int 0, .int 0]))] sz)) 0 0 (va_A [(h_0, .inr (2, [.int 0, .null, .int 0, .int 0, .int 0, .int 0, .int 0, .int 0]))] sz) := by
  refine Met.ofW (cc := b_Mn_init) (maxL := 1) (ret := none) (by decide) rfl ?_
  intro p e s m args below meth c s₁ B hml hv
  obtain ⟨rfl, hsz, hP, hK, hD0, hN⟩ := hv
  have hx := B.exec
  have hb := B.bytes
  have hr := B.returns
  have hts := atoms_spec (ws := (.code y_Mn_init b_Mn_init 1 none :: TB)) B.pre
  have htb := fun w (h : w ∈ TB) => hts w (List.mem_cons_of_mem _ h)
  have hown : s.vm.findClass R_Mn = some m.cls := findClass_of_methodNamed B.named
  have hlocks := B.notSynchronized
  have hin : meth.name = "<init>" := (name_of_methodNamed B.named B.method).1
  have hl := lv_entry ([.ref h_0]) (n := 1) (Nat.le_of_ble_eq_true rfl)
  rw [lg_entry_eq]
  generalize (lg_sl ([.ref h_0]) ++ List.replicate (1 - (lg_sl ([.ref h_0])).length) Slot.unset).toArray = ls at hl ⊢
  have hl : lv_has ls 1 [(0, .ref h_0)] := hl
  subst hsz
  have hD := hD0.self (sz := s.heap.size)
  obtain ⟨A, hAe⟩ : ∃ A, va_A [(h_0, .inr (2, [.int 0, .null, .int 0, .int 0, .int 0, .int 0, .int 0, .int 0]))] s.heap.size = A := ⟨_, rfl⟩
  rw [hAe] at hD
  have hA : ∀ q : Nat, s.heap.size ≤ q → A q := fun q h => by rw [← hAe]; exact Or.inr h
  have hS : va_S A s.heap s.heap [] := va_S.rf
  have hP := hP
  refine lv_aload_n hx hb d_Mn_init_0 rfl (lv_at hl 0 rfl) ?_
  refine W.objInit hx hb hown (htb (.methodLink R_Mn 3 objectInit) tw_56) (htb (.instanceMethod objectInit) tw_1) (htb (.code objectInit ⟨#[0xb1]⟩ 1 none) tw_2) rfl (by rw [hml]; exact hl.1) rfl d_Mn_init_1 (Nat.le_of_ble_eq_true rfl) (Nat.le_of_ble_eq_true rfl) ?_
  refine W.eq (g2 := F0 m 4 ls []) rfl ?_
  refine lv_aload_n hx hb d_Mn_init_4 rfl (lv_at hl 0 rfl) ?_
  refine lv_iconst (v := 0) hx hb d_Mn_init_5 (by decide +kernel) ?_
  refine va_put (D := (dC, dI)) (ci := 2) (v := .int 0) (ty := .int) (C := R_Mn) (T := F_Mn) (N := 8) hx hb htb i_Mn t_Mn t_Mn_ok n_Mn hown hK hP hD hS 0 rfl rfl 0 (by decide) (htb (.fieldLink R_Mn 9 "WaterMen$Man" "state" "I") tw_57) (fun _ h9 => h9) rfl (by decide +kernel) rfl rfl (Nat.le_of_ble_eq_true rfl) d_Mn_init_6 (fun H locs hP hD hS => ?_)
  have hP : va_P (dC, dI) vwCl [(h_0, .inr (2, [.int 0, .null, .int 0, .int 0, .int 0, .int 0, .int 0, .int 0]))] H := hP
  have hD : va_D A [(h_0, .inr (2, [.int 0, .null, .int 0, .int 0, .int 0, .int 0, .int 0, .int 0]))] := hD
  refine lv_aload_n hx hb d_Mn_init_9 rfl (lv_at hl 0 rfl) ?_
  refine lv_iconst (v := (-1)) hx hb d_Mn_init_10 (by decide +kernel) ?_
  refine va_put (D := (dC, dI)) (ci := 2) (v := .int (-1)) (ty := .int) (C := R_Mn) (T := F_Mn) (N := 8) hx hb htb i_Mn t_Mn t_Mn_ok n_Mn hown hK hP hD hS 0 rfl rfl 2 (by decide) (htb (.fieldLink R_Mn 15 "WaterMen$Man" "turnStairs" "I") tw_58) (fun _ h9 => h9) rfl (by decide +kernel) rfl rfl (Nat.le_of_ble_eq_true rfl) d_Mn_init_11 (fun H locs hP hD hS => ?_)
  have hP : va_P (dC, dI) vwCl [(h_0, .inr (2, [.int 0, .null, .int (-1), .int 0, .int 0, .int 0, .int 0, .int 0]))] H := hP
  have hD : va_D A [(h_0, .inr (2, [.int 0, .null, .int (-1), .int 0, .int 0, .int 0, .int 0, .int 0]))] := hD
  refine lv_aload_n hx hb d_Mn_init_14 rfl (lv_at hl 0 rfl) ?_
  refine lv_iconst (v := (-1)) hx hb d_Mn_init_15 (by decide +kernel) ?_
  refine va_put (D := (dC, dI)) (ci := 2) (v := .int (-1)) (ty := .int) (C := R_Mn) (T := F_Mn) (N := 8) hx hb htb i_Mn t_Mn t_Mn_ok n_Mn hown hK hP hD hS 0 rfl rfl 7 (by decide) (htb (.fieldLink R_Mn 18 "WaterMen$Man" "lastSunday" "I") tw_59) (fun _ h9 => h9) rfl (by decide +kernel) rfl rfl (Nat.le_of_ble_eq_true rfl) d_Mn_init_16 (fun H locs hP hD hS => ?_)
  have hP : va_P (dC, dI) vwCl [(h_0, .inr (2, [.int 0, .null, .int (-1), .int 0, .int 0, .int 0, .int 0, .int (-1)]))] H := hP
  have hD : va_D A [(h_0, .inr (2, [.int 0, .null, .int (-1), .int 0, .int 0, .int 0, .int 0, .int (-1)]))] := hD
  refine W.widen (k := 0) (n := 0) (Nat.le_of_ble_eq_true rfl) (Nat.le_of_ble_eq_true rfl) ?_
  exact W.vret hx hb hr (fun t ht hW => ⟨⟨(), rfl, trivial, by rw [ht]; exact hP, va_K.moved hW.alike hK, by rw [hAe]; exact hD⟩, by rw [hAe]; exact hS.F ht⟩) (by rw [hAe]; exact hS.2.2) d_Mn_init_19
set_option maxHeartbeats 4000000 in
set_option maxRecDepth 100000 in
theorem c_WM_init (l : Launch) (dC : Nat → ClassId) (dI : Nat → Nat → Nat) (h_0 : Nat) (sz : Nat)   : Met l y_WM_init (.code y_WM_init b_WM_init 2 none :: TB) ({ frames := 2, cells := 58, slots := 3063, locals := 32 }) (va_Pc [.ref h_0] (PC dC dI [(h_0, .inr (0, [.null, .null, .null, .null, .null, .null, .null, .int 0, .int 0, .int 0, .int 0, .int 0, .null]))] [] sz)) (va_Qv (fun (_ : Unit) => True) (fun (_ : Unit) t => ∃ (a : Nat → Nat) (k : Nat → ClassId) (L : List Nat), a 0 = h_0 ∧ L.length = 40 ∧ va_P (dC, dI) vwCl (XW a k L) t.heap ∧ va_K (dC, dI) vwCl (XT k) t ∧ va_D (va_A [(h_0, .inr (0, [.null, .null, .null, .null, .null, .null, .null, .int 0, .int 0, .int 0, .int 0, .int 0, .null]))] sz) (XW a k L)) (va_A [(h_0, .inr (0, [.null, .null, .null, .null, .null, .null, .null, .int 0, .int 0, .int 0, .int 0, .int 0, .null]))] sz)) 58 3063 (va_A [(h_0, .inr (0, [.null, .null, .null, .null, .null, .null, .null, .int 0, .int 0, .int 0, .int 0, .int 0, .null]))] sz) := by
  refine Met.ofW (cc := b_WM_init) (maxL := 2) (ret := none) (by decide) rfl ?_
  intro p e s m args below meth c s₁ B hml hv
  obtain ⟨rfl, hsz, hP, hK, hD0, hN⟩ := hv
  have hx := B.exec
  have hb := B.bytes
  have hr := B.returns
  have hts := atoms_spec (ws := (.code y_WM_init b_WM_init 2 none :: TB)) B.pre
  have htb := fun w (h : w ∈ TB) => hts w (List.mem_cons_of_mem _ h)
  have hown : s.vm.findClass R_WM = some m.cls := findClass_of_methodNamed B.named
  have hlocks := B.notSynchronized
  have hin : meth.name = "<init>" := (name_of_methodNamed B.named B.method).1
  have hl := lv_entry ([.ref h_0]) (n := 2) (Nat.le_of_ble_eq_true rfl)
  rw [lg_entry_eq]
  generalize (lg_sl ([.ref h_0]) ++ List.replicate (2 - (lg_sl ([.ref h_0])).length) Slot.unset).toArray = ls at hl ⊢
  have hl : lv_has ls 2 [(0, .ref h_0)] := hl
  subst hsz
  have hD := hD0.self (sz := s.heap.size)
  obtain ⟨A, hAe⟩ : ∃ A, va_A [(h_0, .inr (0, [.null, .null, .null, .null, .null, .null, .null, .int 0, .int 0, .int 0, .int 0, .int 0, .null]))] s.heap.size = A := ⟨_, rfl⟩
  rw [hAe] at hD
  have hA : ∀ q : Nat, s.heap.size ≤ q → A q := fun q h => by rw [← hAe]; exact Or.inr h
  have hS : va_S A s.heap s.heap [] := va_S.rf
  have hP := hP
  refine lv_aload_n hx hb d_WM_init_0 rfl (lv_at hl 0 rfl) ?_
  refine W.objInit hx hb hown (htb (.methodLink R_WM 3 objectInit) tw_0) (htb (.instanceMethod objectInit) tw_1) (htb (.code objectInit ⟨#[0xb1]⟩ 1 none) tw_2) rfl (by rw [hml]; exact hl.1) rfl d_WM_init_1 (Nat.le_of_ble_eq_true rfl) (Nat.le_of_ble_eq_true rfl) ?_
  refine W.eq (g2 := F0 m 4 ls []) rfl ?_
  refine lv_aload_n hx hb d_WM_init_4 rfl (lv_at hl 0 rfl) ?_
  refine va_new (ci := 1) (fs := [.null, .null, .null, .null, .int 0, .int 0]) (C := R_Rv) (T := F_Rv) (N := 6) hx hb htb i_Rv t_Rv t_Rv_ok hown (htb (.classLink R_WM 9 R_Rv) tw_3) (htb (.instantiable R_Rv 6) tw_4) (htb (.initialized R_Rv) tw_5) hK hP hD hS hA rfl (df_Rv) (Nat.le_of_ble_eq_true rfl) (Nat.le_of_ble_eq_true rfl) d_WM_init_5 (fun q_1 H hP hD hS => ?_)
  have hP : va_P (dC, dI) vwCl [(h_0, .inr (0, [.null, .null, .null, .null, .null, .null, .null, .int 0, .int 0, .int 0, .int 0, .int 0, .null])), (q_1, .inr (1, [.null, .null, .null, .null, .int 0, .int 0]))] H := hP
  have hD : va_D A [(h_0, .inr (0, [.null, .null, .null, .null, .null, .null, .null, .int 0, .int 0, .int 0, .int 0, .int 0, .null])), (q_1, .inr (1, [.null, .null, .null, .null, .int 0, .int 0]))] := hD
  refine lv_dup hx hb d_WM_init_8 rfl ?_
  have hPc := hP.sub (ws' := [(q_1, .inr (1, [.null, .null, .null, .null, .int 0, .int 0]))]) [1] rfl
  have hDc := hD.sub (ws' := [(q_1, .inr (1, [.null, .null, .null, .null, .int 0, .int 0]))]) [1] (by decide) rfl
  have hKc := hK.sub (tys' := []) [] rfl
  have hFc := va_free (wc := [(q_1, .inr (1, [.null, .null, .null, .null, .int 0, .int 0]))]) hD hS hA [1] rfl
  refine va_callv (va_runIN (As := []) (rest := [.ref q_1, .ref h_0]) ⟨hx, hb, hml, hown, htb⟩ (c_Rv_init_c0 l dC dI q_1 _) ⟨va_cnB 0 htb (gd_I tw_15) rfl rfl rfl (hN.1 _ nw_0) (htb (.initialized R_Rv) tw_5) (by decide +kernel) ⟨Nat.le_of_ble_eq_true rfl, Nat.le_of_ble_eq_true rfl⟩, rfl, (htb (.instanceMethod y_Rv_init) tw_16)⟩ ⟨pc_blind, pc_pre hPc hKc hDc hN⟩ rfl rfl hl.1 rfl (lv_room (Nat.le_of_ble_eq_true rfl)) d_WM_init_9 ⟨Nat.le_of_ble_eq_true rfl, Nat.le_of_ble_eq_true rfl⟩) hS (fun q _ h => hFc q h) hFc (fun u t H1 locs ht hvm hw hB hz1 hk1 hS => ?_)
  obtain ⟨z_2, z_3, z_4, z_5, z_6, z_7, z_8, z_9, hP1, hK1, hD1⟩ := hB
  rw [ht] at hP1
  have hK1 := va_K.moved hvm.symm hK1
  obtain ⟨hP, hD⟩ := va_join (wr := [(h_0, .inr (0, [.null, .null, .null, .null, .null, .null, .null, .int 0, .int 0, .int 0, .int 0, .int 0, .null]))]) (w1 := [(q_1, .inr (1, [.ref z_2, .ref z_3, .ref z_4, .ref z_5, .int 0, .int (-1)])), (z_2, .inl (z_6, 12, .inl (fun _ => 0))), (z_3, .inl (z_7, 12, .inl (fun _ => 0))), (z_4, .inl (z_8, 500, .inr (.inr (.inr (.inr (fun _ => none)))))), (z_5, .inl (z_9, 500, .inl (fun _ => 0)))]) hP hD [1] [0] rfl rfl (by decide) (by decide) hk1 hFc hP1 hD1
  have hK := (hK.sub (tys' := []) [] rfl).app hK1
  generalize H1 = H at hP hS ⊢
  have hP : va_P (dC, dI) vwCl [(h_0, .inr (0, [.null, .null, .null, .null, .null, .null, .null, .int 0, .int 0, .int 0, .int 0, .int 0, .null])), (q_1, .inr (1, [.ref z_2, .ref z_3, .ref z_4, .ref z_5, .int 0, .int (-1)])), (z_2, .inl (z_6, 12, .inl (fun _ => 0))), (z_3, .inl (z_7, 12, .inl (fun _ => 0))), (z_4, .inl (z_8, 500, .inr (.inr (.inr (.inr (fun _ => none)))))), (z_5, .inl (z_9, 500, .inl (fun _ => 0)))] H := hP
  have hD : va_D A [(h_0, .inr (0, [.null, .null, .null, .null, .null, .null, .null, .int 0, .int 0, .int 0, .int 0, .int 0, .null])), (q_1, .inr (1, [.ref z_2, .ref z_3, .ref z_4, .ref z_5, .int 0, .int (-1)])), (z_2, .inl (z_6, 12, .inl (fun _ => 0))), (z_3, .inl (z_7, 12, .inl (fun _ => 0))), (z_4, .inl (z_8, 500, .inr (.inr (.inr (.inr (fun _ => none)))))), (z_5, .inl (z_9, 500, .inl (fun _ => 0)))] := hD
  have hK : va_K (dC, dI) vwCl [(z_6, .int), (z_7, .int), (z_8, .array .int), (z_9, .boolean)] s := hK
  refine va_putF (D := (dC, dI)) (ci := 0) (v := .ref q_1) (ty := .object "WaterMen$River") (C := R_WM) (T := F_WM) (N := 13) hx hb htb i_WM t_WM t_WM_ok n_WM hown hK hP hD hS 0 rfl rfl 0 (by decide) (htb (.fieldLink R_WM 12 "WaterMen" "river" "LWaterMen$River;") tw_17) (fun _ h9 => h9) rfl hin rfl (by decide +kernel) rfl rfl (Nat.le_of_ble_eq_true rfl) d_WM_init_12 (fun H locs hP hD hS => ?_)
  have hP : va_P (dC, dI) vwCl [(h_0, .inr (0, [.ref q_1, .null, .null, .null, .null, .null, .null, .int 0, .int 0, .int 0, .int 0, .int 0, .null])), (q_1, .inr (1, [.ref z_2, .ref z_3, .ref z_4, .ref z_5, .int 0, .int (-1)])), (z_2, .inl (z_6, 12, .inl (fun _ => 0))), (z_3, .inl (z_7, 12, .inl (fun _ => 0))), (z_4, .inl (z_8, 500, .inr (.inr (.inr (.inr (fun _ => none)))))), (z_5, .inl (z_9, 500, .inl (fun _ => 0)))] H := hP
  have hD : va_D A [(h_0, .inr (0, [.ref q_1, .null, .null, .null, .null, .null, .null, .int 0, .int 0, .int 0, .int 0, .int 0, .null])), (q_1, .inr (1, [.ref z_2, .ref z_3, .ref z_4, .ref z_5, .int 0, .int (-1)])), (z_2, .inl (z_6, 12, .inl (fun _ => 0))), (z_3, .inl (z_7, 12, .inl (fun _ => 0))), (z_4, .inl (z_8, 500, .inr (.inr (.inr (.inr (fun _ => none)))))), (z_5, .inl (z_9, 500, .inl (fun _ => 0)))] := hD
  refine lv_aload_n hx hb d_WM_init_15 rfl (lv_at hl 0 rfl) ?_
  refine lv_bipush (v := 40) hx hb d_WM_init_16 (by decide +kernel) ?_
  refine va_newq (C := R_Mn) (N' := 40) hx hb hown (htb (.classLink R_WM 16 R_Mn) tw_18) (hN.2.1 _ ao_Mn) hK hP hD hS hA (by decide +kernel) (by decide +kernel) (by decide +kernel) (Nat.le_of_ble_eq_true rfl) (Nat.le_of_ble_eq_true rfl) d_WM_init_18 (fun q_10 k_11 H hK hP hD hS => ?_)
  have hP : va_P (dC, dI) vwCl [(h_0, .inr (0, [.ref q_1, .null, .null, .null, .null, .null, .null, .int 0, .int 0, .int 0, .int 0, .int 0, .null])), (q_1, .inr (1, [.ref z_2, .ref z_3, .ref z_4, .ref z_5, .int 0, .int (-1)])), (z_2, .inl (z_6, 12, .inl (fun _ => 0))), (z_3, .inl (z_7, 12, .inl (fun _ => 0))), (z_4, .inl (z_8, 500, .inr (.inr (.inr (.inr (fun _ => none)))))), (z_5, .inl (z_9, 500, .inl (fun _ => 0))), (q_10, .inl (k_11, 40, .inr (.inr (.inr (.inr (fun _ => none))))))] H := hP
  have hD : va_D A [(h_0, .inr (0, [.ref q_1, .null, .null, .null, .null, .null, .null, .int 0, .int 0, .int 0, .int 0, .int 0, .null])), (q_1, .inr (1, [.ref z_2, .ref z_3, .ref z_4, .ref z_5, .int 0, .int (-1)])), (z_2, .inl (z_6, 12, .inl (fun _ => 0))), (z_3, .inl (z_7, 12, .inl (fun _ => 0))), (z_4, .inl (z_8, 500, .inr (.inr (.inr (.inr (fun _ => none)))))), (z_5, .inl (z_9, 500, .inl (fun _ => 0))), (q_10, .inl (k_11, 40, .inr (.inr (.inr (.inr (fun _ => none))))))] := hD
  refine va_putF (D := (dC, dI)) (ci := 0) (v := .ref q_10) (ty := .array (.object "WaterMen$Man")) (C := R_WM) (T := F_WM) (N := 13) hx hb htb i_WM t_WM t_WM_ok n_WM hown hK hP hD hS 0 rfl rfl 1 (by decide) (htb (.fieldLink R_WM 18 "WaterMen" "men" "[LWaterMen$Man;") tw_19) (fun _ h9 => h9) rfl hin rfl (by decide +kernel) rfl rfl (Nat.le_of_ble_eq_true rfl) d_WM_init_21 (fun H locs hP hD hS => ?_)
  have hP : va_P (dC, dI) vwCl [(h_0, .inr (0, [.ref q_1, .ref q_10, .null, .null, .null, .null, .null, .int 0, .int 0, .int 0, .int 0, .int 0, .null])), (q_1, .inr (1, [.ref z_2, .ref z_3, .ref z_4, .ref z_5, .int 0, .int (-1)])), (z_2, .inl (z_6, 12, .inl (fun _ => 0))), (z_3, .inl (z_7, 12, .inl (fun _ => 0))), (z_4, .inl (z_8, 500, .inr (.inr (.inr (.inr (fun _ => none)))))), (z_5, .inl (z_9, 500, .inl (fun _ => 0))), (q_10, .inl (k_11, 40, .inr (.inr (.inr (.inr (fun _ => none))))))] H := hP
  have hD : va_D A [(h_0, .inr (0, [.ref q_1, .ref q_10, .null, .null, .null, .null, .null, .int 0, .int 0, .int 0, .int 0, .int 0, .null])), (q_1, .inr (1, [.ref z_2, .ref z_3, .ref z_4, .ref z_5, .int 0, .int (-1)])), (z_2, .inl (z_6, 12, .inl (fun _ => 0))), (z_3, .inl (z_7, 12, .inl (fun _ => 0))), (z_4, .inl (z_8, 500, .inr (.inr (.inr (.inr (fun _ => none)))))), (z_5, .inl (z_9, 500, .inl (fun _ => 0))), (q_10, .inl (k_11, 40, .inr (.inr (.inr (.inr (fun _ => none))))))] := hD
  refine lv_aload_n hx hb d_WM_init_24 rfl (lv_at hl 0 rfl) ?_
  refine lv_bipush (v := 20) hx hb d_WM_init_25 (by decide +kernel) ?_
  refine va_newq (C := R_Bt) (N' := 20) hx hb hown (htb (.classLink R_WM 22 R_Bt) tw_20) (hN.2.1 _ ao_Bt) hK hP hD hS hA (by decide +kernel) (by decide +kernel) (by decide +kernel) (Nat.le_of_ble_eq_true rfl) (Nat.le_of_ble_eq_true rfl) d_WM_init_27 (fun q_12 k_13 H hK hP hD hS => ?_)
  have hP : va_P (dC, dI) vwCl [(h_0, .inr (0, [.ref q_1, .ref q_10, .null, .null, .null, .null, .null, .int 0, .int 0, .int 0, .int 0, .int 0, .null])), (q_1, .inr (1, [.ref z_2, .ref z_3, .ref z_4, .ref z_5, .int 0, .int (-1)])), (z_2, .inl (z_6, 12, .inl (fun _ => 0))), (z_3, .inl (z_7, 12, .inl (fun _ => 0))), (z_4, .inl (z_8, 500, .inr (.inr (.inr (.inr (fun _ => none)))))), (z_5, .inl (z_9, 500, .inl (fun _ => 0))), (q_10, .inl (k_11, 40, .inr (.inr (.inr (.inr (fun _ => none)))))), (q_12, .inl (k_13, 20, .inr (.inr (.inr (.inr (fun _ => none))))))] H := hP
  have hD : va_D A [(h_0, .inr (0, [.ref q_1, .ref q_10, .null, .null, .null, .null, .null, .int 0, .int 0, .int 0, .int 0, .int 0, .null])), (q_1, .inr (1, [.ref z_2, .ref z_3, .ref z_4, .ref z_5, .int 0, .int (-1)])), (z_2, .inl (z_6, 12, .inl (fun _ => 0))), (z_3, .inl (z_7, 12, .inl (fun _ => 0))), (z_4, .inl (z_8, 500, .inr (.inr (.inr (.inr (fun _ => none)))))), (z_5, .inl (z_9, 500, .inl (fun _ => 0))), (q_10, .inl (k_11, 40, .inr (.inr (.inr (.inr (fun _ => none)))))), (q_12, .inl (k_13, 20, .inr (.inr (.inr (.inr (fun _ => none))))))] := hD
  refine va_putF (D := (dC, dI)) (ci := 0) (v := .ref q_12) (ty := .array (.object "WaterMen$Boat")) (C := R_WM) (T := F_WM) (N := 13) hx hb htb i_WM t_WM t_WM_ok n_WM hown hK hP hD hS 0 rfl rfl 2 (by decide) (htb (.fieldLink R_WM 24 "WaterMen" "boats" "[LWaterMen$Boat;") tw_21) (fun _ h9 => h9) rfl hin rfl (by decide +kernel) rfl rfl (Nat.le_of_ble_eq_true rfl) d_WM_init_30 (fun H locs hP hD hS => ?_)
  have hP : va_P (dC, dI) vwCl [(h_0, .inr (0, [.ref q_1, .ref q_10, .ref q_12, .null, .null, .null, .null, .int 0, .int 0, .int 0, .int 0, .int 0, .null])), (q_1, .inr (1, [.ref z_2, .ref z_3, .ref z_4, .ref z_5, .int 0, .int (-1)])), (z_2, .inl (z_6, 12, .inl (fun _ => 0))), (z_3, .inl (z_7, 12, .inl (fun _ => 0))), (z_4, .inl (z_8, 500, .inr (.inr (.inr (.inr (fun _ => none)))))), (z_5, .inl (z_9, 500, .inl (fun _ => 0))), (q_10, .inl (k_11, 40, .inr (.inr (.inr (.inr (fun _ => none)))))), (q_12, .inl (k_13, 20, .inr (.inr (.inr (.inr (fun _ => none))))))] H := hP
  have hD : va_D A [(h_0, .inr (0, [.ref q_1, .ref q_10, .ref q_12, .null, .null, .null, .null, .int 0, .int 0, .int 0, .int 0, .int 0, .null])), (q_1, .inr (1, [.ref z_2, .ref z_3, .ref z_4, .ref z_5, .int 0, .int (-1)])), (z_2, .inl (z_6, 12, .inl (fun _ => 0))), (z_3, .inl (z_7, 12, .inl (fun _ => 0))), (z_4, .inl (z_8, 500, .inr (.inr (.inr (.inr (fun _ => none)))))), (z_5, .inl (z_9, 500, .inl (fun _ => 0))), (q_10, .inl (k_11, 40, .inr (.inr (.inr (.inr (fun _ => none)))))), (q_12, .inl (k_13, 20, .inr (.inr (.inr (.inr (fun _ => none))))))] := hD
  refine lv_aload_n hx hb d_WM_init_33 rfl (lv_at hl 0 rfl) ?_
  refine lv_bipush (v := 20) hx hb d_WM_init_34 (by decide +kernel) ?_
  refine va_newq (C := R_Or) (N' := 20) hx hb hown (htb (.classLink R_WM 28 R_Or) tw_22) (hN.2.1 _ ao_Or) hK hP hD hS hA (by decide +kernel) (by decide +kernel) (by decide +kernel) (Nat.le_of_ble_eq_true rfl) (Nat.le_of_ble_eq_true rfl) d_WM_init_36 (fun q_14 k_15 H hK hP hD hS => ?_)
  have hP : va_P (dC, dI) vwCl [(h_0, .inr (0, [.ref q_1, .ref q_10, .ref q_12, .null, .null, .null, .null, .int 0, .int 0, .int 0, .int 0, .int 0, .null])), (q_1, .inr (1, [.ref z_2, .ref z_3, .ref z_4, .ref z_5, .int 0, .int (-1)])), (z_2, .inl (z_6, 12, .inl (fun _ => 0))), (z_3, .inl (z_7, 12, .inl (fun _ => 0))), (z_4, .inl (z_8, 500, .inr (.inr (.inr (.inr (fun _ => none)))))), (z_5, .inl (z_9, 500, .inl (fun _ => 0))), (q_10, .inl (k_11, 40, .inr (.inr (.inr (.inr (fun _ => none)))))), (q_12, .inl (k_13, 20, .inr (.inr (.inr (.inr (fun _ => none)))))), (q_14, .inl (k_15, 20, .inr (.inr (.inr (.inr (fun _ => none))))))] H := hP
  have hD : va_D A [(h_0, .inr (0, [.ref q_1, .ref q_10, .ref q_12, .null, .null, .null, .null, .int 0, .int 0, .int 0, .int 0, .int 0, .null])), (q_1, .inr (1, [.ref z_2, .ref z_3, .ref z_4, .ref z_5, .int 0, .int (-1)])), (z_2, .inl (z_6, 12, .inl (fun _ => 0))), (z_3, .inl (z_7, 12, .inl (fun _ => 0))), (z_4, .inl (z_8, 500, .inr (.inr (.inr (.inr (fun _ => none)))))), (z_5, .inl (z_9, 500, .inl (fun _ => 0))), (q_10, .inl (k_11, 40, .inr (.inr (.inr (.inr (fun _ => none)))))), (q_12, .inl (k_13, 20, .inr (.inr (.inr (.inr (fun _ => none)))))), (q_14, .inl (k_15, 20, .inr (.inr (.inr (.inr (fun _ => none))))))] := hD
  refine va_putF (D := (dC, dI)) (ci := 0) (v := .ref q_14) (ty := .array (.object "WaterMen$Order")) (C := R_WM) (T := F_WM) (N := 13) hx hb htb i_WM t_WM t_WM_ok n_WM hown hK hP hD hS 0 rfl rfl 3 (by decide) (htb (.fieldLink R_WM 30 "WaterMen" "orders" "[LWaterMen$Order;") tw_23) (fun _ h9 => h9) rfl hin rfl (by decide +kernel) rfl rfl (Nat.le_of_ble_eq_true rfl) d_WM_init_39 (fun H locs hP hD hS => ?_)
  have hP : va_P (dC, dI) vwCl [(h_0, .inr (0, [.ref q_1, .ref q_10, .ref q_12, .ref q_14, .null, .null, .null, .int 0, .int 0, .int 0, .int 0, .int 0, .null])), (q_1, .inr (1, [.ref z_2, .ref z_3, .ref z_4, .ref z_5, .int 0, .int (-1)])), (z_2, .inl (z_6, 12, .inl (fun _ => 0))), (z_3, .inl (z_7, 12, .inl (fun _ => 0))), (z_4, .inl (z_8, 500, .inr (.inr (.inr (.inr (fun _ => none)))))), (z_5, .inl (z_9, 500, .inl (fun _ => 0))), (q_10, .inl (k_11, 40, .inr (.inr (.inr (.inr (fun _ => none)))))), (q_12, .inl (k_13, 20, .inr (.inr (.inr (.inr (fun _ => none)))))), (q_14, .inl (k_15, 20, .inr (.inr (.inr (.inr (fun _ => none))))))] H := hP
  have hD : va_D A [(h_0, .inr (0, [.ref q_1, .ref q_10, .ref q_12, .ref q_14, .null, .null, .null, .int 0, .int 0, .int 0, .int 0, .int 0, .null])), (q_1, .inr (1, [.ref z_2, .ref z_3, .ref z_4, .ref z_5, .int 0, .int (-1)])), (z_2, .inl (z_6, 12, .inl (fun _ => 0))), (z_3, .inl (z_7, 12, .inl (fun _ => 0))), (z_4, .inl (z_8, 500, .inr (.inr (.inr (.inr (fun _ => none)))))), (z_5, .inl (z_9, 500, .inl (fun _ => 0))), (q_10, .inl (k_11, 40, .inr (.inr (.inr (.inr (fun _ => none)))))), (q_12, .inl (k_13, 20, .inr (.inr (.inr (.inr (fun _ => none)))))), (q_14, .inl (k_15, 20, .inr (.inr (.inr (.inr (fun _ => none))))))] := hD
  refine lv_aload_n hx hb d_WM_init_42 rfl (lv_at hl 0 rfl) ?_
  refine lv_sipush (v := 600) hx hb d_WM_init_43 (by decide +kernel) ?_
  refine va_newq (C := R_Tr) (N' := 600) hx hb hown (htb (.classLink R_WM 34 R_Tr) tw_24) (hN.2.1 _ ao_Tr) hK hP hD hS hA (by decide +kernel) (by decide +kernel) (by decide +kernel) (Nat.le_of_ble_eq_true rfl) (Nat.le_of_ble_eq_true rfl) d_WM_init_46 (fun q_16 k_17 H hK hP hD hS => ?_)
  have hP : va_P (dC, dI) vwCl [(h_0, .inr (0, [.ref q_1, .ref q_10, .ref q_12, .ref q_14, .null, .null, .null, .int 0, .int 0, .int 0, .int 0, .int 0, .null])), (q_1, .inr (1, [.ref z_2, .ref z_3, .ref z_4, .ref z_5, .int 0, .int (-1)])), (z_2, .inl (z_6, 12, .inl (fun _ => 0))), (z_3, .inl (z_7, 12, .inl (fun _ => 0))), (z_4, .inl (z_8, 500, .inr (.inr (.inr (.inr (fun _ => none)))))), (z_5, .inl (z_9, 500, .inl (fun _ => 0))), (q_10, .inl (k_11, 40, .inr (.inr (.inr (.inr (fun _ => none)))))), (q_12, .inl (k_13, 20, .inr (.inr (.inr (.inr (fun _ => none)))))), (q_14, .inl (k_15, 20, .inr (.inr (.inr (.inr (fun _ => none)))))), (q_16, .inl (k_17, 600, .inr (.inr (.inr (.inr (fun _ => none))))))] H := hP
  have hD : va_D A [(h_0, .inr (0, [.ref q_1, .ref q_10, .ref q_12, .ref q_14, .null, .null, .null, .int 0, .int 0, .int 0, .int 0, .int 0, .null])), (q_1, .inr (1, [.ref z_2, .ref z_3, .ref z_4, .ref z_5, .int 0, .int (-1)])), (z_2, .inl (z_6, 12, .inl (fun _ => 0))), (z_3, .inl (z_7, 12, .inl (fun _ => 0))), (z_4, .inl (z_8, 500, .inr (.inr (.inr (.inr (fun _ => none)))))), (z_5, .inl (z_9, 500, .inl (fun _ => 0))), (q_10, .inl (k_11, 40, .inr (.inr (.inr (.inr (fun _ => none)))))), (q_12, .inl (k_13, 20, .inr (.inr (.inr (.inr (fun _ => none)))))), (q_14, .inl (k_15, 20, .inr (.inr (.inr (.inr (fun _ => none)))))), (q_16, .inl (k_17, 600, .inr (.inr (.inr (.inr (fun _ => none))))))] := hD
  refine va_putF (D := (dC, dI)) (ci := 0) (v := .ref q_16) (ty := .array (.object "WaterMen$Trip")) (C := R_WM) (T := F_WM) (N := 13) hx hb htb i_WM t_WM t_WM_ok n_WM hown hK hP hD hS 0 rfl rfl 4 (by decide) (htb (.fieldLink R_WM 36 "WaterMen" "trips" "[LWaterMen$Trip;") tw_25) (fun _ h9 => h9) rfl hin rfl (by decide +kernel) rfl rfl (Nat.le_of_ble_eq_true rfl) d_WM_init_49 (fun H locs hP hD hS => ?_)
  have hP : va_P (dC, dI) vwCl [(h_0, .inr (0, [.ref q_1, .ref q_10, .ref q_12, .ref q_14, .ref q_16, .null, .null, .int 0, .int 0, .int 0, .int 0, .int 0, .null])), (q_1, .inr (1, [.ref z_2, .ref z_3, .ref z_4, .ref z_5, .int 0, .int (-1)])), (z_2, .inl (z_6, 12, .inl (fun _ => 0))), (z_3, .inl (z_7, 12, .inl (fun _ => 0))), (z_4, .inl (z_8, 500, .inr (.inr (.inr (.inr (fun _ => none)))))), (z_5, .inl (z_9, 500, .inl (fun _ => 0))), (q_10, .inl (k_11, 40, .inr (.inr (.inr (.inr (fun _ => none)))))), (q_12, .inl (k_13, 20, .inr (.inr (.inr (.inr (fun _ => none)))))), (q_14, .inl (k_15, 20, .inr (.inr (.inr (.inr (fun _ => none)))))), (q_16, .inl (k_17, 600, .inr (.inr (.inr (.inr (fun _ => none))))))] H := hP
  have hD : va_D A [(h_0, .inr (0, [.ref q_1, .ref q_10, .ref q_12, .ref q_14, .ref q_16, .null, .null, .int 0, .int 0, .int 0, .int 0, .int 0, .null])), (q_1, .inr (1, [.ref z_2, .ref z_3, .ref z_4, .ref z_5, .int 0, .int (-1)])), (z_2, .inl (z_6, 12, .inl (fun _ => 0))), (z_3, .inl (z_7, 12, .inl (fun _ => 0))), (z_4, .inl (z_8, 500, .inr (.inr (.inr (.inr (fun _ => none)))))), (z_5, .inl (z_9, 500, .inl (fun _ => 0))), (q_10, .inl (k_11, 40, .inr (.inr (.inr (.inr (fun _ => none)))))), (q_12, .inl (k_13, 20, .inr (.inr (.inr (.inr (fun _ => none)))))), (q_14, .inl (k_15, 20, .inr (.inr (.inr (.inr (fun _ => none)))))), (q_16, .inl (k_17, 600, .inr (.inr (.inr (.inr (fun _ => none))))))] := hD
  refine lv_aload_n hx hb d_WM_init_52 rfl (lv_at hl 0 rfl) ?_
  refine va_new (ci := 4) (fs := [.null, .int 0, .int 0, .int 0, .int 0, .int 0]) (C := R_Tp) (T := F_Tp) (N := 6) hx hb htb i_Tp t_Tp t_Tp_ok hown (htb (.classLink R_WM 40 R_Tp) tw_26) (htb (.instantiable R_Tp 6) tw_27) (htb (.initialized R_Tp) tw_28) hK hP hD hS hA rfl (df_Tp) (Nat.le_of_ble_eq_true rfl) (Nat.le_of_ble_eq_true rfl) d_WM_init_53 (fun q_18 H hP hD hS => ?_)
  have hP : va_P (dC, dI) vwCl [(h_0, .inr (0, [.ref q_1, .ref q_10, .ref q_12, .ref q_14, .ref q_16, .null, .null, .int 0, .int 0, .int 0, .int 0, .int 0, .null])), (q_1, .inr (1, [.ref z_2, .ref z_3, .ref z_4, .ref z_5, .int 0, .int (-1)])), (z_2, .inl (z_6, 12, .inl (fun _ => 0))), (z_3, .inl (z_7, 12, .inl (fun _ => 0))), (z_4, .inl (z_8, 500, .inr (.inr (.inr (.inr (fun _ => none)))))), (z_5, .inl (z_9, 500, .inl (fun _ => 0))), (q_10, .inl (k_11, 40, .inr (.inr (.inr (.inr (fun _ => none)))))), (q_12, .inl (k_13, 20, .inr (.inr (.inr (.inr (fun _ => none)))))), (q_14, .inl (k_15, 20, .inr (.inr (.inr (.inr (fun _ => none)))))), (q_16, .inl (k_17, 600, .inr (.inr (.inr (.inr (fun _ => none)))))), (q_18, .inr (4, [.null, .int 0, .int 0, .int 0, .int 0, .int 0]))] H := hP
  have hD : va_D A [(h_0, .inr (0, [.ref q_1, .ref q_10, .ref q_12, .ref q_14, .ref q_16, .null, .null, .int 0, .int 0, .int 0, .int 0, .int 0, .null])), (q_1, .inr (1, [.ref z_2, .ref z_3, .ref z_4, .ref z_5, .int 0, .int (-1)])), (z_2, .inl (z_6, 12, .inl (fun _ => 0))), (z_3, .inl (z_7, 12, .inl (fun _ => 0))), (z_4, .inl (z_8, 500, .inr (.inr (.inr (.inr (fun _ => none)))))), (z_5, .inl (z_9, 500, .inl (fun _ => 0))), (q_10, .inl (k_11, 40, .inr (.inr (.inr (.inr (fun _ => none)))))), (q_12, .inl (k_13, 20, .inr (.inr (.inr (.inr (fun _ => none)))))), (q_14, .inl (k_15, 20, .inr (.inr (.inr (.inr (fun _ => none)))))), (q_16, .inl (k_17, 600, .inr (.inr (.inr (.inr (fun _ => none)))))), (q_18, .inr (4, [.null, .int 0, .int 0, .int 0, .int 0, .int 0]))] := hD
  refine lv_dup hx hb d_WM_init_56 rfl ?_
  have hPc := hP.sub (ws' := [(q_18, .inr (4, [.null, .int 0, .int 0, .int 0, .int 0, .int 0]))]) [10] rfl
  have hDc := hD.sub (ws' := [(q_18, .inr (4, [.null, .int 0, .int 0, .int 0, .int 0, .int 0]))]) [10] (by decide) rfl
  have hKc := hK.sub (tys' := []) [] rfl
  have hFc := va_free (wc := [(q_18, .inr (4, [.null, .int 0, .int 0, .int 0, .int 0, .int 0]))]) hD hS hA [10] rfl
  refine va_callv (va_runIN (As := []) (rest := [.ref q_18, .ref h_0]) ⟨hx, hb, hml, hown, htb⟩ (c_Tp_init_c1 l dC dI q_18 _) ⟨va_cnB 0 htb (gd_I tw_32) rfl rfl rfl (hN.1 _ nw_1) (htb (.initialized R_Tp) tw_28) (by decide +kernel) ⟨Nat.le_of_ble_eq_true rfl, Nat.le_of_ble_eq_true rfl⟩, rfl, (htb (.instanceMethod y_Tp_init) tw_33)⟩ ⟨pc_blind, pc_pre hPc hKc hDc hN⟩ rfl rfl hl.1 rfl (lv_room (Nat.le_of_ble_eq_true rfl)) d_WM_init_57 ⟨Nat.le_of_ble_eq_true rfl, Nat.le_of_ble_eq_true rfl⟩) hS (fun q _ h => hFc q h) hFc (fun u t H1 locs ht hvm hw hB hz1 hk1 hS => ?_)
  obtain ⟨z_19, z_20, hP1, hK1, hD1⟩ := hB
  rw [ht] at hP1
  have hK1 := va_K.moved hvm.symm hK1
  obtain ⟨hP, hD⟩ := va_join (wr := [(h_0, .inr (0, [.ref q_1, .ref q_10, .ref q_12, .ref q_14, .ref q_16, .null, .null, .int 0, .int 0, .int 0, .int 0, .int 0, .null])), (q_1, .inr (1, [.ref z_2, .ref z_3, .ref z_4, .ref z_5, .int 0, .int (-1)])), (z_2, .inl (z_6, 12, .inl (fun _ => 0))), (z_3, .inl (z_7, 12, .inl (fun _ => 0))), (z_4, .inl (z_8, 500, .inr (.inr (.inr (.inr (fun _ => none)))))), (z_5, .inl (z_9, 500, .inl (fun _ => 0))), (q_10, .inl (k_11, 40, .inr (.inr (.inr (.inr (fun _ => none)))))), (q_12, .inl (k_13, 20, .inr (.inr (.inr (.inr (fun _ => none)))))), (q_14, .inl (k_15, 20, .inr (.inr (.inr (.inr (fun _ => none)))))), (q_16, .inl (k_17, 600, .inr (.inr (.inr (.inr (fun _ => none))))))]) (w1 := [(q_18, .inr (4, [.ref z_19, .int 0, .int 0, .int 0, .int 0, .int 0])), (z_19, .inl (z_20, 400, .inl (fun _ => 0)))]) hP hD [10] [0, 1, 2, 3, 4, 5, 6, 7, 8, 9] rfl rfl (by decide) (by decide) hk1 hFc hP1 hD1
  have hK := (hK.sub (tys' := [(z_6, .int), (z_7, .int), (z_8, .array .int), (z_9, .boolean), (k_11, .object R_Mn), (k_13, .object R_Bt), (k_15, .object R_Or), (k_17, .object R_Tr)]) [0, 1, 2, 3, 4, 5, 6, 7] rfl).app hK1
  generalize H1 = H at hP hS ⊢
  have hP : va_P (dC, dI) vwCl [(h_0, .inr (0, [.ref q_1, .ref q_10, .ref q_12, .ref q_14, .ref q_16, .null, .null, .int 0, .int 0, .int 0, .int 0, .int 0, .null])), (q_1, .inr (1, [.ref z_2, .ref z_3, .ref z_4, .ref z_5, .int 0, .int (-1)])), (z_2, .inl (z_6, 12, .inl (fun _ => 0))), (z_3, .inl (z_7, 12, .inl (fun _ => 0))), (z_4, .inl (z_8, 500, .inr (.inr (.inr (.inr (fun _ => none)))))), (z_5, .inl (z_9, 500, .inl (fun _ => 0))), (q_10, .inl (k_11, 40, .inr (.inr (.inr (.inr (fun _ => none)))))), (q_12, .inl (k_13, 20, .inr (.inr (.inr (.inr (fun _ => none)))))), (q_14, .inl (k_15, 20, .inr (.inr (.inr (.inr (fun _ => none)))))), (q_16, .inl (k_17, 600, .inr (.inr (.inr (.inr (fun _ => none)))))), (q_18, .inr (4, [.ref z_19, .int 0, .int 0, .int 0, .int 0, .int 0])), (z_19, .inl (z_20, 400, .inl (fun _ => 0)))] H := hP
  have hD : va_D A [(h_0, .inr (0, [.ref q_1, .ref q_10, .ref q_12, .ref q_14, .ref q_16, .null, .null, .int 0, .int 0, .int 0, .int 0, .int 0, .null])), (q_1, .inr (1, [.ref z_2, .ref z_3, .ref z_4, .ref z_5, .int 0, .int (-1)])), (z_2, .inl (z_6, 12, .inl (fun _ => 0))), (z_3, .inl (z_7, 12, .inl (fun _ => 0))), (z_4, .inl (z_8, 500, .inr (.inr (.inr (.inr (fun _ => none)))))), (z_5, .inl (z_9, 500, .inl (fun _ => 0))), (q_10, .inl (k_11, 40, .inr (.inr (.inr (.inr (fun _ => none)))))), (q_12, .inl (k_13, 20, .inr (.inr (.inr (.inr (fun _ => none)))))), (q_14, .inl (k_15, 20, .inr (.inr (.inr (.inr (fun _ => none)))))), (q_16, .inl (k_17, 600, .inr (.inr (.inr (.inr (fun _ => none)))))), (q_18, .inr (4, [.ref z_19, .int 0, .int 0, .int 0, .int 0, .int 0])), (z_19, .inl (z_20, 400, .inl (fun _ => 0)))] := hD
  have hK : va_K (dC, dI) vwCl [(z_6, .int), (z_7, .int), (z_8, .array .int), (z_9, .boolean), (k_11, .object R_Mn), (k_13, .object R_Bt), (k_15, .object R_Or), (k_17, .object R_Tr), (z_20, .byte)] s := hK
  refine va_putF (D := (dC, dI)) (ci := 0) (v := .ref q_18) (ty := .object "WaterMen$Tape") (C := R_WM) (T := F_WM) (N := 13) hx hb htb i_WM t_WM t_WM_ok n_WM hown hK hP hD hS 0 rfl rfl 5 (by decide) (htb (.fieldLink R_WM 43 "WaterMen" "tape" "LWaterMen$Tape;") tw_34) (fun _ h9 => h9) rfl hin rfl (by decide +kernel) rfl rfl (Nat.le_of_ble_eq_true rfl) d_WM_init_60 (fun H locs hP hD hS => ?_)
  have hP : va_P (dC, dI) vwCl [(h_0, .inr (0, [.ref q_1, .ref q_10, .ref q_12, .ref q_14, .ref q_16, .ref q_18, .null, .int 0, .int 0, .int 0, .int 0, .int 0, .null])), (q_1, .inr (1, [.ref z_2, .ref z_3, .ref z_4, .ref z_5, .int 0, .int (-1)])), (z_2, .inl (z_6, 12, .inl (fun _ => 0))), (z_3, .inl (z_7, 12, .inl (fun _ => 0))), (z_4, .inl (z_8, 500, .inr (.inr (.inr (.inr (fun _ => none)))))), (z_5, .inl (z_9, 500, .inl (fun _ => 0))), (q_10, .inl (k_11, 40, .inr (.inr (.inr (.inr (fun _ => none)))))), (q_12, .inl (k_13, 20, .inr (.inr (.inr (.inr (fun _ => none)))))), (q_14, .inl (k_15, 20, .inr (.inr (.inr (.inr (fun _ => none)))))), (q_16, .inl (k_17, 600, .inr (.inr (.inr (.inr (fun _ => none)))))), (q_18, .inr (4, [.ref z_19, .int 0, .int 0, .int 0, .int 0, .int 0])), (z_19, .inl (z_20, 400, .inl (fun _ => 0)))] H := hP
  have hD : va_D A [(h_0, .inr (0, [.ref q_1, .ref q_10, .ref q_12, .ref q_14, .ref q_16, .ref q_18, .null, .int 0, .int 0, .int 0, .int 0, .int 0, .null])), (q_1, .inr (1, [.ref z_2, .ref z_3, .ref z_4, .ref z_5, .int 0, .int (-1)])), (z_2, .inl (z_6, 12, .inl (fun _ => 0))), (z_3, .inl (z_7, 12, .inl (fun _ => 0))), (z_4, .inl (z_8, 500, .inr (.inr (.inr (.inr (fun _ => none)))))), (z_5, .inl (z_9, 500, .inl (fun _ => 0))), (q_10, .inl (k_11, 40, .inr (.inr (.inr (.inr (fun _ => none)))))), (q_12, .inl (k_13, 20, .inr (.inr (.inr (.inr (fun _ => none)))))), (q_14, .inl (k_15, 20, .inr (.inr (.inr (.inr (fun _ => none)))))), (q_16, .inl (k_17, 600, .inr (.inr (.inr (.inr (fun _ => none)))))), (q_18, .inr (4, [.ref z_19, .int 0, .int 0, .int 0, .int 0, .int 0])), (z_19, .inl (z_20, 400, .inl (fun _ => 0)))] := hD
  refine lv_aload_n hx hb d_WM_init_63 rfl (lv_at hl 0 rfl) ?_
  refine va_new (ci := 5) (fs := [.int 0, .int 0, .int 0, .int 0, .null, .null, .int 0]) (C := R_Bx) (T := F_Bx) (N := 7) hx hb htb i_Bx t_Bx t_Bx_ok hown (htb (.classLink R_WM 47 R_Bx) tw_35) (htb (.instantiable R_Bx 7) tw_36) (htb (.initialized R_Bx) tw_37) hK hP hD hS hA rfl (df_Bx) (Nat.le_of_ble_eq_true rfl) (Nat.le_of_ble_eq_true rfl) d_WM_init_64 (fun q_21 H hP hD hS => ?_)
  have hP : va_P (dC, dI) vwCl [(h_0, .inr (0, [.ref q_1, .ref q_10, .ref q_12, .ref q_14, .ref q_16, .ref q_18, .null, .int 0, .int 0, .int 0, .int 0, .int 0, .null])), (q_1, .inr (1, [.ref z_2, .ref z_3, .ref z_4, .ref z_5, .int 0, .int (-1)])), (z_2, .inl (z_6, 12, .inl (fun _ => 0))), (z_3, .inl (z_7, 12, .inl (fun _ => 0))), (z_4, .inl (z_8, 500, .inr (.inr (.inr (.inr (fun _ => none)))))), (z_5, .inl (z_9, 500, .inl (fun _ => 0))), (q_10, .inl (k_11, 40, .inr (.inr (.inr (.inr (fun _ => none)))))), (q_12, .inl (k_13, 20, .inr (.inr (.inr (.inr (fun _ => none)))))), (q_14, .inl (k_15, 20, .inr (.inr (.inr (.inr (fun _ => none)))))), (q_16, .inl (k_17, 600, .inr (.inr (.inr (.inr (fun _ => none)))))), (q_18, .inr (4, [.ref z_19, .int 0, .int 0, .int 0, .int 0, .int 0])), (z_19, .inl (z_20, 400, .inl (fun _ => 0))), (q_21, .inr (5, [.int 0, .int 0, .int 0, .int 0, .null, .null, .int 0]))] H := hP
  have hD : va_D A [(h_0, .inr (0, [.ref q_1, .ref q_10, .ref q_12, .ref q_14, .ref q_16, .ref q_18, .null, .int 0, .int 0, .int 0, .int 0, .int 0, .null])), (q_1, .inr (1, [.ref z_2, .ref z_3, .ref z_4, .ref z_5, .int 0, .int (-1)])), (z_2, .inl (z_6, 12, .inl (fun _ => 0))), (z_3, .inl (z_7, 12, .inl (fun _ => 0))), (z_4, .inl (z_8, 500, .inr (.inr (.inr (.inr (fun _ => none)))))), (z_5, .inl (z_9, 500, .inl (fun _ => 0))), (q_10, .inl (k_11, 40, .inr (.inr (.inr (.inr (fun _ => none)))))), (q_12, .inl (k_13, 20, .inr (.inr (.inr (.inr (fun _ => none)))))), (q_14, .inl (k_15, 20, .inr (.inr (.inr (.inr (fun _ => none)))))), (q_16, .inl (k_17, 600, .inr (.inr (.inr (.inr (fun _ => none)))))), (q_18, .inr (4, [.ref z_19, .int 0, .int 0, .int 0, .int 0, .int 0])), (z_19, .inl (z_20, 400, .inl (fun _ => 0))), (q_21, .inr (5, [.int 0, .int 0, .int 0, .int 0, .null, .null, .int 0]))] := hD
  refine lv_dup hx hb d_WM_init_67 rfl ?_
  have hPc := hP.sub (ws' := [(q_21, .inr (5, [.int 0, .int 0, .int 0, .int 0, .null, .null, .int 0]))]) [12] rfl
  have hDc := hD.sub (ws' := [(q_21, .inr (5, [.int 0, .int 0, .int 0, .int 0, .null, .null, .int 0]))]) [12] (by decide) rfl
  have hKc := hK.sub (tys' := []) [] rfl
  have hFc := va_free (wc := [(q_21, .inr (5, [.int 0, .int 0, .int 0, .int 0, .null, .null, .int 0]))]) hD hS hA [12] rfl
  refine va_callv (va_runIN (As := []) (rest := [.ref q_21, .ref h_0]) ⟨hx, hb, hml, hown, htb⟩ (c_Bx_init_c2 l dC dI q_21 _) ⟨va_cnB 0 htb (gd_I tw_42) rfl rfl rfl (hN.1 _ nw_2) (htb (.initialized R_Bx) tw_37) (by decide +kernel) ⟨Nat.le_of_ble_eq_true rfl, Nat.le_of_ble_eq_true rfl⟩, rfl, (htb (.instanceMethod y_Bx_init) tw_43)⟩ ⟨pc_blind, pc_pre hPc hKc hDc hN⟩ rfl rfl hl.1 rfl (lv_room (Nat.le_of_ble_eq_true rfl)) d_WM_init_68 ⟨Nat.le_of_ble_eq_true rfl, Nat.le_of_ble_eq_true rfl⟩) hS (fun q _ h => hFc q h) hFc (fun u t H1 locs ht hvm hw hB hz1 hk1 hS => ?_)
  obtain ⟨z_22, z_23, z_24, z_25, hP1, hK1, hD1⟩ := hB
  rw [ht] at hP1
  have hK1 := va_K.moved hvm.symm hK1
  obtain ⟨hP, hD⟩ := va_join (wr := [(h_0, .inr (0, [.ref q_1, .ref q_10, .ref q_12, .ref q_14, .ref q_16, .ref q_18, .null, .int 0, .int 0, .int 0, .int 0, .int 0, .null])), (q_1, .inr (1, [.ref z_2, .ref z_3, .ref z_4, .ref z_5, .int 0, .int (-1)])), (z_2, .inl (z_6, 12, .inl (fun _ => 0))), (z_3, .inl (z_7, 12, .inl (fun _ => 0))), (z_4, .inl (z_8, 500, .inr (.inr (.inr (.inr (fun _ => none)))))), (z_5, .inl (z_9, 500, .inl (fun _ => 0))), (q_10, .inl (k_11, 40, .inr (.inr (.inr (.inr (fun _ => none)))))), (q_12, .inl (k_13, 20, .inr (.inr (.inr (.inr (fun _ => none)))))), (q_14, .inl (k_15, 20, .inr (.inr (.inr (.inr (fun _ => none)))))), (q_16, .inl (k_17, 600, .inr (.inr (.inr (.inr (fun _ => none)))))), (q_18, .inr (4, [.ref z_19, .int 0, .int 0, .int 0, .int 0, .int 0])), (z_19, .inl (z_20, 400, .inl (fun _ => 0)))]) (w1 := [(q_21, .inr (5, [.int 0, .int 0, .int 0, .int 0, .ref z_22, .ref z_23, .int 0])), (z_22, .inl (z_24, 500, .inl (fun _ => 0))), (z_23, .inl (z_25, 30, .inr (.inr (.inr (.inr (fun _ => none))))))]) hP hD [12] [0, 1, 2, 3, 4, 5, 6, 7, 8, 9, 10, 11] rfl rfl (by decide) (by decide) hk1 hFc hP1 hD1
  have hK := (hK.sub (tys' := [(z_6, .int), (z_7, .int), (z_8, .array .int), (z_9, .boolean), (k_11, .object R_Mn), (k_13, .object R_Bt), (k_15, .object R_Or), (k_17, .object R_Tr), (z_20, .byte)]) [0, 1, 2, 3, 4, 5, 6, 7, 8] rfl).app hK1
  generalize H1 = H at hP hS ⊢
  have hP : va_P (dC, dI) vwCl [(h_0, .inr (0, [.ref q_1, .ref q_10, .ref q_12, .ref q_14, .ref q_16, .ref q_18, .null, .int 0, .int 0, .int 0, .int 0, .int 0, .null])), (q_1, .inr (1, [.ref z_2, .ref z_3, .ref z_4, .ref z_5, .int 0, .int (-1)])), (z_2, .inl (z_6, 12, .inl (fun _ => 0))), (z_3, .inl (z_7, 12, .inl (fun _ => 0))), (z_4, .inl (z_8, 500, .inr (.inr (.inr (.inr (fun _ => none)))))), (z_5, .inl (z_9, 500, .inl (fun _ => 0))), (q_10, .inl (k_11, 40, .inr (.inr (.inr (.inr (fun _ => none)))))), (q_12, .inl (k_13, 20, .inr (.inr (.inr (.inr (fun _ => none)))))), (q_14, .inl (k_15, 20, .inr (.inr (.inr (.inr (fun _ => none)))))), (q_16, .inl (k_17, 600, .inr (.inr (.inr (.inr (fun _ => none)))))), (q_18, .inr (4, [.ref z_19, .int 0, .int 0, .int 0, .int 0, .int 0])), (z_19, .inl (z_20, 400, .inl (fun _ => 0))), (q_21, .inr (5, [.int 0, .int 0, .int 0, .int 0, .ref z_22, .ref z_23, .int 0])), (z_22, .inl (z_24, 500, .inl (fun _ => 0))), (z_23, .inl (z_25, 30, .inr (.inr (.inr (.inr (fun _ => none))))))] H := hP
  have hD : va_D A [(h_0, .inr (0, [.ref q_1, .ref q_10, .ref q_12, .ref q_14, .ref q_16, .ref q_18, .null, .int 0, .int 0, .int 0, .int 0, .int 0, .null])), (q_1, .inr (1, [.ref z_2, .ref z_3, .ref z_4, .ref z_5, .int 0, .int (-1)])), (z_2, .inl (z_6, 12, .inl (fun _ => 0))), (z_3, .inl (z_7, 12, .inl (fun _ => 0))), (z_4, .inl (z_8, 500, .inr (.inr (.inr (.inr (fun _ => none)))))), (z_5, .inl (z_9, 500, .inl (fun _ => 0))), (q_10, .inl (k_11, 40, .inr (.inr (.inr (.inr (fun _ => none)))))), (q_12, .inl (k_13, 20, .inr (.inr (.inr (.inr (fun _ => none)))))), (q_14, .inl (k_15, 20, .inr (.inr (.inr (.inr (fun _ => none)))))), (q_16, .inl (k_17, 600, .inr (.inr (.inr (.inr (fun _ => none)))))), (q_18, .inr (4, [.ref z_19, .int 0, .int 0, .int 0, .int 0, .int 0])), (z_19, .inl (z_20, 400, .inl (fun _ => 0))), (q_21, .inr (5, [.int 0, .int 0, .int 0, .int 0, .ref z_22, .ref z_23, .int 0])), (z_22, .inl (z_24, 500, .inl (fun _ => 0))), (z_23, .inl (z_25, 30, .inr (.inr (.inr (.inr (fun _ => none))))))] := hD
  have hK : va_K (dC, dI) vwCl [(z_6, .int), (z_7, .int), (z_8, .array .int), (z_9, .boolean), (k_11, .object R_Mn), (k_13, .object R_Bt), (k_15, .object R_Or), (k_17, .object R_Tr), (z_20, .byte), (z_24, .int), (z_25, .object R_Pn)] s := hK
  refine va_putF (D := (dC, dI)) (ci := 0) (v := .ref q_21) (ty := .object "WaterMen$Box") (C := R_WM) (T := F_WM) (N := 13) hx hb htb i_WM t_WM t_WM_ok n_WM hown hK hP hD hS 0 rfl rfl 6 (by decide) (htb (.fieldLink R_WM 50 "WaterMen" "box" "LWaterMen$Box;") tw_44) (fun _ h9 => h9) rfl hin rfl (by decide +kernel) rfl rfl (Nat.le_of_ble_eq_true rfl) d_WM_init_71 (fun H locs hP hD hS => ?_)
  have hP : va_P (dC, dI) vwCl [(h_0, .inr (0, [.ref q_1, .ref q_10, .ref q_12, .ref q_14, .ref q_16, .ref q_18, .ref q_21, .int 0, .int 0, .int 0, .int 0, .int 0, .null])), (q_1, .inr (1, [.ref z_2, .ref z_3, .ref z_4, .ref z_5, .int 0, .int (-1)])), (z_2, .inl (z_6, 12, .inl (fun _ => 0))), (z_3, .inl (z_7, 12, .inl (fun _ => 0))), (z_4, .inl (z_8, 500, .inr (.inr (.inr (.inr (fun _ => none)))))), (z_5, .inl (z_9, 500, .inl (fun _ => 0))), (q_10, .inl (k_11, 40, .inr (.inr (.inr (.inr (fun _ => none)))))), (q_12, .inl (k_13, 20, .inr (.inr (.inr (.inr (fun _ => none)))))), (q_14, .inl (k_15, 20, .inr (.inr (.inr (.inr (fun _ => none)))))), (q_16, .inl (k_17, 600, .inr (.inr (.inr (.inr (fun _ => none)))))), (q_18, .inr (4, [.ref z_19, .int 0, .int 0, .int 0, .int 0, .int 0])), (z_19, .inl (z_20, 400, .inl (fun _ => 0))), (q_21, .inr (5, [.int 0, .int 0, .int 0, .int 0, .ref z_22, .ref z_23, .int 0])), (z_22, .inl (z_24, 500, .inl (fun _ => 0))), (z_23, .inl (z_25, 30, .inr (.inr (.inr (.inr (fun _ => none))))))] H := hP
  have hD : va_D A [(h_0, .inr (0, [.ref q_1, .ref q_10, .ref q_12, .ref q_14, .ref q_16, .ref q_18, .ref q_21, .int 0, .int 0, .int 0, .int 0, .int 0, .null])), (q_1, .inr (1, [.ref z_2, .ref z_3, .ref z_4, .ref z_5, .int 0, .int (-1)])), (z_2, .inl (z_6, 12, .inl (fun _ => 0))), (z_3, .inl (z_7, 12, .inl (fun _ => 0))), (z_4, .inl (z_8, 500, .inr (.inr (.inr (.inr (fun _ => none)))))), (z_5, .inl (z_9, 500, .inl (fun _ => 0))), (q_10, .inl (k_11, 40, .inr (.inr (.inr (.inr (fun _ => none)))))), (q_12, .inl (k_13, 20, .inr (.inr (.inr (.inr (fun _ => none)))))), (q_14, .inl (k_15, 20, .inr (.inr (.inr (.inr (fun _ => none)))))), (q_16, .inl (k_17, 600, .inr (.inr (.inr (.inr (fun _ => none)))))), (q_18, .inr (4, [.ref z_19, .int 0, .int 0, .int 0, .int 0, .int 0])), (z_19, .inl (z_20, 400, .inl (fun _ => 0))), (q_21, .inr (5, [.int 0, .int 0, .int 0, .int 0, .ref z_22, .ref z_23, .int 0])), (z_22, .inl (z_24, 500, .inl (fun _ => 0))), (z_23, .inl (z_25, 30, .inr (.inr (.inr (.inr (fun _ => none))))))] := hD
  refine lv_aload_n hx hb d_WM_init_74 rfl (lv_at hl 0 rfl) ?_
  refine va_new (ci := 3) (fs := [.int 0, .int 0, .null, .null, .null, .int 0, .int 0, .int 0, .int 0]) (C := R_Or) (T := F_Or) (N := 9) hx hb htb i_Or t_Or t_Or_ok hown (htb (.classLink R_WM 28 R_Or) tw_22) (htb (.instantiable R_Or 9) tw_45) (htb (.initialized R_Or) tw_46) hK hP hD hS hA rfl (df_Or) (Nat.le_of_ble_eq_true rfl) (Nat.le_of_ble_eq_true rfl) d_WM_init_75 (fun q_26 H hP hD hS => ?_)
  have hP : va_P (dC, dI) vwCl [(h_0, .inr (0, [.ref q_1, .ref q_10, .ref q_12, .ref q_14, .ref q_16, .ref q_18, .ref q_21, .int 0, .int 0, .int 0, .int 0, .int 0, .null])), (q_1, .inr (1, [.ref z_2, .ref z_3, .ref z_4, .ref z_5, .int 0, .int (-1)])), (z_2, .inl (z_6, 12, .inl (fun _ => 0))), (z_3, .inl (z_7, 12, .inl (fun _ => 0))), (z_4, .inl (z_8, 500, .inr (.inr (.inr (.inr (fun _ => none)))))), (z_5, .inl (z_9, 500, .inl (fun _ => 0))), (q_10, .inl (k_11, 40, .inr (.inr (.inr (.inr (fun _ => none)))))), (q_12, .inl (k_13, 20, .inr (.inr (.inr (.inr (fun _ => none)))))), (q_14, .inl (k_15, 20, .inr (.inr (.inr (.inr (fun _ => none)))))), (q_16, .inl (k_17, 600, .inr (.inr (.inr (.inr (fun _ => none)))))), (q_18, .inr (4, [.ref z_19, .int 0, .int 0, .int 0, .int 0, .int 0])), (z_19, .inl (z_20, 400, .inl (fun _ => 0))), (q_21, .inr (5, [.int 0, .int 0, .int 0, .int 0, .ref z_22, .ref z_23, .int 0])), (z_22, .inl (z_24, 500, .inl (fun _ => 0))), (z_23, .inl (z_25, 30, .inr (.inr (.inr (.inr (fun _ => none)))))), (q_26, .inr (3, [.int 0, .int 0, .null, .null, .null, .int 0, .int 0, .int 0, .int 0]))] H := hP
  have hD : va_D A [(h_0, .inr (0, [.ref q_1, .ref q_10, .ref q_12, .ref q_14, .ref q_16, .ref q_18, .ref q_21, .int 0, .int 0, .int 0, .int 0, .int 0, .null])), (q_1, .inr (1, [.ref z_2, .ref z_3, .ref z_4, .ref z_5, .int 0, .int (-1)])), (z_2, .inl (z_6, 12, .inl (fun _ => 0))), (z_3, .inl (z_7, 12, .inl (fun _ => 0))), (z_4, .inl (z_8, 500, .inr (.inr (.inr (.inr (fun _ => none)))))), (z_5, .inl (z_9, 500, .inl (fun _ => 0))), (q_10, .inl (k_11, 40, .inr (.inr (.inr (.inr (fun _ => none)))))), (q_12, .inl (k_13, 20, .inr (.inr (.inr (.inr (fun _ => none)))))), (q_14, .inl (k_15, 20, .inr (.inr (.inr (.inr (fun _ => none)))))), (q_16, .inl (k_17, 600, .inr (.inr (.inr (.inr (fun _ => none)))))), (q_18, .inr (4, [.ref z_19, .int 0, .int 0, .int 0, .int 0, .int 0])), (z_19, .inl (z_20, 400, .inl (fun _ => 0))), (q_21, .inr (5, [.int 0, .int 0, .int 0, .int 0, .ref z_22, .ref z_23, .int 0])), (z_22, .inl (z_24, 500, .inl (fun _ => 0))), (z_23, .inl (z_25, 30, .inr (.inr (.inr (.inr (fun _ => none)))))), (q_26, .inr (3, [.int 0, .int 0, .null, .null, .null, .int 0, .int 0, .int 0, .int 0]))] := hD
  refine lv_dup hx hb d_WM_init_78 rfl ?_
  have hPc := hP.sub (ws' := [(q_26, .inr (3, [.int 0, .int 0, .null, .null, .null, .int 0, .int 0, .int 0, .int 0]))]) [15] rfl
  have hDc := hD.sub (ws' := [(q_26, .inr (3, [.int 0, .int 0, .null, .null, .null, .int 0, .int 0, .int 0, .int 0]))]) [15] (by decide) rfl
  have hKc := hK.sub (tys' := []) [] rfl
  have hFc := va_free (wc := [(q_26, .inr (3, [.int 0, .int 0, .null, .null, .null, .int 0, .int 0, .int 0, .int 0]))]) hD hS hA [15] rfl
  refine va_callv (va_runIN (As := []) (rest := [.ref q_26, .ref h_0]) ⟨hx, hb, hml, hown, htb⟩ (c_Or_init_c3 l dC dI q_26 _) ⟨va_cnB 0 htb (gd_I tw_51) rfl rfl rfl (hN.1 _ nw_3) (htb (.initialized R_Or) tw_46) (by decide +kernel) ⟨Nat.le_of_ble_eq_true rfl, Nat.le_of_ble_eq_true rfl⟩, rfl, (htb (.instanceMethod y_Or_init) tw_52)⟩ ⟨pc_blind, pc_pre hPc hKc hDc hN⟩ rfl rfl hl.1 rfl (lv_room (Nat.le_of_ble_eq_true rfl)) d_WM_init_79 ⟨Nat.le_of_ble_eq_true rfl, Nat.le_of_ble_eq_true rfl⟩) hS (fun q _ h => hFc q h) hFc (fun u t H1 locs ht hvm hw hB hz1 hk1 hS => ?_)
  obtain ⟨z_27, z_28, z_29, z_30, z_31, z_32, hP1, hK1, hD1⟩ := hB
  rw [ht] at hP1
  have hK1 := va_K.moved hvm.symm hK1
  obtain ⟨hP, hD⟩ := va_join (wr := [(h_0, .inr (0, [.ref q_1, .ref q_10, .ref q_12, .ref q_14, .ref q_16, .ref q_18, .ref q_21, .int 0, .int 0, .int 0, .int 0, .int 0, .null])), (q_1, .inr (1, [.ref z_2, .ref z_3, .ref z_4, .ref z_5, .int 0, .int (-1)])), (z_2, .inl (z_6, 12, .inl (fun _ => 0))), (z_3, .inl (z_7, 12, .inl (fun _ => 0))), (z_4, .inl (z_8, 500, .inr (.inr (.inr (.inr (fun _ => none)))))), (z_5, .inl (z_9, 500, .inl (fun _ => 0))), (q_10, .inl (k_11, 40, .inr (.inr (.inr (.inr (fun _ => none)))))), (q_12, .inl (k_13, 20, .inr (.inr (.inr (.inr (fun _ => none)))))), (q_14, .inl (k_15, 20, .inr (.inr (.inr (.inr (fun _ => none)))))), (q_16, .inl (k_17, 600, .inr (.inr (.inr (.inr (fun _ => none)))))), (q_18, .inr (4, [.ref z_19, .int 0, .int 0, .int 0, .int 0, .int 0])), (z_19, .inl (z_20, 400, .inl (fun _ => 0))), (q_21, .inr (5, [.int 0, .int 0, .int 0, .int 0, .ref z_22, .ref z_23, .int 0])), (z_22, .inl (z_24, 500, .inl (fun _ => 0))), (z_23, .inl (z_25, 30, .inr (.inr (.inr (.inr (fun _ => none))))))]) (w1 := [(q_26, .inr (3, [.int 0, .int 0, .ref z_27, .ref z_28, .ref z_29, .int 0, .int 0, .int 0, .int 0])), (z_27, .inl (z_30, 36, .inl (fun _ => 0))), (z_28, .inl (z_31, 36, .inl (fun _ => 0))), (z_29, .inl (z_32, 9, .inl (fun _ => 0)))]) hP hD [15] [0, 1, 2, 3, 4, 5, 6, 7, 8, 9, 10, 11, 12, 13, 14] rfl rfl (by decide) (by decide) hk1 hFc hP1 hD1
  have hK := (hK.sub (tys' := [(z_6, .int), (z_7, .int), (z_8, .array .int), (z_9, .boolean), (k_11, .object R_Mn), (k_13, .object R_Bt), (k_15, .object R_Or), (k_17, .object R_Tr), (z_20, .byte), (z_24, .int), (z_25, .object R_Pn)]) [0, 1, 2, 3, 4, 5, 6, 7, 8, 9, 10] rfl).app hK1
  generalize H1 = H at hP hS ⊢
  have hP : va_P (dC, dI) vwCl [(h_0, .inr (0, [.ref q_1, .ref q_10, .ref q_12, .ref q_14, .ref q_16, .ref q_18, .ref q_21, .int 0, .int 0, .int 0, .int 0, .int 0, .null])), (q_1, .inr (1, [.ref z_2, .ref z_3, .ref z_4, .ref z_5, .int 0, .int (-1)])), (z_2, .inl (z_6, 12, .inl (fun _ => 0))), (z_3, .inl (z_7, 12, .inl (fun _ => 0))), (z_4, .inl (z_8, 500, .inr (.inr (.inr (.inr (fun _ => none)))))), (z_5, .inl (z_9, 500, .inl (fun _ => 0))), (q_10, .inl (k_11, 40, .inr (.inr (.inr (.inr (fun _ => none)))))), (q_12, .inl (k_13, 20, .inr (.inr (.inr (.inr (fun _ => none)))))), (q_14, .inl (k_15, 20, .inr (.inr (.inr (.inr (fun _ => none)))))), (q_16, .inl (k_17, 600, .inr (.inr (.inr (.inr (fun _ => none)))))), (q_18, .inr (4, [.ref z_19, .int 0, .int 0, .int 0, .int 0, .int 0])), (z_19, .inl (z_20, 400, .inl (fun _ => 0))), (q_21, .inr (5, [.int 0, .int 0, .int 0, .int 0, .ref z_22, .ref z_23, .int 0])), (z_22, .inl (z_24, 500, .inl (fun _ => 0))), (z_23, .inl (z_25, 30, .inr (.inr (.inr (.inr (fun _ => none)))))), (q_26, .inr (3, [.int 0, .int 0, .ref z_27, .ref z_28, .ref z_29, .int 0, .int 0, .int 0, .int 0])), (z_27, .inl (z_30, 36, .inl (fun _ => 0))), (z_28, .inl (z_31, 36, .inl (fun _ => 0))), (z_29, .inl (z_32, 9, .inl (fun _ => 0)))] H := hP
  have hD : va_D A [(h_0, .inr (0, [.ref q_1, .ref q_10, .ref q_12, .ref q_14, .ref q_16, .ref q_18, .ref q_21, .int 0, .int 0, .int 0, .int 0, .int 0, .null])), (q_1, .inr (1, [.ref z_2, .ref z_3, .ref z_4, .ref z_5, .int 0, .int (-1)])), (z_2, .inl (z_6, 12, .inl (fun _ => 0))), (z_3, .inl (z_7, 12, .inl (fun _ => 0))), (z_4, .inl (z_8, 500, .inr (.inr (.inr (.inr (fun _ => none)))))), (z_5, .inl (z_9, 500, .inl (fun _ => 0))), (q_10, .inl (k_11, 40, .inr (.inr (.inr (.inr (fun _ => none)))))), (q_12, .inl (k_13, 20, .inr (.inr (.inr (.inr (fun _ => none)))))), (q_14, .inl (k_15, 20, .inr (.inr (.inr (.inr (fun _ => none)))))), (q_16, .inl (k_17, 600, .inr (.inr (.inr (.inr (fun _ => none)))))), (q_18, .inr (4, [.ref z_19, .int 0, .int 0, .int 0, .int 0, .int 0])), (z_19, .inl (z_20, 400, .inl (fun _ => 0))), (q_21, .inr (5, [.int 0, .int 0, .int 0, .int 0, .ref z_22, .ref z_23, .int 0])), (z_22, .inl (z_24, 500, .inl (fun _ => 0))), (z_23, .inl (z_25, 30, .inr (.inr (.inr (.inr (fun _ => none)))))), (q_26, .inr (3, [.int 0, .int 0, .ref z_27, .ref z_28, .ref z_29, .int 0, .int 0, .int 0, .int 0])), (z_27, .inl (z_30, 36, .inl (fun _ => 0))), (z_28, .inl (z_31, 36, .inl (fun _ => 0))), (z_29, .inl (z_32, 9, .inl (fun _ => 0)))] := hD
  have hK : va_K (dC, dI) vwCl [(z_6, .int), (z_7, .int), (z_8, .array .int), (z_9, .boolean), (k_11, .object R_Mn), (k_13, .object R_Bt), (k_15, .object R_Or), (k_17, .object R_Tr), (z_20, .byte), (z_24, .int), (z_25, .object R_Pn), (z_30, .int), (z_31, .int), (z_32, .int)] s := hK
  refine va_put (D := (dC, dI)) (ci := 0) (v := .ref q_26) (ty := .object "WaterMen$Order") (C := R_WM) (T := F_WM) (N := 13) hx hb htb i_WM t_WM t_WM_ok n_WM hown hK hP hD hS 0 rfl rfl 12 (by decide) (htb (.fieldLink R_WM 55 "WaterMen" "draft" "LWaterMen$Order;") tw_53) (fun _ h9 => h9) rfl (by decide +kernel) rfl rfl (Nat.le_of_ble_eq_true rfl) d_WM_init_82 (fun H locs hP hD hS => ?_)
  have hP : va_P (dC, dI) vwCl [(h_0, .inr (0, [.ref q_1, .ref q_10, .ref q_12, .ref q_14, .ref q_16, .ref q_18, .ref q_21, .int 0, .int 0, .int 0, .int 0, .int 0, .ref q_26])), (q_1, .inr (1, [.ref z_2, .ref z_3, .ref z_4, .ref z_5, .int 0, .int (-1)])), (z_2, .inl (z_6, 12, .inl (fun _ => 0))), (z_3, .inl (z_7, 12, .inl (fun _ => 0))), (z_4, .inl (z_8, 500, .inr (.inr (.inr (.inr (fun _ => none)))))), (z_5, .inl (z_9, 500, .inl (fun _ => 0))), (q_10, .inl (k_11, 40, .inr (.inr (.inr (.inr (fun _ => none)))))), (q_12, .inl (k_13, 20, .inr (.inr (.inr (.inr (fun _ => none)))))), (q_14, .inl (k_15, 20, .inr (.inr (.inr (.inr (fun _ => none)))))), (q_16, .inl (k_17, 600, .inr (.inr (.inr (.inr (fun _ => none)))))), (q_18, .inr (4, [.ref z_19, .int 0, .int 0, .int 0, .int 0, .int 0])), (z_19, .inl (z_20, 400, .inl (fun _ => 0))), (q_21, .inr (5, [.int 0, .int 0, .int 0, .int 0, .ref z_22, .ref z_23, .int 0])), (z_22, .inl (z_24, 500, .inl (fun _ => 0))), (z_23, .inl (z_25, 30, .inr (.inr (.inr (.inr (fun _ => none)))))), (q_26, .inr (3, [.int 0, .int 0, .ref z_27, .ref z_28, .ref z_29, .int 0, .int 0, .int 0, .int 0])), (z_27, .inl (z_30, 36, .inl (fun _ => 0))), (z_28, .inl (z_31, 36, .inl (fun _ => 0))), (z_29, .inl (z_32, 9, .inl (fun _ => 0)))] H := hP
  have hD : va_D A [(h_0, .inr (0, [.ref q_1, .ref q_10, .ref q_12, .ref q_14, .ref q_16, .ref q_18, .ref q_21, .int 0, .int 0, .int 0, .int 0, .int 0, .ref q_26])), (q_1, .inr (1, [.ref z_2, .ref z_3, .ref z_4, .ref z_5, .int 0, .int (-1)])), (z_2, .inl (z_6, 12, .inl (fun _ => 0))), (z_3, .inl (z_7, 12, .inl (fun _ => 0))), (z_4, .inl (z_8, 500, .inr (.inr (.inr (.inr (fun _ => none)))))), (z_5, .inl (z_9, 500, .inl (fun _ => 0))), (q_10, .inl (k_11, 40, .inr (.inr (.inr (.inr (fun _ => none)))))), (q_12, .inl (k_13, 20, .inr (.inr (.inr (.inr (fun _ => none)))))), (q_14, .inl (k_15, 20, .inr (.inr (.inr (.inr (fun _ => none)))))), (q_16, .inl (k_17, 600, .inr (.inr (.inr (.inr (fun _ => none)))))), (q_18, .inr (4, [.ref z_19, .int 0, .int 0, .int 0, .int 0, .int 0])), (z_19, .inl (z_20, 400, .inl (fun _ => 0))), (q_21, .inr (5, [.int 0, .int 0, .int 0, .int 0, .ref z_22, .ref z_23, .int 0])), (z_22, .inl (z_24, 500, .inl (fun _ => 0))), (z_23, .inl (z_25, 30, .inr (.inr (.inr (.inr (fun _ => none)))))), (q_26, .inr (3, [.int 0, .int 0, .ref z_27, .ref z_28, .ref z_29, .int 0, .int 0, .int 0, .int 0])), (z_27, .inl (z_30, 36, .inl (fun _ => 0))), (z_28, .inl (z_31, 36, .inl (fun _ => 0))), (z_29, .inl (z_32, 9, .inl (fun _ => 0)))] := hD
  refine lv_iconst (v := 0) hx hb d_WM_init_85 (by decide +kernel) ?_
  refine lv_istore_n (lv' := [(1, .int 0), (0, .ref h_0)]) hx hb d_WM_init_86 rfl hl (by decide) rfl (fun ls hl => ?_)
  have loop : ∀ (n i : Nat) (H : Heap) (locs : List Loc) (L : List Nat) (fm : Nat → Option Nat), i + n = 40 → L.length = i → (∀ j, fm j = L[j]?) → va_P (dC, dI) vwCl ([(h_0, .inr (0, [.ref q_1, .ref q_10, .ref q_12, .ref q_14, .ref q_16, .ref q_18, .ref q_21, .int 0, .int 0, .int 0, .int 0, .int 0, .ref q_26])), (q_1, .inr (1, [.ref z_2, .ref z_3, .ref z_4, .ref z_5, .int 0, .int (-1)])), (z_2, .inl (z_6, 12, .inl (fun _ => 0))), (z_3, .inl (z_7, 12, .inl (fun _ => 0))), (z_4, .inl (z_8, 500, .inr (.inr (.inr (.inr (fun _ => none)))))), (z_5, .inl (z_9, 500, .inl (fun _ => 0))), (q_10, .inl (k_11, 40, .inr (.inr (.inr (.inr fm))))), (q_12, .inl (k_13, 20, .inr (.inr (.inr (.inr (fun _ => none)))))), (q_14, .inl (k_15, 20, .inr (.inr (.inr (.inr (fun _ => none)))))), (q_16, .inl (k_17, 600, .inr (.inr (.inr (.inr (fun _ => none)))))), (q_18, .inr (4, [.ref z_19, .int 0, .int 0, .int 0, .int 0, .int 0])), (z_19, .inl (z_20, 400, .inl (fun _ => 0))), (q_21, .inr (5, [.int 0, .int 0, .int 0, .int 0, .ref z_22, .ref z_23, .int 0])), (z_22, .inl (z_24, 500, .inl (fun _ => 0))), (z_23, .inl (z_25, 30, .inr (.inr (.inr (.inr (fun _ => none)))))), (q_26, .inr (3, [.int 0, .int 0, .ref z_27, .ref z_28, .ref z_29, .int 0, .int 0, .int 0, .int 0])), (z_27, .inl (z_30, 36, .inl (fun _ => 0))), (z_28, .inl (z_31, 36, .inl (fun _ => 0))), (z_29, .inl (z_32, 9, .inl (fun _ => 0)))] ++ va_pl L (fun _ => .inr (2, manF))) H → va_D A ([(h_0, .inr (0, [.ref q_1, .ref q_10, .ref q_12, .ref q_14, .ref q_16, .ref q_18, .ref q_21, .int 0, .int 0, .int 0, .int 0, .int 0, .ref q_26])), (q_1, .inr (1, [.ref z_2, .ref z_3, .ref z_4, .ref z_5, .int 0, .int (-1)])), (z_2, .inl (z_6, 12, .inl (fun _ => 0))), (z_3, .inl (z_7, 12, .inl (fun _ => 0))), (z_4, .inl (z_8, 500, .inr (.inr (.inr (.inr (fun _ => none)))))), (z_5, .inl (z_9, 500, .inl (fun _ => 0))), (q_10, .inl (k_11, 40, .inr (.inr (.inr (.inr fm))))), (q_12, .inl (k_13, 20, .inr (.inr (.inr (.inr (fun _ => none)))))), (q_14, .inl (k_15, 20, .inr (.inr (.inr (.inr (fun _ => none)))))), (q_16, .inl (k_17, 600, .inr (.inr (.inr (.inr (fun _ => none)))))), (q_18, .inr (4, [.ref z_19, .int 0, .int 0, .int 0, .int 0, .int 0])), (z_19, .inl (z_20, 400, .inl (fun _ => 0))), (q_21, .inr (5, [.int 0, .int 0, .int 0, .int 0, .ref z_22, .ref z_23, .int 0])), (z_22, .inl (z_24, 500, .inl (fun _ => 0))), (z_23, .inl (z_25, 30, .inr (.inr (.inr (.inr (fun _ => none)))))), (q_26, .inr (3, [.int 0, .int 0, .ref z_27, .ref z_28, .ref z_29, .int 0, .int 0, .int 0, .int 0])), (z_27, .inl (z_30, 36, .inl (fun _ => 0))), (z_28, .inl (z_31, 36, .inl (fun _ => 0))), (z_29, .inl (z_32, 9, .inl (fun _ => 0)))] ++ va_pl L (fun _ => .inr (2, manF))) → va_S A s.heap H locs → ∀ ls : Array Slot, lv_has ls 2 [(1, .int (nI i)), (0, .ref h_0)] → W p l e (headSpec (.code y_WM_init b_WM_init 2 none :: TB) ({ frames := 2, cells := 58, slots := 3063, locals := 32 })).room s m [.ref h_0].toArray below meth c H locs (18 + i) (2743 + 8 * i) (MQ below (va_Qv (fun (_ : Unit) => True) (fun (_ : Unit) t => ∃ (a : Nat → Nat) (k : Nat → ClassId) (L : List Nat), a 0 = h_0 ∧ L.length = 40 ∧ va_P (dC, dI) vwCl (XW a k L) t.heap ∧ va_K (dC, dI) vwCl (XT k) t ∧ va_D (va_A [(h_0, .inr (0, [.null, .null, .null, .null, .null, .null, .null, .int 0, .int 0, .int 0, .int 0, .int 0, .null]))] s.heap.size) (XW a k L)) (va_A [(h_0, .inr (0, [.null, .null, .null, .null, .null, .null, .null, .int 0, .int 0, .int 0, .int 0, .int 0, .null]))] s.heap.size)) [.ref h_0].toArray s 58 3063 (va_A [(h_0, .inr (0, [.null, .null, .null, .null, .null, .null, .null, .int 0, .int 0, .int 0, .int 0, .int 0, .null]))] s.heap.size)) (F0 m 87 ls []) := by
    intro n
    induction n with
    | zero =>
      intro i H locs L fm hj hLn hfm hP hD hS ls hl
      refine lv_iload_n hx hb d_WM_init_87 rfl (lv_at hl 0 rfl) ?_
      refine lv_bipush (v := 40) hx hb d_WM_init_88 (by decide +kernel) ?_
      refine lv_icmp_ge (tgt := 112) hx hb d_WM_init_90 (by decide) (fun _ => ?_) (fun h => absurd (show (40 : Int32) ≤ nI i from nI_le (a := 40) (by omega) (by omega)) h)
      obtain rfl : fm = fun j => L[j]? := funext hfm
      refine W.widen (k := 58) (n := 3063) (by omega) (by omega) ?_
      have hPX : va_P (dC, dI) vwCl (XW (fun i => ([h_0, q_1, z_2, z_3, z_4, z_5, q_10, q_12, q_14, q_16, q_18, z_19, q_21, z_22, z_23, q_26, z_27, z_28, z_29] : List Nat).getD i 0) (fun i => ([0, 0, z_6, z_7, z_8, z_9, k_11, k_13, k_15, k_17, 0, z_20, 0, z_24, z_25, 0, z_30, z_31, z_32] : List ClassId).getD i 0) L) H := hP.part [0, 1, 2, 3, 4, 5, 6, 7, 8, 9, 10, 11, 12, 13, 14, 15, 16, 17, 18] rfl
      have hDX : va_D A (XW (fun i => ([h_0, q_1, z_2, z_3, z_4, z_5, q_10, q_12, q_14, q_16, q_18, z_19, q_21, z_22, z_23, q_26, z_27, z_28, z_29] : List Nat).getD i 0) (fun i => ([0, 0, z_6, z_7, z_8, z_9, k_11, k_13, k_15, k_17, 0, z_20, 0, z_24, z_25, 0, z_30, z_31, z_32] : List ClassId).getD i 0) L) := hD.part [0, 1, 2, 3, 4, 5, 6, 7, 8, 9, 10, 11, 12, 13, 14, 15, 16, 17, 18] (by decide) rfl
      have hKX : va_K (dC, dI) vwCl (XT (fun i => ([0, 0, z_6, z_7, z_8, z_9, k_11, k_13, k_15, k_17, 0, z_20, 0, z_24, z_25, 0, z_30, z_31, z_32] : List ClassId).getD i 0)) s := hK.sub [0, 1, 2, 3, 4, 5, 6, 7, 8, 9, 10, 11, 12, 13] rfl
      exact W.vret hx hb hr (fun t ht hW => ⟨⟨(), rfl, trivial, _, _, L, rfl, by omega, by rw [ht]; exact hPX, va_K.moved hW.alike hKX, by rw [hAe]; exact hDX⟩, by rw [hAe]; exact hS.F ht⟩) (by rw [hAe]; exact hS.2.2) d_WM_init_112
    | succ n ih =>
      intro i H locs L fm hj hLn hfm hP hD hS ls hl
      refine lv_iload_n hx hb d_WM_init_87 rfl (lv_at hl 0 rfl) ?_
      refine lv_bipush (v := 40) hx hb d_WM_init_88 (by decide +kernel) ?_
      refine lv_icmp_ge (tgt := 112) hx hb d_WM_init_90 (by decide) (fun h => absurd h (show ¬ (40 : Int32) ≤ nI i from nI_ge (b := 40) (by omega) (by omega))) (fun _ => ?_)
      refine lv_aload_n hx hb d_WM_init_93 rfl (lv_at hl 1 rfl) ?_
      refine va_get (D := (dC, dI)) (ci := 0) (v := .ref q_10) (C := R_WM) (T := F_WM) (N := 13) hx hb htb i_WM hown hK hP 0 rfl rfl 1 (by decide) (htb (.fieldLink R_WM 18 "WaterMen" "men" "[LWaterMen$Man;") tw_19) (fun _ h9 => h9) rfl d_WM_init_94 ?_
      refine lv_iload_n hx hb d_WM_init_97 rfl (lv_at hl 0 rfl) ?_
      refine va_new (ci := 2) (fs := [.int 0, .null, .int 0, .int 0, .int 0, .int 0, .int 0, .int 0]) (C := R_Mn) (T := F_Mn) (N := 8) hx hb htb i_Mn t_Mn t_Mn_ok hown (htb (.classLink R_WM 16 R_Mn) tw_18) (htb (.instantiable R_Mn 8) tw_54) (htb (.initialized R_Mn) tw_55) hK hP hD hS hA rfl df_Mn (by show 18 + i + 1 ≤ 58; omega) (by show 2743 + 8 * i + 8 ≤ 3063; omega) d_WM_init_98 (fun q H hP hD hS => ?_)
      refine lv_dup hx hb d_WM_init_101 rfl ?_
      have hPc : va_P (dC, dI) vwCl [(q, .inr (2, [.int 0, .null, .int 0, .int 0, .int 0, .int 0, .int 0, .int 0]))] H := hb_right hP
      have hDc : va_D A [(q, .inr (2, [.int 0, .null, .int 0, .int 0, .int 0, .int 0, .int 0, .int 0]))] := hb_rightD hD
      have hKc : va_K (dC, dI) vwCl [] s := hK.sub [] rfl
      have hFc := hb_free hDc hS hA
      refine va_callv (va_runIN (As := []) (rest := [.ref q, .int (nI i), .ref q_10]) ⟨hx, hb, hml, hown, htb⟩ (c_Mn_init_c4 l dC dI q _) ⟨va_cnB 0 htb (gd_I tw_60) rfl rfl rfl (hN.1 _ nw_4) (htb (.initialized R_Mn) tw_55) (by decide +kernel) ⟨Nat.le_of_ble_eq_true rfl, Nat.le_of_ble_eq_true rfl⟩, rfl, (htb (.instanceMethod y_Mn_init) tw_61)⟩ ⟨pc_blind, pc_pre hPc hKc hDc hN⟩ rfl rfl hl.1 rfl (lv_room (Nat.le_of_ble_eq_true rfl)) d_WM_init_102 ⟨(by show 18 + i + 1 ≤ 58; omega), (by show 2743 + 8 * i + 8 ≤ 3063; omega)⟩) hS (fun q _ h => hFc q h) hFc (fun u t H1 locs ht hvm hw hB hz1 hk1 hS => ?_)
      obtain ⟨hP1, hK1, hD1⟩ := hB
      rw [ht] at hP1
      obtain ⟨hP, hD⟩ := va_joinQ (X := [(h_0, .inr (0, [.ref q_1, .ref q_10, .ref q_12, .ref q_14, .ref q_16, .ref q_18, .ref q_21, .int 0, .int 0, .int 0, .int 0, .int 0, .ref q_26])), (q_1, .inr (1, [.ref z_2, .ref z_3, .ref z_4, .ref z_5, .int 0, .int (-1)])), (z_2, .inl (z_6, 12, .inl (fun _ => 0))), (z_3, .inl (z_7, 12, .inl (fun _ => 0))), (z_4, .inl (z_8, 500, .inr (.inr (.inr (.inr (fun _ => none)))))), (z_5, .inl (z_9, 500, .inl (fun _ => 0))), (q_10, .inl (k_11, 40, .inr (.inr (.inr (.inr fm))))), (q_12, .inl (k_13, 20, .inr (.inr (.inr (.inr (fun _ => none)))))), (q_14, .inl (k_15, 20, .inr (.inr (.inr (.inr (fun _ => none)))))), (q_16, .inl (k_17, 600, .inr (.inr (.inr (.inr (fun _ => none)))))), (q_18, .inr (4, [.ref z_19, .int 0, .int 0, .int 0, .int 0, .int 0])), (z_19, .inl (z_20, 400, .inl (fun _ => 0))), (q_21, .inr (5, [.int 0, .int 0, .int 0, .int 0, .ref z_22, .ref z_23, .int 0])), (z_22, .inl (z_24, 500, .inl (fun _ => 0))), (z_23, .inl (z_25, 30, .inr (.inr (.inr (.inr (fun _ => none)))))), (q_26, .inr (3, [.int 0, .int 0, .ref z_27, .ref z_28, .ref z_29, .int 0, .int 0, .int 0, .int 0])), (z_27, .inl (z_30, 36, .inl (fun _ => 0))), (z_28, .inl (z_31, 36, .inl (fun _ => 0))), (z_29, .inl (z_32, 9, .inl (fun _ => 0)))] ++ [(q, .inr (2, [.int 0, .null, .int 0, .int 0, .int 0, .int 0, .int 0, .int 0]))]) (cx := [(q, .inr (2, [.int 0, .null, .int 0, .int 0, .int 0, .int 0, .int 0, .int 0]))]) (wr := [(h_0, .inr (0, [.ref q_1, .ref q_10, .ref q_12, .ref q_14, .ref q_16, .ref q_18, .ref q_21, .int 0, .int 0, .int 0, .int 0, .int 0, .ref q_26])), (q_1, .inr (1, [.ref z_2, .ref z_3, .ref z_4, .ref z_5, .int 0, .int (-1)])), (z_2, .inl (z_6, 12, .inl (fun _ => 0))), (z_3, .inl (z_7, 12, .inl (fun _ => 0))), (z_4, .inl (z_8, 500, .inr (.inr (.inr (.inr (fun _ => none)))))), (z_5, .inl (z_9, 500, .inl (fun _ => 0))), (q_10, .inl (k_11, 40, .inr (.inr (.inr (.inr fm))))), (q_12, .inl (k_13, 20, .inr (.inr (.inr (.inr (fun _ => none)))))), (q_14, .inl (k_15, 20, .inr (.inr (.inr (.inr (fun _ => none)))))), (q_16, .inl (k_17, 600, .inr (.inr (.inr (.inr (fun _ => none)))))), (q_18, .inr (4, [.ref z_19, .int 0, .int 0, .int 0, .int 0, .int 0])), (z_19, .inl (z_20, 400, .inl (fun _ => 0))), (q_21, .inr (5, [.int 0, .int 0, .int 0, .int 0, .ref z_22, .ref z_23, .int 0])), (z_22, .inl (z_24, 500, .inl (fun _ => 0))), (z_23, .inl (z_25, 30, .inr (.inr (.inr (.inr (fun _ => none)))))), (q_26, .inr (3, [.int 0, .int 0, .ref z_27, .ref z_28, .ref z_29, .int 0, .int 0, .int 0, .int 0])), (z_27, .inl (z_30, 36, .inl (fun _ => 0))), (z_28, .inl (z_31, 36, .inl (fun _ => 0))), (z_29, .inl (z_32, 9, .inl (fun _ => 0)))]) hP.swap hD.swap [19] [0, 1, 2, 3, 4, 5, 6, 7, 8, 9, 10, 11, 12, 13, 14, 15, 16, 17, 18] rfl rfl (by decide) (by decide) hk1 hFc hP1 hD1
      generalize H1 = H at hP hS ⊢
      have hP : va_P (dC, dI) vwCl (([(h_0, .inr (0, [.ref q_1, .ref q_10, .ref q_12, .ref q_14, .ref q_16, .ref q_18, .ref q_21, .int 0, .int 0, .int 0, .int 0, .int 0, .ref q_26])), (q_1, .inr (1, [.ref z_2, .ref z_3, .ref z_4, .ref z_5, .int 0, .int (-1)])), (z_2, .inl (z_6, 12, .inl (fun _ => 0))), (z_3, .inl (z_7, 12, .inl (fun _ => 0))), (z_4, .inl (z_8, 500, .inr (.inr (.inr (.inr (fun _ => none)))))), (z_5, .inl (z_9, 500, .inl (fun _ => 0))), (q_10, .inl (k_11, 40, .inr (.inr (.inr (.inr fm))))), (q_12, .inl (k_13, 20, .inr (.inr (.inr (.inr (fun _ => none)))))), (q_14, .inl (k_15, 20, .inr (.inr (.inr (.inr (fun _ => none)))))), (q_16, .inl (k_17, 600, .inr (.inr (.inr (.inr (fun _ => none)))))), (q_18, .inr (4, [.ref z_19, .int 0, .int 0, .int 0, .int 0, .int 0])), (z_19, .inl (z_20, 400, .inl (fun _ => 0))), (q_21, .inr (5, [.int 0, .int 0, .int 0, .int 0, .ref z_22, .ref z_23, .int 0])), (z_22, .inl (z_24, 500, .inl (fun _ => 0))), (z_23, .inl (z_25, 30, .inr (.inr (.inr (.inr (fun _ => none)))))), (q_26, .inr (3, [.int 0, .int 0, .ref z_27, .ref z_28, .ref z_29, .int 0, .int 0, .int 0, .int 0])), (z_27, .inl (z_30, 36, .inl (fun _ => 0))), (z_28, .inl (z_31, 36, .inl (fun _ => 0))), (z_29, .inl (z_32, 9, .inl (fun _ => 0)))] ++ va_pl L (fun _ => .inr (2, manF))) ++ [(q, .inr (2, manF))]) H := hP.swap
      have hD : va_D A (([(h_0, .inr (0, [.ref q_1, .ref q_10, .ref q_12, .ref q_14, .ref q_16, .ref q_18, .ref q_21, .int 0, .int 0, .int 0, .int 0, .int 0, .ref q_26])), (q_1, .inr (1, [.ref z_2, .ref z_3, .ref z_4, .ref z_5, .int 0, .int (-1)])), (z_2, .inl (z_6, 12, .inl (fun _ => 0))), (z_3, .inl (z_7, 12, .inl (fun _ => 0))), (z_4, .inl (z_8, 500, .inr (.inr (.inr (.inr (fun _ => none)))))), (z_5, .inl (z_9, 500, .inl (fun _ => 0))), (q_10, .inl (k_11, 40, .inr (.inr (.inr (.inr fm))))), (q_12, .inl (k_13, 20, .inr (.inr (.inr (.inr (fun _ => none)))))), (q_14, .inl (k_15, 20, .inr (.inr (.inr (.inr (fun _ => none)))))), (q_16, .inl (k_17, 600, .inr (.inr (.inr (.inr (fun _ => none)))))), (q_18, .inr (4, [.ref z_19, .int 0, .int 0, .int 0, .int 0, .int 0])), (z_19, .inl (z_20, 400, .inl (fun _ => 0))), (q_21, .inr (5, [.int 0, .int 0, .int 0, .int 0, .ref z_22, .ref z_23, .int 0])), (z_22, .inl (z_24, 500, .inl (fun _ => 0))), (z_23, .inl (z_25, 30, .inr (.inr (.inr (.inr (fun _ => none)))))), (q_26, .inr (3, [.int 0, .int 0, .ref z_27, .ref z_28, .ref z_29, .int 0, .int 0, .int 0, .int 0])), (z_27, .inl (z_30, 36, .inl (fun _ => 0))), (z_28, .inl (z_31, 36, .inl (fun _ => 0))), (z_29, .inl (z_32, 9, .inl (fun _ => 0)))] ++ va_pl L (fun _ => .inr (2, manF))) ++ [(q, .inr (2, manF))]) := hD.swap
      refine va_astq hx hb hK hP hD hS 6 4 _ 2 rfl rfl hb_last rfl (vp_in_nI (by omega) (by omega)) d_WM_init_105 (fun H locs hP hD hS => ?_)
      have hP : va_P (dC, dI) vwCl (([(h_0, .inr (0, [.ref q_1, .ref q_10, .ref q_12, .ref q_14, .ref q_16, .ref q_18, .ref q_21, .int 0, .int 0, .int 0, .int 0, .int 0, .ref q_26])), (q_1, .inr (1, [.ref z_2, .ref z_3, .ref z_4, .ref z_5, .int 0, .int (-1)])), (z_2, .inl (z_6, 12, .inl (fun _ => 0))), (z_3, .inl (z_7, 12, .inl (fun _ => 0))), (z_4, .inl (z_8, 500, .inr (.inr (.inr (.inr (fun _ => none)))))), (z_5, .inl (z_9, 500, .inl (fun _ => 0))), (q_10, .inl (k_11, 40, .inr (.inr (.inr (.inr (va_up fm (nI i).toNatClampNeg (some q))))))), (q_12, .inl (k_13, 20, .inr (.inr (.inr (.inr (fun _ => none)))))), (q_14, .inl (k_15, 20, .inr (.inr (.inr (.inr (fun _ => none)))))), (q_16, .inl (k_17, 600, .inr (.inr (.inr (.inr (fun _ => none)))))), (q_18, .inr (4, [.ref z_19, .int 0, .int 0, .int 0, .int 0, .int 0])), (z_19, .inl (z_20, 400, .inl (fun _ => 0))), (q_21, .inr (5, [.int 0, .int 0, .int 0, .int 0, .ref z_22, .ref z_23, .int 0])), (z_22, .inl (z_24, 500, .inl (fun _ => 0))), (z_23, .inl (z_25, 30, .inr (.inr (.inr (.inr (fun _ => none)))))), (q_26, .inr (3, [.int 0, .int 0, .ref z_27, .ref z_28, .ref z_29, .int 0, .int 0, .int 0, .int 0])), (z_27, .inl (z_30, 36, .inl (fun _ => 0))), (z_28, .inl (z_31, 36, .inl (fun _ => 0))), (z_29, .inl (z_32, 9, .inl (fun _ => 0)))] ++ va_pl L (fun _ => .inr (2, manF))) ++ [(q, .inr (2, manF))]) H := hP
      have hD : va_D A (([(h_0, .inr (0, [.ref q_1, .ref q_10, .ref q_12, .ref q_14, .ref q_16, .ref q_18, .ref q_21, .int 0, .int 0, .int 0, .int 0, .int 0, .ref q_26])), (q_1, .inr (1, [.ref z_2, .ref z_3, .ref z_4, .ref z_5, .int 0, .int (-1)])), (z_2, .inl (z_6, 12, .inl (fun _ => 0))), (z_3, .inl (z_7, 12, .inl (fun _ => 0))), (z_4, .inl (z_8, 500, .inr (.inr (.inr (.inr (fun _ => none)))))), (z_5, .inl (z_9, 500, .inl (fun _ => 0))), (q_10, .inl (k_11, 40, .inr (.inr (.inr (.inr (va_up fm (nI i).toNatClampNeg (some q))))))), (q_12, .inl (k_13, 20, .inr (.inr (.inr (.inr (fun _ => none)))))), (q_14, .inl (k_15, 20, .inr (.inr (.inr (.inr (fun _ => none)))))), (q_16, .inl (k_17, 600, .inr (.inr (.inr (.inr (fun _ => none)))))), (q_18, .inr (4, [.ref z_19, .int 0, .int 0, .int 0, .int 0, .int 0])), (z_19, .inl (z_20, 400, .inl (fun _ => 0))), (q_21, .inr (5, [.int 0, .int 0, .int 0, .int 0, .ref z_22, .ref z_23, .int 0])), (z_22, .inl (z_24, 500, .inl (fun _ => 0))), (z_23, .inl (z_25, 30, .inr (.inr (.inr (.inr (fun _ => none)))))), (q_26, .inr (3, [.int 0, .int 0, .ref z_27, .ref z_28, .ref z_29, .int 0, .int 0, .int 0, .int 0])), (z_27, .inl (z_30, 36, .inl (fun _ => 0))), (z_28, .inl (z_31, 36, .inl (fun _ => 0))), (z_29, .inl (z_32, 9, .inl (fun _ => 0)))] ++ va_pl L (fun _ => .inr (2, manF))) ++ [(q, .inr (2, manF))]) := hD
      rw [hb_plpush] at hP hD
      refine lv_iinc (v := nI (i + 1)) (lv' := [(1, .int (nI (i + 1))), (0, .ref h_0)]) hx hb d_WM_init_106 hl (k := 0) rfl (nI_1 i) (by decide) rfl (fun ls hl => ?_)
      refine lv_goto (tgt := 87) hx hb d_WM_init_109 (by decide) ?_
      refine W.widen (k := 18 + (i + 1)) (n := 2743 + 8 * (i + 1)) (by omega) (by omega) ?_
      exact ih (i + 1) _ _ (L ++ [q]) _ (by omega) (by simp [hLn]) (hb_fm (by omega) hLn hfm) hP hD hS ls hl
  refine W.widen (k := 18 + 0) (n := 2743 + 8 * 0) (Nat.le_of_ble_eq_true rfl) (Nat.le_of_ble_eq_true rfl) ?_
  exact loop 40 0 _ _ [] (fun _ => none) (by omega) rfl (fun j => by simp) (by rw [show va_pl [] (fun _ => .inr (2, manF)) = [] from rfl, List.append_nil]; exact hP) (by rw [show va_pl [] (fun _ => .inr (2, manF)) = [] from rfl, List.append_nil]; exact hD) hS ls (lv_sub hl [0, 1] rfl)
end
