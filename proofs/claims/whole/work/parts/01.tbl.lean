-- ===== PART A: goes FIRST, ahead of the names: the tables' words, and 'selects' of the private methods out of them =====
/-- a private method of a class that the tables say can be made, by its rows of tables_1 -/
def lw_okq (q : MethodName × Nat) : Prop := (q.1.cls ≠ "java/lang/invoke/MethodHandle" ∧ q.1.cls ≠ "java/lang/invoke/VarHandle") ∧ Cond.instantiable q.1.cls q.2 ∈ tables_1 ∧ Cond.privateMethod q.1 ∈ tables_1 ∧ Cond.instanceMethod q.1 ∈ tables_1
theorem lw_p0 : lw_okq (⟨"HotWeek$Reader", "readsWord", "(LHotWeek$Text;I)Z"⟩, 4) := ⟨⟨by decide +kernel, by decide +kernel⟩, List.mem_of_getElem? (i := 42) (by decide +kernel), List.mem_of_getElem? (i := 377) (by decide +kernel), List.mem_of_getElem? (i := 378) (by decide +kernel)⟩
theorem lw_p1 : lw_okq (⟨"HotWeek$Reader", "readsNumbers", "(LHotWeek$Text;I)Z"⟩, 4) := ⟨⟨by decide +kernel, by decide +kernel⟩, List.mem_of_getElem? (i := 42) (by decide +kernel), List.mem_of_getElem? (i := 464) (by decide +kernel), List.mem_of_getElem? (i := 465) (by decide +kernel)⟩
theorem lw_p2 : lw_okq (⟨"HotWeek$Reader", "isDoorToItself", "(III)Z"⟩, 4) := ⟨⟨by decide +kernel, by decide +kernel⟩, List.mem_of_getElem? (i := 42) (by decide +kernel), List.mem_of_getElem? (i := 475) (by decide +kernel), List.mem_of_getElem? (i := 476) (by decide +kernel)⟩
theorem lw_p3 : lw_okq (⟨"HotWeek$House", "tellRoom", "([I)V"⟩, 18) := ⟨⟨by decide +kernel, by decide +kernel⟩, List.mem_of_getElem? (i := 63) (by decide +kernel), List.mem_of_getElem? (i := 502) (by decide +kernel), List.mem_of_getElem? (i := 503) (by decide +kernel)⟩
theorem lw_p4 : lw_okq (⟨"HotWeek", "courseAsTold", "()LHotWeek$Course;"⟩, 12) := ⟨⟨by decide +kernel, by decide +kernel⟩, List.mem_of_getElem? (i := 20) (by decide +kernel), List.mem_of_getElem? (i := 575) (by decide +kernel), List.mem_of_getElem? (i := 576) (by decide +kernel)⟩
theorem lw_p5 : lw_okq (⟨"HotWeek$Plan", "takeWorksOff", "(ILHotWeek$House;)V"⟩, 7) := ⟨⟨by decide +kernel, by decide +kernel⟩, List.mem_of_getElem? (i := 127) (by decide +kernel), List.mem_of_getElem? (i := 586) (by decide +kernel), List.mem_of_getElem? (i := 587) (by decide +kernel)⟩
theorem lw_p6 : lw_okq (⟨"HotWeek$Course", "goOn", "(IILHotWeek$House;LHotWeek$Plan;)V"⟩, 3) := ⟨⟨by decide +kernel, by decide +kernel⟩, List.mem_of_getElem? (i := 156) (by decide +kernel), List.mem_of_getElem? (i := 624) (by decide +kernel), List.mem_of_getElem? (i := 625) (by decide +kernel)⟩
theorem lw_p7 : lw_okq (⟨"HotWeek$Course", "throughDoors", "(IILHotWeek$House;)I"⟩, 3) := ⟨⟨by decide +kernel, by decide +kernel⟩, List.mem_of_getElem? (i := 156) (by decide +kernel), List.mem_of_getElem? (i := 650) (by decide +kernel), List.mem_of_getElem? (i := 651) (by decide +kernel)⟩
theorem lw_p8 : lw_okq (⟨"HotWeek$BestClock", "keepBetter", "(III)V"⟩, 5) := ⟨⟨by decide +kernel, by decide +kernel⟩, List.mem_of_getElem? (i := 173) (by decide +kernel), List.mem_of_getElem? (i := 733) (by decide +kernel), List.mem_of_getElem? (i := 734) (by decide +kernel)⟩
theorem lw_p9 : lw_okq (⟨"HotWeek$Works", "costOf", "(I)I"⟩, 7) := ⟨⟨by decide +kernel, by decide +kernel⟩, List.mem_of_getElem? (i := 195) (by decide +kernel), List.mem_of_getElem? (i := 775) (by decide +kernel), List.mem_of_getElem? (i := 776) (by decide +kernel)⟩
theorem lw_p10 : lw_okq (⟨"HotWeek$Works", "put", "(ILHotWeek$Plan;)V"⟩, 7) := ⟨⟨by decide +kernel, by decide +kernel⟩, List.mem_of_getElem? (i := 195) (by decide +kernel), List.mem_of_getElem? (i := 784) (by decide +kernel), List.mem_of_getElem? (i := 785) (by decide +kernel)⟩
theorem lw_p11 : lw_okq (⟨"HotWeek$Glasses", "allHold", "(ILHotWeek$House;LHotWeek$Course;)Z"⟩, 9) := ⟨⟨by decide +kernel, by decide +kernel⟩, List.mem_of_getElem? (i := 223) (by decide +kernel), List.mem_of_getElem? (i := 827) (by decide +kernel), List.mem_of_getElem? (i := 828) (by decide +kernel)⟩
theorem lw_p12 : lw_okq (⟨"HotWeek$Glasses", "keep", "(II)V"⟩, 9) := ⟨⟨by decide +kernel, by decide +kernel⟩, List.mem_of_getElem? (i := 223) (by decide +kernel), List.mem_of_getElem? (i := 836) (by decide +kernel), List.mem_of_getElem? (i := 837) (by decide +kernel)⟩
theorem lw_p13 : lw_okq (⟨"HotWeek$Rings", "toldSet", "()I"⟩, 3) := ⟨⟨by decide +kernel, by decide +kernel⟩, List.mem_of_getElem? (i := 257) (by decide +kernel), List.mem_of_getElem? (i := 868) (by decide +kernel), List.mem_of_getElem? (i := 869) (by decide +kernel)⟩
theorem lw_p14 : lw_okq (⟨"HotWeek$Rings", "firstOf", "(II)I"⟩, 3) := ⟨⟨by decide +kernel, by decide +kernel⟩, List.mem_of_getElem? (i := 257) (by decide +kernel), List.mem_of_getElem? (i := 872) (by decide +kernel), List.mem_of_getElem? (i := 873) (by decide +kernel)⟩
theorem lw_p15 : lw_okq (⟨"HotWeek$Rings", "lostBy", "(III)I"⟩, 3) := ⟨⟨by decide +kernel, by decide +kernel⟩, List.mem_of_getElem? (i := 257) (by decide +kernel), List.mem_of_getElem? (i := 877) (by decide +kernel), List.mem_of_getElem? (i := 878) (by decide +kernel)⟩
def lw_privs_1 : List (MethodName × Nat) := [(⟨"HotWeek$Reader", "readsWord", "(LHotWeek$Text;I)Z"⟩, 4), (⟨"HotWeek$Reader", "readsNumbers", "(LHotWeek$Text;I)Z"⟩, 4), (⟨"HotWeek$Reader", "isDoorToItself", "(III)Z"⟩, 4), (⟨"HotWeek$House", "tellRoom", "([I)V"⟩, 18), (⟨"HotWeek", "courseAsTold", "()LHotWeek$Course;"⟩, 12), (⟨"HotWeek$Plan", "takeWorksOff", "(ILHotWeek$House;)V"⟩, 7), (⟨"HotWeek$Course", "goOn", "(IILHotWeek$House;LHotWeek$Plan;)V"⟩, 3), (⟨"HotWeek$Course", "throughDoors", "(IILHotWeek$House;)I"⟩, 3), (⟨"HotWeek$BestClock", "keepBetter", "(III)V"⟩, 5), (⟨"HotWeek$Works", "costOf", "(I)I"⟩, 7), (⟨"HotWeek$Works", "put", "(ILHotWeek$Plan;)V"⟩, 7), (⟨"HotWeek$Glasses", "allHold", "(ILHotWeek$House;LHotWeek$Course;)Z"⟩, 9), (⟨"HotWeek$Glasses", "keep", "(II)V"⟩, 9), (⟨"HotWeek$Rings", "toldSet", "()I"⟩, 3), (⟨"HotWeek$Rings", "firstOf", "(II)I"⟩, 3), (⟨"HotWeek$Rings", "lostBy", "(III)I"⟩, 3)]
theorem lw_r1 : ∀ q ∈ lw_privs_1, lw_okq q := List.forall_mem_cons.mpr ⟨lw_p0, List.forall_mem_cons.mpr ⟨lw_p1, List.forall_mem_cons.mpr ⟨lw_p2, List.forall_mem_cons.mpr ⟨lw_p3, List.forall_mem_cons.mpr ⟨lw_p4, List.forall_mem_cons.mpr ⟨lw_p5, List.forall_mem_cons.mpr ⟨lw_p6, List.forall_mem_cons.mpr ⟨lw_p7, List.forall_mem_cons.mpr ⟨lw_p8, List.forall_mem_cons.mpr ⟨lw_p9, List.forall_mem_cons.mpr ⟨lw_p10, List.forall_mem_cons.mpr ⟨lw_p11, List.forall_mem_cons.mpr ⟨lw_p12, List.forall_mem_cons.mpr ⟨lw_p13, List.forall_mem_cons.mpr ⟨lw_p14, List.forall_mem_cons.mpr ⟨lw_p15, fun _ h => absurd h List.not_mem_nil⟩⟩⟩⟩⟩⟩⟩⟩⟩⟩⟩⟩⟩⟩⟩⟩
theorem lw_p16 : lw_okq (⟨"HotWeek$Street", "allHave", "(I)I"⟩, 8) := ⟨⟨by decide +kernel, by decide +kernel⟩, List.mem_of_getElem? (i := 273) (by decide +kernel), List.mem_of_getElem? (i := 903) (by decide +kernel), List.mem_of_getElem? (i := 904) (by decide +kernel)⟩
theorem lw_p17 : lw_okq (⟨"HotWeek$Street", "has", "(IZI)I"⟩, 8) := ⟨⟨by decide +kernel, by decide +kernel⟩, List.mem_of_getElem? (i := 273) (by decide +kernel), List.mem_of_getElem? (i := 908) (by decide +kernel), List.mem_of_getElem? (i := 909) (by decide +kernel)⟩
theorem lw_p18 : lw_okq (⟨"HotWeek$Street", "isRest", "(I)Z"⟩, 8) := ⟨⟨by decide +kernel, by decide +kernel⟩, List.mem_of_getElem? (i := 273) (by decide +kernel), List.mem_of_getElem? (i := 912) (by decide +kernel), List.mem_of_getElem? (i := 913) (by decide +kernel)⟩
theorem lw_p19 : lw_okq (⟨"HotWeek$Street", "keepRest", "(II)V"⟩, 8) := ⟨⟨by decide +kernel, by decide +kernel⟩, List.mem_of_getElem? (i := 273) (by decide +kernel), List.mem_of_getElem? (i := 916) (by decide +kernel), List.mem_of_getElem? (i := 917) (by decide +kernel)⟩
theorem lw_p20 : lw_okq (⟨"HotWeekModel", "isRead", "()Z"⟩, 48) := ⟨⟨by decide +kernel, by decide +kernel⟩, List.mem_of_getElem? (i := 958) (by decide +kernel), List.mem_of_getElem? (i := 1126) (by decide +kernel), List.mem_of_getElem? (i := 1127) (by decide +kernel)⟩
theorem lw_p21 : lw_okq (⟨"HotWeekModel", "isLine", "(I)Z"⟩, 48) := ⟨⟨by decide +kernel, by decide +kernel⟩, List.mem_of_getElem? (i := 958) (by decide +kernel), List.mem_of_getElem? (i := 1130) (by decide +kernel), List.mem_of_getElem? (i := 1131) (by decide +kernel)⟩
theorem lw_p22 : lw_okq (⟨"HotWeekModel", "nextToken", "()V"⟩, 48) := ⟨⟨by decide +kernel, by decide +kernel⟩, List.mem_of_getElem? (i := 958) (by decide +kernel), List.mem_of_getElem? (i := 1134) (by decide +kernel), List.mem_of_getElem? (i := 1135) (by decide +kernel)⟩
theorem lw_p23 : lw_okq (⟨"HotWeekModel", "isNumber", "(III)Z"⟩, 48) := ⟨⟨by decide +kernel, by decide +kernel⟩, List.mem_of_getElem? (i := 958) (by decide +kernel), List.mem_of_getElem? (i := 1154) (by decide +kernel), List.mem_of_getElem? (i := 1155) (by decide +kernel)⟩
theorem lw_p24 : lw_okq (⟨"HotWeekModel", "fails", "()Z"⟩, 48) := ⟨⟨by decide +kernel, by decide +kernel⟩, List.mem_of_getElem? (i := 958) (by decide +kernel), List.mem_of_getElem? (i := 1158) (by decide +kernel), List.mem_of_getElem? (i := 1159) (by decide +kernel)⟩
theorem lw_p25 : lw_okq (⟨"HotWeekModel", "isDoor", "(I)Z"⟩, 48) := ⟨⟨by decide +kernel, by decide +kernel⟩, List.mem_of_getElem? (i := 958) (by decide +kernel), List.mem_of_getElem? (i := 1162) (by decide +kernel), List.mem_of_getElem? (i := 1163) (by decide +kernel)⟩
theorem lw_p26 : lw_okq (⟨"HotWeekModel", "doLine", "(I)V"⟩, 48) := ⟨⟨by decide +kernel, by decide +kernel⟩, List.mem_of_getElem? (i := 958) (by decide +kernel), List.mem_of_getElem? (i := 1170) (by decide +kernel), List.mem_of_getElem? (i := 1171) (by decide +kernel)⟩
theorem lw_p27 : lw_okq (⟨"HotWeekModel", "doHours", "(III)V"⟩, 48) := ⟨⟨by decide +kernel, by decide +kernel⟩, List.mem_of_getElem? (i := 958) (by decide +kernel), List.mem_of_getElem? (i := 1174) (by decide +kernel), List.mem_of_getElem? (i := 1175) (by decide +kernel)⟩
theorem lw_p28 : lw_okq (⟨"HotWeekModel", "isRoom", "(I)Z"⟩, 48) := ⟨⟨by decide +kernel, by decide +kernel⟩, List.mem_of_getElem? (i := 958) (by decide +kernel), List.mem_of_getElem? (i := 1185) (by decide +kernel), List.mem_of_getElem? (i := 1186) (by decide +kernel)⟩
theorem lw_p29 : lw_okq (⟨"HotWeekModel", "outAt", "(I)I"⟩, 48) := ⟨⟨by decide +kernel, by decide +kernel⟩, List.mem_of_getElem? (i := 958) (by decide +kernel), List.mem_of_getElem? (i := 1200) (by decide +kernel), List.mem_of_getElem? (i := 1201) (by decide +kernel)⟩
theorem lw_p30 : lw_okq (⟨"HotWeekModel", "asTold", "()V"⟩, 48) := ⟨⟨by decide +kernel, by decide +kernel⟩, List.mem_of_getElem? (i := 958) (by decide +kernel), List.mem_of_getElem? (i := 1208) (by decide +kernel), List.mem_of_getElem? (i := 1209) (by decide +kernel)⟩
theorem lw_p31 : lw_okq (⟨"HotWeekModel", "goWeek", "()V"⟩, 48) := ⟨⟨by decide +kernel, by decide +kernel⟩, List.mem_of_getElem? (i := 958) (by decide +kernel), List.mem_of_getElem? (i := 1212) (by decide +kernel), List.mem_of_getElem? (i := 1213) (by decide +kernel)⟩
def lw_privs_2 : List (MethodName × Nat) := [(⟨"HotWeek$Street", "allHave", "(I)I"⟩, 8), (⟨"HotWeek$Street", "has", "(IZI)I"⟩, 8), (⟨"HotWeek$Street", "isRest", "(I)Z"⟩, 8), (⟨"HotWeek$Street", "keepRest", "(II)V"⟩, 8), (⟨"HotWeekModel", "isRead", "()Z"⟩, 48), (⟨"HotWeekModel", "isLine", "(I)Z"⟩, 48), (⟨"HotWeekModel", "nextToken", "()V"⟩, 48), (⟨"HotWeekModel", "isNumber", "(III)Z"⟩, 48), (⟨"HotWeekModel", "fails", "()Z"⟩, 48), (⟨"HotWeekModel", "isDoor", "(I)Z"⟩, 48), (⟨"HotWeekModel", "doLine", "(I)V"⟩, 48), (⟨"HotWeekModel", "doHours", "(III)V"⟩, 48), (⟨"HotWeekModel", "isRoom", "(I)Z"⟩, 48), (⟨"HotWeekModel", "outAt", "(I)I"⟩, 48), (⟨"HotWeekModel", "asTold", "()V"⟩, 48), (⟨"HotWeekModel", "goWeek", "()V"⟩, 48)]
theorem lw_r2 : ∀ q ∈ lw_privs_2, lw_okq q := List.forall_mem_cons.mpr ⟨lw_p16, List.forall_mem_cons.mpr ⟨lw_p17, List.forall_mem_cons.mpr ⟨lw_p18, List.forall_mem_cons.mpr ⟨lw_p19, List.forall_mem_cons.mpr ⟨lw_p20, List.forall_mem_cons.mpr ⟨lw_p21, List.forall_mem_cons.mpr ⟨lw_p22, List.forall_mem_cons.mpr ⟨lw_p23, List.forall_mem_cons.mpr ⟨lw_p24, List.forall_mem_cons.mpr ⟨lw_p25, List.forall_mem_cons.mpr ⟨lw_p26, List.forall_mem_cons.mpr ⟨lw_p27, List.forall_mem_cons.mpr ⟨lw_p28, List.forall_mem_cons.mpr ⟨lw_p29, List.forall_mem_cons.mpr ⟨lw_p30, List.forall_mem_cons.mpr ⟨lw_p31, fun _ h => absurd h List.not_mem_nil⟩⟩⟩⟩⟩⟩⟩⟩⟩⟩⟩⟩⟩⟩⟩⟩
theorem lw_p32 : lw_okq (⟨"HotWeekModel", "goHour", "(I)V"⟩, 48) := ⟨⟨by decide +kernel, by decide +kernel⟩, List.mem_of_getElem? (i := 958) (by decide +kernel), List.mem_of_getElem? (i := 1216) (by decide +kernel), List.mem_of_getElem? (i := 1217) (by decide +kernel)⟩
theorem lw_p33 : lw_okq (⟨"HotWeekModel", "sunAt", "(II)I"⟩, 48) := ⟨⟨by decide +kernel, by decide +kernel⟩, List.mem_of_getElem? (i := 958) (by decide +kernel), List.mem_of_getElem? (i := 1220) (by decide +kernel), List.mem_of_getElem? (i := 1221) (by decide +kernel)⟩
theorem lw_p34 : lw_okq (⟨"HotWeekModel", "isOpenAt", "(II)Z"⟩, 48) := ⟨⟨by decide +kernel, by decide +kernel⟩, List.mem_of_getElem? (i := 958) (by decide +kernel), List.mem_of_getElem? (i := 1224) (by decide +kernel), List.mem_of_getElem? (i := 1225) (by decide +kernel)⟩
theorem lw_p35 : lw_okq (⟨"HotWeekModel", "leaksOf", "(I)I"⟩, 48) := ⟨⟨by decide +kernel, by decide +kernel⟩, List.mem_of_getElem? (i := 958) (by decide +kernel), List.mem_of_getElem? (i := 1228) (by decide +kernel), List.mem_of_getElem? (i := 1229) (by decide +kernel)⟩
theorem lw_p36 : lw_okq (⟨"HotWeekModel", "nightOfAll", "()I"⟩, 48) := ⟨⟨by decide +kernel, by decide +kernel⟩, List.mem_of_getElem? (i := 958) (by decide +kernel), List.mem_of_getElem? (i := 1236) (by decide +kernel), List.mem_of_getElem? (i := 1237) (by decide +kernel)⟩
theorem lw_p37 : lw_okq (⟨"HotWeekModel", "nightOf", "(I)I"⟩, 48) := ⟨⟨by decide +kernel, by decide +kernel⟩, List.mem_of_getElem? (i := 958) (by decide +kernel), List.mem_of_getElem? (i := 1240) (by decide +kernel), List.mem_of_getElem? (i := 1241) (by decide +kernel)⟩
theorem lw_p38 : lw_okq (⟨"HotWeekModel", "nightByClock", "(II)I"⟩, 48) := ⟨⟨by decide +kernel, by decide +kernel⟩, List.mem_of_getElem? (i := 958) (by decide +kernel), List.mem_of_getElem? (i := 1257) (by decide +kernel), List.mem_of_getElem? (i := 1258) (by decide +kernel)⟩
theorem lw_p39 : lw_okq (⟨"HotWeekModel", "nightByGlass", "()I"⟩, 48) := ⟨⟨by decide +kernel, by decide +kernel⟩, List.mem_of_getElem? (i := 958) (by decide +kernel), List.mem_of_getElem? (i := 1261) (by decide +kernel), List.mem_of_getElem? (i := 1262) (by decide +kernel)⟩
theorem lw_p40 : lw_okq (⟨"HotWeekModel", "costOf", "(I)I"⟩, 48) := ⟨⟨by decide +kernel, by decide +kernel⟩, List.mem_of_getElem? (i := 958) (by decide +kernel), List.mem_of_getElem? (i := 1273) (by decide +kernel), List.mem_of_getElem? (i := 1274) (by decide +kernel)⟩
theorem lw_p41 : lw_okq (⟨"HotWeekModel", "doHold", "(I)Z"⟩, 48) := ⟨⟨by decide +kernel, by decide +kernel⟩, List.mem_of_getElem? (i := 958) (by decide +kernel), List.mem_of_getElem? (i := 1285) (by decide +kernel), List.mem_of_getElem? (i := 1286) (by decide +kernel)⟩
theorem lw_p42 : lw_okq (⟨"HotWeekModel", "toldFlats", "()I"⟩, 48) := ⟨⟨by decide +kernel, by decide +kernel⟩, List.mem_of_getElem? (i := 958) (by decide +kernel), List.mem_of_getElem? (i := 1297) (by decide +kernel), List.mem_of_getElem? (i := 1298) (by decide +kernel)⟩
theorem lw_p43 : lw_okq (⟨"HotWeekModel", "layRest", "(I)V"⟩, 48) := ⟨⟨by decide +kernel, by decide +kernel⟩, List.mem_of_getElem? (i := 958) (by decide +kernel), List.mem_of_getElem? (i := 1301) (by decide +kernel), List.mem_of_getElem? (i := 1302) (by decide +kernel)⟩
theorem lw_p44 : lw_okq (⟨"HotWeekModel", "lostBy", "(II)I"⟩, 48) := ⟨⟨by decide +kernel, by decide +kernel⟩, List.mem_of_getElem? (i := 958) (by decide +kernel), List.mem_of_getElem? (i := 1308) (by decide +kernel), List.mem_of_getElem? (i := 1309) (by decide +kernel)⟩
def lw_privs_3 : List (MethodName × Nat) := [(⟨"HotWeekModel", "goHour", "(I)V"⟩, 48), (⟨"HotWeekModel", "sunAt", "(II)I"⟩, 48), (⟨"HotWeekModel", "isOpenAt", "(II)Z"⟩, 48), (⟨"HotWeekModel", "leaksOf", "(I)I"⟩, 48), (⟨"HotWeekModel", "nightOfAll", "()I"⟩, 48), (⟨"HotWeekModel", "nightOf", "(I)I"⟩, 48), (⟨"HotWeekModel", "nightByClock", "(II)I"⟩, 48), (⟨"HotWeekModel", "nightByGlass", "()I"⟩, 48), (⟨"HotWeekModel", "costOf", "(I)I"⟩, 48), (⟨"HotWeekModel", "doHold", "(I)Z"⟩, 48), (⟨"HotWeekModel", "toldFlats", "()I"⟩, 48), (⟨"HotWeekModel", "layRest", "(I)V"⟩, 48), (⟨"HotWeekModel", "lostBy", "(II)I"⟩, 48)]
theorem lw_r3 : ∀ q ∈ lw_privs_3, lw_okq q := List.forall_mem_cons.mpr ⟨lw_p32, List.forall_mem_cons.mpr ⟨lw_p33, List.forall_mem_cons.mpr ⟨lw_p34, List.forall_mem_cons.mpr ⟨lw_p35, List.forall_mem_cons.mpr ⟨lw_p36, List.forall_mem_cons.mpr ⟨lw_p37, List.forall_mem_cons.mpr ⟨lw_p38, List.forall_mem_cons.mpr ⟨lw_p39, List.forall_mem_cons.mpr ⟨lw_p40, List.forall_mem_cons.mpr ⟨lw_p41, List.forall_mem_cons.mpr ⟨lw_p42, List.forall_mem_cons.mpr ⟨lw_p43, List.forall_mem_cons.mpr ⟨lw_p44, fun _ h => absurd h List.not_mem_nil⟩⟩⟩⟩⟩⟩⟩⟩⟩⟩⟩⟩⟩
def lw_privs : List (MethodName × Nat) := lw_privs_1 ++ (lw_privs_2 ++ (lw_privs_3))
def lw_tbl : List Cond := k2_sels lw_privs ++ tables_1
theorem lw_privs_ok : ∀ q ∈ lw_privs, lw_okq q := by
  show ∀ q ∈ lw_privs_1 ++ (lw_privs_2 ++ (lw_privs_3)), lw_okq q
  exact List.forall_mem_append.mpr ⟨lw_r1, List.forall_mem_append.mpr ⟨lw_r2, lw_r3⟩⟩
/-! ===== BEGIN words of one list among another's, by their places ===== -/
theorem goodIn_r {big : List Cond} (ws : List Cond) (ps : List Nat) (hp : ws = ps.filterMap (fun i => big[i]?)) (h : ws.all goodWord = true) : GoodIn big ws := by
  intro w hw
  have h1 := List.all_eq_true.mp h w hw
  rw [hp] at hw
  obtain ⟨i, -, hi⟩ := List.mem_filterMap.mp hw
  have hm : w ∈ big := by first | exact List.mem_of_getElem? hi | exact List.getElem?_mem hi
  exact ⟨hm, good_of_word h1⟩
theorem goodIn_app {big a b : List Cond} (ha : GoodIn big a) (hb : GoodIn big b) : GoodIn big (a ++ b) := fun w h => (List.mem_append.mp h).elim (ha w) (hb w)
theorem goodIn_ca {big a b : List Cond} {c : Cond} (ha : GoodIn big (c :: a)) (hb : GoodIn big b) : GoodIn big (c :: (a ++ b)) := fun w h => (List.mem_cons.mp h).elim (fun e => ha w (List.mem_cons.mpr (Or.inl e))) (fun h => (List.mem_append.mp h).elim (fun h => ha w (List.mem_cons.mpr (Or.inr h))) (hb w))
theorem goodIn_sub {big ws : List Cond} (hm : ∀ w ∈ ws, w ∈ big) (h : ws.all goodWord = true) : GoodIn big ws := fun w hw => ⟨hm w hw, good_of_word (List.all_eq_true.mp h w hw)⟩
def RX0 : String := "HotWeek$BestClock"
def TX0 : u_T := fun k => match k with
  | 0 => ("HotWeek$BestClock", "found", "Z", false)
  | 1 => ("HotWeek$BestClock", "from", "I", false)
  | 2 => ("HotWeek$BestClock", "to", "I", false)
  | 3 => ("HotWeek$BestClock", "nightOfAll", "I", false)
  | _ => ("HotWeek$BestClock", "nightByGlass", "I", false)
def tyX0 : Nat → FieldType := fun k => match k with
  | 0 => .boolean
  | 1 => .int
  | 2 => .int
  | 3 => .int
  | _ => .int
abbrev wsX00 : List Cond := u_ws RX0 TX0 5
theorem nmX0 : ∀ a, a < 5 → ∀ b, b < 5 → a ≠ b → (TX0 a).2.1 ≠ (TX0 b).2.1 := by decide +kernel
theorem tyX0_ok : ∀ k, k < 5 → parseFieldDescriptor (TX0 k).2.2.1 = some (tyX0 k) := by decide +kernel
abbrev cX0_init : ByteArray := prog_2_method_1_code
def yX0_init : MethodName := ⟨RX0, "<init>", "()V"⟩
abbrev cX0_forget : ByteArray := prog_2_method_2_code
def yX0_forget : MethodName := ⟨RX0, "forget", "()V"⟩
abbrev cX0_find : ByteArray := prog_2_method_3_code
def yX0_find : MethodName := ⟨RX0, "find", "(LHotWeek$House;LHotWeek$Plan;LHotWeek$Course;)V"⟩
abbrev cX0_keepBetter : ByteArray := prog_2_method_4_code
def yX0_keepBetter : MethodName := ⟨RX0, "keepBetter", "(III)V"⟩
abbrev cX0_from : ByteArray := prog_2_method_5_code
def yX0_from : MethodName := ⟨RX0, "from", "()I"⟩
abbrev cX0_to : ByteArray := prog_2_method_6_code
def yX0_to : MethodName := ⟨RX0, "to", "()I"⟩
abbrev cX0_nightOfAll : ByteArray := prog_2_method_7_code
def yX0_nightOfAll : MethodName := ⟨RX0, "nightOfAll", "()I"⟩
abbrev cX0_near : ByteArray := prog_2_method_8_code
def yX0_near : MethodName := ⟨RX0, "near", "()I"⟩
def RX1 : String := "HotWeek$Course"
def TX1 : u_T := fun k => match k with
  | 0 => ("HotWeek$Course", "air", "[[I", true)
  | 1 => ("HotWeek$Course", "wall", "[[I", true)
  | _ => ("HotWeek$Course", "open", "[[I", true)
def tyX1 : Nat → FieldType := fun k => match k with
  | 0 => .array (.array .int)
  | 1 => .array (.array .int)
  | _ => .array (.array .int)
abbrev wsX10 : List Cond := u_ws RX1 TX1 3
theorem nmX1 : ∀ a, a < 3 → ∀ b, b < 3 → a ≠ b → (TX1 a).2.1 ≠ (TX1 b).2.1 := by decide +kernel
theorem tyX1_ok : ∀ k, k < 3 → parseFieldDescriptor (TX1 k).2.2.1 = some (tyX1 k) := by decide +kernel
abbrev cX1_init : ByteArray := prog_3_method_1_code
def yX1_init : MethodName := ⟨RX1, "<init>", "()V"⟩
abbrev cX1_run : ByteArray := prog_3_method_2_code
def yX1_run : MethodName := ⟨RX1, "run", "(LHotWeek$House;LHotWeek$Plan;)V"⟩
abbrev cX1_goOn : ByteArray := prog_3_method_3_code
def yX1_goOn : MethodName := ⟨RX1, "goOn", "(IILHotWeek$House;LHotWeek$Plan;)V"⟩
abbrev cX1_throughDoors : ByteArray := prog_3_method_4_code
def yX1_throughDoors : MethodName := ⟨RX1, "throughDoors", "(IILHotWeek$House;)I"⟩
abbrev cX1_airBehind : ByteArray := prog_3_method_5_code
def yX1_airBehind : MethodName := ⟨RX1, "airBehind", "(II)I"⟩
abbrev cX1_wallBehind : ByteArray := prog_3_method_6_code
def yX1_wallBehind : MethodName := ⟨RX1, "wallBehind", "(II)I"⟩
abbrev cX1_openIn : ByteArray := prog_3_method_7_code
def yX1_openIn : MethodName := ⟨RX1, "openIn", "(II)I"⟩
abbrev cX1_nightOf : ByteArray := prog_3_method_8_code
def yX1_nightOf : MethodName := ⟨RX1, "nightOf", "(I)I"⟩
abbrev cX1_nightOfAll : ByteArray := prog_3_method_9_code
def yX1_nightOfAll : MethodName := ⟨RX1, "nightOfAll", "(LHotWeek$House;)I"⟩
abbrev cX1_longestAbove : ByteArray := prog_3_method_10_code
def yX1_longestAbove : MethodName := ⟨RX1, "longestAbove", "(II)I"⟩
def RX2 : String := "HotWeek$Glasses"
def TX2 : u_T := fun k => match k with
  | 0 => ("HotWeek$Glasses", "room", "[I", true)
  | 1 => ("HotWeek$Glasses", "hour", "[I", true)
  | 2 => ("HotWeek$Glasses", "air", "[I", true)
  | 3 => ("HotWeek$Glasses", "size", "I", false)
  | 4 => ("HotWeek$Glasses", "laws", "I", false)
  | 5 => ("HotWeek$Glasses", "leastGives", "I", false)
  | 6 => ("HotWeek$Glasses", "mostGives", "I", false)
  | 7 => ("HotWeek$Glasses", "leastTakes", "I", false)
  | _ => ("HotWeek$Glasses", "mostTakes", "I", false)
def tyX2 : Nat → FieldType := fun k => match k with
  | 0 => .array .int
  | 1 => .array .int
  | 2 => .array .int
  | 3 => .int
  | 4 => .int
  | 5 => .int
  | 6 => .int
  | 7 => .int
  | _ => .int
abbrev wsX20 : List Cond := u_ws RX2 TX2 9
theorem nmX2 : ∀ a, a < 9 → ∀ b, b < 9 → a ≠ b → (TX2 a).2.1 ≠ (TX2 b).2.1 := by decide +kernel
theorem tyX2_ok : ∀ k, k < 9 → parseFieldDescriptor (TX2 k).2.2.1 = some (tyX2 k) := by decide +kernel
abbrev cX2_init : ByteArray := prog_4_method_1_code
def yX2_init : MethodName := ⟨RX2, "<init>", "()V"⟩
abbrev cX2_size : ByteArray := prog_4_method_2_code
def yX2_size : MethodName := ⟨RX2, "size", "()I"⟩
abbrev cX2_isFull : ByteArray := prog_4_method_3_code
def yX2_isFull : MethodName := ⟨RX2, "isFull", "()Z"⟩
abbrev cX2_add : ByteArray := prog_4_method_4_code
def yX2_add : MethodName := ⟨RX2, "add", "(III)I"⟩
abbrev cX2_learn : ByteArray := prog_4_method_5_code
def yX2_learn : MethodName := ⟨RX2, "learn", "(ILHotWeek$House;LHotWeek$Plan;LHotWeek$Course;)V"⟩
abbrev cX2_allHold : ByteArray := prog_4_method_6_code
def yX2_allHold : MethodName := ⟨RX2, "allHold", "(ILHotWeek$House;LHotWeek$Course;)Z"⟩
abbrev cX2_keep : ByteArray := prog_4_method_7_code
def yX2_keep : MethodName := ⟨RX2, "keep", "(II)V"⟩
abbrev cX2_laws : ByteArray := prog_4_method_8_code
def yX2_laws : MethodName := ⟨RX2, "laws", "()I"⟩
abbrev cX2_bound : ByteArray := prog_4_method_9_code
def yX2_bound : MethodName := ⟨RX2, "bound", "(I)I"⟩
def RX3 : String := "HotWeek$House"
def TX3 : u_T := fun k => match k with
  | 0 => ("HotWeek$House", "told", "[Z", true)
  | 1 => ("HotWeek$House", "firstAir", "[I", true)
  | 2 => ("HotWeek$House", "firstWall", "[I", true)
  | 3 => ("HotWeek$House", "side", "[I", true)
  | 4 => ("HotWeek$House", "folk", "[I", true)
  | 5 => ("HotWeek$House", "habit", "[I", true)
  | 6 => ("HotWeek$House", "openHours", "[I", true)
  | 7 => ("HotWeek$House", "shutHours", "[I", true)
  | 8 => ("HotWeek$House", "passes", "[[I", true)
  | 9 => ("HotWeek$House", "homeHours", "I", false)
  | 10 => ("HotWeek$House", "cool", "I", false)
  | 11 => ("HotWeek$House", "hot", "I", false)
  | 12 => ("HotWeek$House", "warmer", "I", false)
  | 13 => ("HotWeek$House", "sun", "I", false)
  | 14 => ("HotWeek$House", "takes", "I", false)
  | 15 => ("HotWeek$House", "gives", "I", false)
  | 16 => ("HotWeek$House", "leaks", "I", false)
  | _ => ("HotWeek$House", "window", "I", false)
def tyX3 : Nat → FieldType := fun k => match k with
  | 0 => .array .boolean
  | 1 => .array .int
  | 2 => .array .int
  | 3 => .array .int
  | 4 => .array .int
  | 5 => .array .int
  | 6 => .array .int
  | 7 => .array .int
  | 8 => .array (.array .int)
  | 9 => .int
  | 10 => .int
  | 11 => .int
  | 12 => .int
  | 13 => .int
  | 14 => .int
  | 15 => .int
  | 16 => .int
  | _ => .int
abbrev wsX30 : List Cond := u_ws RX3 TX3 18
theorem nmX3 : ∀ a, a < 18 → ∀ b, b < 18 → a ≠ b → (TX3 a).2.1 ≠ (TX3 b).2.1 := by decide +kernel
theorem tyX3_ok : ∀ k, k < 18 → parseFieldDescriptor (TX3 k).2.2.1 = some (tyX3 k) := by decide +kernel
abbrev cX3_init : ByteArray := prog_5_method_1_code
def yX3_init : MethodName := ⟨RX3, "<init>", "()V"⟩
abbrev cX3_wordOf : ByteArray := prog_5_method_2_code
def yX3_wordOf : MethodName := ⟨RX3, "wordOf", "(I)Ljava/lang/String;"⟩
abbrev cX3_tell : ByteArray := prog_5_method_3_code
def yX3_tell : MethodName := ⟨RX3, "tell", "(I[I)V"⟩
abbrev cX3_tellRoom : ByteArray := prog_5_method_4_code
def yX3_tellRoom : MethodName := ⟨RX3, "tellRoom", "([I)V"⟩
abbrev cX3_isTold : ByteArray := prog_5_method_5_code
def yX3_isTold : MethodName := ⟨RX3, "isTold", "(I)Z"⟩
abbrev cX3_toldRooms : ByteArray := prog_5_method_6_code
def yX3_toldRooms : MethodName := ⟨RX3, "toldRooms", "()I"⟩
abbrev cX3_firstAir : ByteArray := prog_5_method_7_code
def yX3_firstAir : MethodName := ⟨RX3, "firstAir", "(I)I"⟩
abbrev cX3_firstWall : ByteArray := prog_5_method_8_code
def yX3_firstWall : MethodName := ⟨RX3, "firstWall", "(I)I"⟩
abbrev cX3_side : ByteArray := prog_5_method_9_code
def yX3_side : MethodName := ⟨RX3, "side", "(I)I"⟩
abbrev cX3_folk : ByteArray := prog_5_method_10_code
def yX3_folk : MethodName := ⟨RX3, "folk", "(I)I"⟩
abbrev cX3_habit : ByteArray := prog_5_method_11_code
def yX3_habit : MethodName := ⟨RX3, "habit", "(I)I"⟩
abbrev cX3_openHours : ByteArray := prog_5_method_12_code
def yX3_openHours : MethodName := ⟨RX3, "openHours", "(I)I"⟩
abbrev cX3_shutHours : ByteArray := prog_5_method_13_code
def yX3_shutHours : MethodName := ⟨RX3, "shutHours", "(I)I"⟩
abbrev cX3_passes : ByteArray := prog_5_method_14_code
def yX3_passes : MethodName := ⟨RX3, "passes", "(II)I"⟩
abbrev cX3_homeHours : ByteArray := prog_5_method_15_code
def yX3_homeHours : MethodName := ⟨RX3, "homeHours", "()I"⟩
abbrev cX3_takes : ByteArray := prog_5_method_16_code
def yX3_takes : MethodName := ⟨RX3, "takes", "()I"⟩
abbrev cX3_gives : ByteArray := prog_5_method_17_code
def yX3_gives : MethodName := ⟨RX3, "gives", "()I"⟩
abbrev cX3_leaks : ByteArray := prog_5_method_18_code
def yX3_leaks : MethodName := ⟨RX3, "leaks", "()I"⟩
abbrev cX3_window : ByteArray := prog_5_method_19_code
def yX3_window : MethodName := ⟨RX3, "window", "()I"⟩
abbrev cX3_skyAt : ByteArray := prog_5_method_20_code
def yX3_skyAt : MethodName := ⟨RX3, "skyAt", "(I)I"⟩
abbrev cX3_sunIn : ByteArray := prog_5_method_21_code
def yX3_sunIn : MethodName := ⟨RX3, "sunIn", "(II)I"⟩
abbrev cX3_shinesOn : ByteArray := prog_5_method_22_code
def yX3_shinesOn : MethodName := ⟨RX3, "shinesOn", "(II)Z"⟩
def RX4 : String := "HotWeek$Plan"
def TX4 : u_T := fun k => match k with
  | 0 => ("HotWeek$Plan", "habit", "[I", true)
  | 1 => ("HotWeek$Plan", "openHours", "[I", true)
  | 2 => ("HotWeek$Plan", "leaks", "[I", true)
  | 3 => ("HotWeek$Plan", "sun", "[[I", true)
  | 4 => ("HotWeek$Plan", "sky", "[I", true)
  | 5 => ("HotWeek$Plan", "takes", "I", false)
  | _ => ("HotWeek$Plan", "gives", "I", false)
def tyX4 : Nat → FieldType := fun k => match k with
  | 0 => .array .int
  | 1 => .array .int
  | 2 => .array .int
  | 3 => .array (.array .int)
  | 4 => .array .int
  | 5 => .int
  | _ => .int
abbrev wsX40 : List Cond := u_ws RX4 TX4 7
theorem nmX4 : ∀ a, a < 7 → ∀ b, b < 7 → a ≠ b → (TX4 a).2.1 ≠ (TX4 b).2.1 := by decide +kernel
theorem tyX4_ok : ∀ k, k < 7 → parseFieldDescriptor (TX4 k).2.2.1 = some (tyX4 k) := by decide +kernel
abbrev cX4_init : ByteArray := prog_6_method_1_code
def yX4_init : MethodName := ⟨RX4, "<init>", "()V"⟩
abbrev cX4_takeFrom : ByteArray := prog_6_method_2_code
def yX4_takeFrom : MethodName := ⟨RX4, "takeFrom", "(LHotWeek$House;)V"⟩
abbrev cX4_takeWorksOff : ByteArray := prog_6_method_3_code
def yX4_takeWorksOff : MethodName := ⟨RX4, "takeWorksOff", "(ILHotWeek$House;)V"⟩
abbrev cX4_takeAllWorksOff : ByteArray := prog_6_method_4_code
def yX4_takeAllWorksOff : MethodName := ⟨RX4, "takeAllWorksOff", "(LHotWeek$House;)V"⟩
abbrev cX4_putWork : ByteArray := prog_6_method_5_code
def yX4_putWork : MethodName := ⟨RX4, "putWork", "(III)V"⟩
abbrev cX4_putHabit : ByteArray := prog_6_method_6_code
def yX4_putHabit : MethodName := ⟨RX4, "putHabit", "(II)V"⟩
abbrev cX4_putAllByGlass : ByteArray := prog_6_method_7_code
def yX4_putAllByGlass : MethodName := ⟨RX4, "putAllByGlass", "()V"⟩
abbrev cX4_putAllByClock : ByteArray := prog_6_method_8_code
def yX4_putAllByClock : MethodName := ⟨RX4, "putAllByClock", "(I)V"⟩
abbrev cX4_putLaw : ByteArray := prog_6_method_9_code
def yX4_putLaw : MethodName := ⟨RX4, "putLaw", "(II)V"⟩
abbrev cX4_skyAt : ByteArray := prog_6_method_10_code
def yX4_skyAt : MethodName := ⟨RX4, "skyAt", "(I)I"⟩
abbrev cX4_sunIn : ByteArray := prog_6_method_11_code
def yX4_sunIn : MethodName := ⟨RX4, "sunIn", "(II)I"⟩
abbrev cX4_leaks : ByteArray := prog_6_method_12_code
def yX4_leaks : MethodName := ⟨RX4, "leaks", "(I)I"⟩
abbrev cX4_takes : ByteArray := prog_6_method_13_code
def yX4_takes : MethodName := ⟨RX4, "takes", "()I"⟩
abbrev cX4_gives : ByteArray := prog_6_method_14_code
def yX4_gives : MethodName := ⟨RX4, "gives", "()I"⟩
abbrev cX4_wouldOpen : ByteArray := prog_6_method_15_code
def yX4_wouldOpen : MethodName := ⟨RX4, "wouldOpen", "(III)Z"⟩
def RX5 : String := "HotWeek$Reader"
def TX5 : u_T := fun k => match k with
  | 0 => ("HotWeek$Reader", "kinds", "[I", true)
  | 1 => ("HotWeek$Reader", "numbers", "[[I", true)
  | 2 => ("HotWeek$Reader", "lines", "I", false)
  | _ => ("HotWeek$Reader", "place", "I", false)
def tyX5 : Nat → FieldType := fun k => match k with
  | 0 => .array .int
  | 1 => .array (.array .int)
  | 2 => .int
  | _ => .int
abbrev wsX50 : List Cond := u_ws RX5 TX5 4
theorem nmX5 : ∀ a, a < 4 → ∀ b, b < 4 → a ≠ b → (TX5 a).2.1 ≠ (TX5 b).2.1 := by decide +kernel
theorem tyX5_ok : ∀ k, k < 4 → parseFieldDescriptor (TX5 k).2.2.1 = some (tyX5 k) := by decide +kernel
abbrev cX5_init : ByteArray := prog_7_method_1_code
def yX5_init : MethodName := ⟨RX5, "<init>", "()V"⟩
abbrev cX5_lines : ByteArray := prog_7_method_2_code
def yX5_lines : MethodName := ⟨RX5, "lines", "()I"⟩
abbrev cX5_kindOf : ByteArray := prog_7_method_3_code
def yX5_kindOf : MethodName := ⟨RX5, "kindOf", "(I)I"⟩
abbrev cX5_numbersOf : ByteArray := prog_7_method_4_code
def yX5_numbersOf : MethodName := ⟨RX5, "numbersOf", "(I)[I"⟩
abbrev cX5_faultOf : ByteArray := prog_7_method_5_code
def yX5_faultOf : MethodName := ⟨RX5, "faultOf", "(LHotWeek$Text;)I"⟩
abbrev cX5_readsWord : ByteArray := prog_7_method_6_code
def yX5_readsWord : MethodName := ⟨RX5, "readsWord", "(LHotWeek$Text;I)Z"⟩
abbrev cX5_readsNumbers : ByteArray := prog_7_method_7_code
def yX5_readsNumbers : MethodName := ⟨RX5, "readsNumbers", "(LHotWeek$Text;I)Z"⟩
abbrev cX5_isDoorToItself : ByteArray := prog_7_method_8_code
def yX5_isDoorToItself : MethodName := ⟨RX5, "isDoorToItself", "(III)Z"⟩
def RX6 : String := "HotWeek$Rings"
def TX6 : u_T := fun k => match k with
  | 0 => ("HotWeek$Rings", "weight", "[I", true)
  | 1 => ("HotWeek$Rings", "due", "[I", true)
  | _ => ("HotWeek$Rings", "leastLost", "[I", true)
def tyX6 : Nat → FieldType := fun k => match k with
  | 0 => .array .int
  | 1 => .array .int
  | _ => .array .int
abbrev wsX60 : List Cond := u_ws RX6 TX6 3
theorem nmX6 : ∀ a, a < 3 → ∀ b, b < 3 → a ≠ b → (TX6 a).2.1 ≠ (TX6 b).2.1 := by decide +kernel
theorem tyX6_ok : ∀ k, k < 3 → parseFieldDescriptor (TX6 k).2.2.1 = some (tyX6 k) := by decide +kernel
abbrev cX6_init : ByteArray := prog_8_method_1_code
def yX6_init : MethodName := ⟨RX6, "<init>", "()V"⟩
abbrev cX6_tell : ByteArray := prog_8_method_2_code
def yX6_tell : MethodName := ⟨RX6, "tell", "(III)V"⟩
abbrev cX6_toldSet : ByteArray := prog_8_method_3_code
def yX6_toldSet : MethodName := ⟨RX6, "toldSet", "()I"⟩
abbrev cX6_toldFlats : ByteArray := prog_8_method_4_code
def yX6_toldFlats : MethodName := ⟨RX6, "toldFlats", "()I"⟩
abbrev cX6_weigh : ByteArray := prog_8_method_5_code
def yX6_weigh : MethodName := ⟨RX6, "weigh", "()V"⟩
abbrev cX6_lost : ByteArray := prog_8_method_6_code
def yX6_lost : MethodName := ⟨RX6, "lost", "()I"⟩
abbrev cX6_flatAt : ByteArray := prog_8_method_7_code
def yX6_flatAt : MethodName := ⟨RX6, "flatAt", "(I)I"⟩
abbrev cX6_firstOf : ByteArray := prog_8_method_8_code
def yX6_firstOf : MethodName := ⟨RX6, "firstOf", "(II)I"⟩
abbrev cX6_lostBy : ByteArray := prog_8_method_9_code
def yX6_lostBy : MethodName := ⟨RX6, "lostBy", "(III)I"⟩
def RX7 : String := "HotWeek$Street"
def TX7 : u_T := fun k => match k with
  | 0 => ("HotWeek$Street", "houses", "I", false)
  | 1 => ("HotWeek$Street", "better", "I", false)
  | 2 => ("HotWeek$Street", "worse", "I", false)
  | 3 => ("HotWeek$Street", "price", "I", false)
  | 4 => ("HotWeek$Street", "rests", "I", false)
  | 5 => ("HotWeek$Street", "bestRest", "I", false)
  | 6 => ("HotWeek$Street", "mostByRest", "I", false)
  | _ => ("HotWeek$Street", "mostByAny", "I", false)
def tyX7 : Nat → FieldType := fun k => match k with
  | 0 => .int
  | 1 => .int
  | 2 => .int
  | 3 => .int
  | 4 => .int
  | 5 => .int
  | 6 => .int
  | _ => .int
abbrev wsX70 : List Cond := u_ws RX7 TX7 8
theorem nmX7 : ∀ a, a < 8 → ∀ b, b < 8 → a ≠ b → (TX7 a).2.1 ≠ (TX7 b).2.1 := by decide +kernel
theorem tyX7_ok : ∀ k, k < 8 → parseFieldDescriptor (TX7 k).2.2.1 = some (tyX7 k) := by decide +kernel
abbrev cX7_init : ByteArray := prog_9_method_1_code
def yX7_init : MethodName := ⟨RX7, "<init>", "()V"⟩
abbrev cX7_look : ByteArray := prog_9_method_2_code
def yX7_look : MethodName := ⟨RX7, "look", "(IIII)V"⟩
abbrev cX7_keepRest : ByteArray := prog_9_method_3_code
def yX7_keepRest : MethodName := ⟨RX7, "keepRest", "(II)V"⟩
abbrev cX7_allHave : ByteArray := prog_9_method_4_code
def yX7_allHave : MethodName := ⟨RX7, "allHave", "(I)I"⟩
abbrev cX7_isRest : ByteArray := prog_9_method_5_code
def yX7_isRest : MethodName := ⟨RX7, "isRest", "(I)Z"⟩
abbrev cX7_has : ByteArray := prog_9_method_6_code
def yX7_has : MethodName := ⟨RX7, "has", "(IZI)I"⟩
abbrev cX7_rests : ByteArray := prog_9_method_7_code
def yX7_rests : MethodName := ⟨RX7, "rests", "()I"⟩
abbrev cX7_bestRest : ByteArray := prog_9_method_8_code
def yX7_bestRest : MethodName := ⟨RX7, "bestRest", "()I"⟩
abbrev cX7_mostByRest : ByteArray := prog_9_method_9_code
def yX7_mostByRest : MethodName := ⟨RX7, "mostByRest", "()I"⟩
abbrev cX7_mostByAny : ByteArray := prog_9_method_10_code
def yX7_mostByAny : MethodName := ⟨RX7, "mostByAny", "()I"⟩
def RX8 : String := "HotWeek$Text"
def TX8 : u_T := fun k => match k with
  | 0 => ("HotWeek$Text", "bytes", "[I", true)
  | _ => ("HotWeek$Text", "length", "I", false)
def tyX8 : Nat → FieldType := fun k => match k with
  | 0 => .array .int
  | _ => .int
abbrev wsX80 : List Cond := u_ws RX8 TX8 2
theorem nmX8 : ∀ a, a < 2 → ∀ b, b < 2 → a ≠ b → (TX8 a).2.1 ≠ (TX8 b).2.1 := by decide +kernel
theorem tyX8_ok : ∀ k, k < 2 → parseFieldDescriptor (TX8 k).2.2.1 = some (tyX8 k) := by decide +kernel
abbrev cX8_init : ByteArray := prog_10_method_1_code
def yX8_init : MethodName := ⟨RX8, "<init>", "()V"⟩
abbrev cX8_length : ByteArray := prog_10_method_2_code
def yX8_length : MethodName := ⟨RX8, "length", "()I"⟩
abbrev cX8_hasSpaceFor : ByteArray := prog_10_method_3_code
def yX8_hasSpaceFor : MethodName := ⟨RX8, "hasSpaceFor", "(I)Z"⟩
abbrev cX8_add : ByteArray := prog_10_method_4_code
def yX8_add : MethodName := ⟨RX8, "add", "(I)V"⟩
abbrev cX8_clear : ByteArray := prog_10_method_5_code
def yX8_clear : MethodName := ⟨RX8, "clear", "()V"⟩
abbrev cX8_at : ByteArray := prog_10_method_6_code
def yX8_at : MethodName := ⟨RX8, "at", "(I)I"⟩
abbrev cX8_behindBlanks : ByteArray := prog_10_method_7_code
def yX8_behindBlanks : MethodName := ⟨RX8, "behindBlanks", "(I)I"⟩
abbrev cX8_endOfToken : ByteArray := prog_10_method_8_code
def yX8_endOfToken : MethodName := ⟨RX8, "endOfToken", "(I)I"⟩
abbrev cX8_spells : ByteArray := prog_10_method_9_code
def yX8_spells : MethodName := ⟨RX8, "spells", "(IILjava/lang/String;)Z"⟩
abbrev cX8_numberIn : ByteArray := prog_10_method_10_code
def yX8_numberIn : MethodName := ⟨RX8, "numberIn", "(II)I"⟩
abbrev cX8_isLetter : ByteArray := prog_10_method_11_code
def yX8_isLetter : MethodName := ⟨RX8, "isLetter", "(I)Z"⟩
abbrev cX8_isDigit : ByteArray := prog_10_method_12_code
def yX8_isDigit : MethodName := ⟨RX8, "isDigit", "(I)Z"⟩
def RX9 : String := "HotWeek$Works"
def TX9 : u_T := fun k => match k with
  | 0 => ("HotWeek$Works", "room", "[I", true)
  | 1 => ("HotWeek$Works", "cost", "[I", true)
  | 2 => ("HotWeek$Works", "sun", "[I", true)
  | 3 => ("HotWeek$Works", "leak", "[I", true)
  | 4 => ("HotWeek$Works", "size", "I", false)
  | 5 => ("HotWeek$Works", "bestSet", "I", false)
  | _ => ("HotWeek$Works", "bestNight", "I", false)
def tyX9 : Nat → FieldType := fun k => match k with
  | 0 => .array .int
  | 1 => .array .int
  | 2 => .array .int
  | 3 => .array .int
  | 4 => .int
  | 5 => .int
  | _ => .int
abbrev wsX90 : List Cond := u_ws RX9 TX9 7
theorem nmX9 : ∀ a, a < 7 → ∀ b, b < 7 → a ≠ b → (TX9 a).2.1 ≠ (TX9 b).2.1 := by decide +kernel
theorem tyX9_ok : ∀ k, k < 7 → parseFieldDescriptor (TX9 k).2.2.1 = some (tyX9 k) := by decide +kernel
abbrev cX9_init : ByteArray := prog_11_method_1_code
def yX9_init : MethodName := ⟨RX9, "<init>", "()V"⟩
abbrev cX9_size : ByteArray := prog_11_method_2_code
def yX9_size : MethodName := ⟨RX9, "size", "()I"⟩
abbrev cX9_isFull : ByteArray := prog_11_method_3_code
def yX9_isFull : MethodName := ⟨RX9, "isFull", "()Z"⟩
abbrev cX9_add : ByteArray := prog_11_method_4_code
def yX9_add : MethodName := ⟨RX9, "add", "(IIII)I"⟩
abbrev cX9_findFor : ByteArray := prog_11_method_5_code
def yX9_findFor : MethodName := ⟨RX9, "findFor", "(ILHotWeek$House;LHotWeek$Plan;LHotWeek$Course;)V"⟩
abbrev cX9_costOf : ByteArray := prog_11_method_6_code
def yX9_costOf : MethodName := ⟨RX9, "costOf", "(I)I"⟩
abbrev cX9_put : ByteArray := prog_11_method_7_code
def yX9_put : MethodName := ⟨RX9, "put", "(ILHotWeek$Plan;)V"⟩
abbrev cX9_bestSet : ByteArray := prog_11_method_8_code
def yX9_bestSet : MethodName := ⟨RX9, "bestSet", "()I"⟩
abbrev cX9_bestNight : ByteArray := prog_11_method_9_code
def yX9_bestNight : MethodName := ⟨RX9, "bestNight", "()I"⟩
def RX10 : String := "HotWeek"
def TX10 : u_T := fun k => match k with
  | 0 => ("HotWeek", "text", "LHotWeek$Text;", true)
  | 1 => ("HotWeek", "reader", "LHotWeek$Reader;", true)
  | 2 => ("HotWeek", "house", "LHotWeek$House;", true)
  | 3 => ("HotWeek", "plan", "LHotWeek$Plan;", true)
  | 4 => ("HotWeek", "told", "LHotWeek$Course;", true)
  | 5 => ("HotWeek", "tried", "LHotWeek$Course;", true)
  | 6 => ("HotWeek", "bestClock", "LHotWeek$BestClock;", true)
  | 7 => ("HotWeek", "works", "LHotWeek$Works;", true)
  | 8 => ("HotWeek", "glasses", "LHotWeek$Glasses;", true)
  | 9 => ("HotWeek", "rings", "LHotWeek$Rings;", true)
  | 10 => ("HotWeek", "street", "LHotWeek$Street;", true)
  | _ => ("HotWeek", "toldStands", "Z", false)
def tyX10 : Nat → FieldType := fun k => match k with
  | 0 => .object "HotWeek$Text"
  | 1 => .object "HotWeek$Reader"
  | 2 => .object "HotWeek$House"
  | 3 => .object "HotWeek$Plan"
  | 4 => .object "HotWeek$Course"
  | 5 => .object "HotWeek$Course"
  | 6 => .object "HotWeek$BestClock"
  | 7 => .object "HotWeek$Works"
  | 8 => .object "HotWeek$Glasses"
  | 9 => .object "HotWeek$Rings"
  | 10 => .object "HotWeek$Street"
  | _ => .boolean
abbrev wsX100 : List Cond := u_ws RX10 TX10 12
theorem nmX10 : ∀ a, a < 12 → ∀ b, b < 12 → a ≠ b → (TX10 a).2.1 ≠ (TX10 b).2.1 := by decide +kernel
theorem tyX10_ok : ∀ k, k < 12 → parseFieldDescriptor (TX10 k).2.2.1 = some (tyX10 k) := by decide +kernel
abbrev cX10_init : ByteArray := prog_1_method_1_code
def yX10_init : MethodName := ⟨RX10, "<init>", "()V"⟩
abbrev cX10_write : ByteArray := prog_1_method_2_code
def yX10_write : MethodName := ⟨RX10, "write", "(JI)I"⟩
abbrev cX10_erase : ByteArray := prog_1_method_3_code
def yX10_erase : MethodName := ⟨RX10, "erase", "()I"⟩
abbrev cX10_fault : ByteArray := prog_1_method_4_code
def yX10_fault : MethodName := ⟨RX10, "fault", "()I"⟩
abbrev cX10_week : ByteArray := prog_1_method_5_code
def yX10_week : MethodName := ⟨RX10, "week", "()I"⟩
abbrev cX10_room : ByteArray := prog_1_method_6_code
def yX10_room : MethodName := ⟨RX10, "room", "(II)I"⟩
abbrev cX10_door : ByteArray := prog_1_method_7_code
def yX10_door : MethodName := ⟨RX10, "door", "(II)I"⟩
abbrev cX10_out : ByteArray := prog_1_method_8_code
def yX10_out : MethodName := ⟨RX10, "out", "(I)I"⟩
abbrev cX10_warm : ByteArray := prog_1_method_9_code
def yX10_warm : MethodName := ⟨RX10, "warm", "(III)I"⟩
abbrev cX10_night : ByteArray := prog_1_method_10_code
def yX10_night : MethodName := ⟨RX10, "night", "(I)I"⟩
abbrev cX10_above : ByteArray := prog_1_method_11_code
def yX10_above : MethodName := ⟨RX10, "above", "(II)I"⟩
abbrev cX10_costs : ByteArray := prog_1_method_12_code
def yX10_costs : MethodName := ⟨RX10, "costs", "(I)I"⟩
abbrev cX10_clock : ByteArray := prog_1_method_13_code
def yX10_clock : MethodName := ⟨RX10, "clock", "(I)I"⟩
abbrev cX10_work : ByteArray := prog_1_method_14_code
def yX10_work : MethodName := ⟨RX10, "work", "(IIII)I"⟩
abbrev cX10_works : ByteArray := prog_1_method_15_code
def yX10_works : MethodName := ⟨RX10, "works", "(II)I"⟩
abbrev cX10_read : ByteArray := prog_1_method_16_code
def yX10_read : MethodName := ⟨RX10, "read", "(III)I"⟩
abbrev cX10_learnt : ByteArray := prog_1_method_17_code
def yX10_learnt : MethodName := ⟨RX10, "learnt", "(II)I"⟩
abbrev cX10_flat : ByteArray := prog_1_method_18_code
def yX10_flat : MethodName := ⟨RX10, "flat", "(III)I"⟩
abbrev cX10_ring : ByteArray := prog_1_method_19_code
def yX10_ring : MethodName := ⟨RX10, "ring", "(I)I"⟩
abbrev cX10_street : ByteArray := prog_1_method_20_code
def yX10_street : MethodName := ⟨RX10, "street", "(IIIII)I"⟩
abbrev cX10_count : ByteArray := prog_1_method_21_code
def yX10_count : MethodName := ⟨RX10, "count", "(I)I"⟩
abbrev cX10_courseAsTold : ByteArray := prog_1_method_22_code
def yX10_courseAsTold : MethodName := ⟨RX10, "courseAsTold", "()LHotWeek$Course;"⟩
abbrev cX10_isWithin : ByteArray := prog_1_method_23_code
def yX10_isWithin : MethodName := ⟨RX10, "isWithin", "(III)Z"⟩
abbrev cX10_isRoom : ByteArray := prog_1_method_24_code
def yX10_isRoom : MethodName := ⟨RX10, "isRoom", "(I)Z"⟩
abbrev cX10_isHour : ByteArray := prog_1_method_25_code
def yX10_isHour : MethodName := ⟨RX10, "isHour", "(I)Z"⟩
abbrev cX10_hasBit : ByteArray := prog_1_method_26_code
def yX10_hasBit : MethodName := ⟨RX10, "hasBit", "(II)Z"⟩
abbrev cX10_hoursFrom : ByteArray := prog_1_method_27_code
def yX10_hoursFrom : MethodName := ⟨RX10, "hoursFrom", "(II)I"⟩
def RX11 : String := "HotWeekModel"
def TX11 : u_T := fun k => match k with
  | 0 => ("HotWeekModel", "told", "I", false)
  | 1 => ("HotWeekModel", "room", "[I", true)
  | 2 => ("HotWeekModel", "habit", "[I", true)
  | 3 => ("HotWeekModel", "open", "[I", true)
  | 4 => ("HotWeekModel", "shut", "[I", true)
  | 5 => ("HotWeekModel", "door", "[I", true)
  | 6 => ("HotWeekModel", "cool", "I", false)
  | 7 => ("HotWeekModel", "hot", "I", false)
  | 8 => ("HotWeekModel", "more", "I", false)
  | 9 => ("HotWeekModel", "sun", "I", false)
  | 10 => ("HotWeekModel", "takes", "I", false)
  | 11 => ("HotWeekModel", "gives", "I", false)
  | 12 => ("HotWeekModel", "leaks", "I", false)
  | 13 => ("HotWeekModel", "window", "I", false)
  | 14 => ("HotWeekModel", "home", "I", false)
  | 15 => ("HotWeekModel", "bytes", "I", false)
  | 16 => ("HotWeekModel", "text", "[I", true)
  | 17 => ("HotWeekModel", "position", "I", false)
  | 18 => ("HotWeekModel", "tokenAt", "I", false)
  | 19 => ("HotWeekModel", "token", "J", false)
  | 20 => ("HotWeekModel", "digits", "I", false)
  | 21 => ("HotWeekModel", "number", "I", false)
  | 22 => ("HotWeekModel", "faultAt", "I", false)
  | 23 => ("HotWeekModel", "readMany", "I", false)
  | 24 => ("HotWeekModel", "read", "[I", true)
  | 25 => ("HotWeekModel", "air", "[I", true)
  | 26 => ("HotWeekModel", "wall", "[I", true)
  | 27 => ("HotWeekModel", "isOpen", "[I", true)
  | 28 => ("HotWeekModel", "airNow", "[I", true)
  | 29 => ("HotWeekModel", "wallNow", "[I", true)
  | 30 => ("HotWeekModel", "airThen", "[I", true)
  | 31 => ("HotWeekModel", "wallThen", "[I", true)
  | 32 => ("HotWeekModel", "worksNow", "I", false)
  | 33 => ("HotWeekModel", "habitNow", "[I", true)
  | 34 => ("HotWeekModel", "openNow", "[I", true)
  | 35 => ("HotWeekModel", "works", "I", false)
  | 36 => ("HotWeekModel", "workRoom", "[I", true)
  | 37 => ("HotWeekModel", "workCost", "[I", true)
  | 38 => ("HotWeekModel", "workSun", "[I", true)
  | 39 => ("HotWeekModel", "workLeak", "[I", true)
  | 40 => ("HotWeekModel", "rows", "I", false)
  | 41 => ("HotWeekModel", "rowRoom", "[I", true)
  | 42 => ("HotWeekModel", "rowHour", "[I", true)
  | 43 => ("HotWeekModel", "rowAir", "[I", true)
  | 44 => ("HotWeekModel", "weight", "[I", true)
  | 45 => ("HotWeekModel", "due", "[I", true)
  | 46 => ("HotWeekModel", "rest", "[I", true)
  | _ => ("HotWeekModel", "learnt", "[I", true)
def tyX11 : Nat → FieldType := fun k => match k with
  | 0 => .int
  | 1 => .array .int
  | 2 => .array .int
  | 3 => .array .int
  | 4 => .array .int
  | 5 => .array .int
  | 6 => .int
  | 7 => .int
  | 8 => .int
  | 9 => .int
  | 10 => .int
  | 11 => .int
  | 12 => .int
  | 13 => .int
  | 14 => .int
  | 15 => .int
  | 16 => .array .int
  | 17 => .int
  | 18 => .int
  | 19 => .long
  | 20 => .int
  | 21 => .int
  | 22 => .int
  | 23 => .int
  | 24 => .array .int
  | 25 => .array .int
  | 26 => .array .int
  | 27 => .array .int
  | 28 => .array .int
  | 29 => .array .int
  | 30 => .array .int
  | 31 => .array .int
  | 32 => .int
  | 33 => .array .int
  | 34 => .array .int
  | 35 => .int
  | 36 => .array .int
  | 37 => .array .int
  | 38 => .array .int
  | 39 => .array .int
  | 40 => .int
  | 41 => .array .int
  | 42 => .array .int
  | 43 => .array .int
  | 44 => .array .int
  | 45 => .array .int
  | 46 => .array .int
  | _ => .array .int
abbrev wsX110 : List Cond := u_ws RX11 TX11 48
theorem nmX11 : ∀ a, a < 48 → ∀ b, b < 48 → a ≠ b → (TX11 a).2.1 ≠ (TX11 b).2.1 := by decide +kernel
theorem tyX11_ok : ∀ k, k < 48 → parseFieldDescriptor (TX11 k).2.2.1 = some (tyX11 k) := by decide +kernel
abbrev cX11_init : ByteArray := prog_13_method_1_code
def yX11_init : MethodName := ⟨RX11, "<init>", "()V"⟩
abbrev cX11_in : ByteArray := prog_13_method_2_code
def yX11_in : MethodName := ⟨RX11, "in", "(III)Z"⟩
abbrev cX11_has : ByteArray := prog_13_method_3_code
def yX11_has : MethodName := ⟨RX11, "has", "(II)Z"⟩
abbrev cX11_bits : ByteArray := prog_13_method_4_code
def yX11_bits : MethodName := ⟨RX11, "bits", "(I)I"⟩
abbrev cX11_isRoom : ByteArray := prog_13_method_5_code
def yX11_isRoom : MethodName := ⟨RX11, "isRoom", "(I)Z"⟩
abbrev cX11_write : ByteArray := prog_13_method_6_code
def yX11_write : MethodName := ⟨RX11, "write", "(JI)I"⟩
abbrev cX11_erase : ByteArray := prog_13_method_7_code
def yX11_erase : MethodName := ⟨RX11, "erase", "()I"⟩
abbrev cX11_nextToken : ByteArray := prog_13_method_8_code
def yX11_nextToken : MethodName := ⟨RX11, "nextToken", "()V"⟩
abbrev cX11_fails : ByteArray := prog_13_method_9_code
def yX11_fails : MethodName := ⟨RX11, "fails", "()Z"⟩
abbrev cX11_isNumber : ByteArray := prog_13_method_10_code
def yX11_isNumber : MethodName := ⟨RX11, "isNumber", "(III)Z"⟩
abbrev cX11_isDoor : ByteArray := prog_13_method_11_code
def yX11_isDoor : MethodName := ⟨RX11, "isDoor", "(I)Z"⟩
abbrev cX11_isLine : ByteArray := prog_13_method_12_code
def yX11_isLine : MethodName := ⟨RX11, "isLine", "(I)Z"⟩
abbrev cX11_isRead : ByteArray := prog_13_method_13_code
def yX11_isRead : MethodName := ⟨RX11, "isRead", "()Z"⟩
abbrev cX11_fault : ByteArray := prog_13_method_14_code
def yX11_fault : MethodName := ⟨RX11, "fault", "()I"⟩
abbrev cX11_hoursOf : ByteArray := prog_13_method_15_code
def yX11_hoursOf : MethodName := ⟨RX11, "hoursOf", "(II)I"⟩
abbrev cX11_doLine : ByteArray := prog_13_method_16_code
def yX11_doLine : MethodName := ⟨RX11, "doLine", "(I)V"⟩
abbrev cX11_doHours : ByteArray := prog_13_method_17_code
def yX11_doHours : MethodName := ⟨RX11, "doHours", "(III)V"⟩
abbrev cX11_week : ByteArray := prog_13_method_18_code
def yX11_week : MethodName := ⟨RX11, "week", "()I"⟩
abbrev cX11_room : ByteArray := prog_13_method_19_code
def yX11_room : MethodName := ⟨RX11, "room", "(II)I"⟩
abbrev cX11_door : ByteArray := prog_13_method_20_code
def yX11_door : MethodName := ⟨RX11, "door", "(II)I"⟩
abbrev cX11_outAt : ByteArray := prog_13_method_21_code
def yX11_outAt : MethodName := ⟨RX11, "outAt", "(I)I"⟩
abbrev cX11_out : ByteArray := prog_13_method_22_code
def yX11_out : MethodName := ⟨RX11, "out", "(I)I"⟩
abbrev cX11_sunAt : ByteArray := prog_13_method_23_code
def yX11_sunAt : MethodName := ⟨RX11, "sunAt", "(II)I"⟩
abbrev cX11_leaksOf : ByteArray := prog_13_method_24_code
def yX11_leaksOf : MethodName := ⟨RX11, "leaksOf", "(I)I"⟩
abbrev cX11_isOpenAt : ByteArray := prog_13_method_25_code
def yX11_isOpenAt : MethodName := ⟨RX11, "isOpenAt", "(II)Z"⟩
abbrev cX11_goHour : ByteArray := prog_13_method_26_code
def yX11_goHour : MethodName := ⟨RX11, "goHour", "(I)V"⟩
abbrev cX11_asTold : ByteArray := prog_13_method_27_code
def yX11_asTold : MethodName := ⟨RX11, "asTold", "()V"⟩
abbrev cX11_goWeek : ByteArray := prog_13_method_28_code
def yX11_goWeek : MethodName := ⟨RX11, "goWeek", "()V"⟩
abbrev cX11_nightOf : ByteArray := prog_13_method_29_code
def yX11_nightOf : MethodName := ⟨RX11, "nightOf", "(I)I"⟩
abbrev cX11_nightOfAll : ByteArray := prog_13_method_30_code
def yX11_nightOfAll : MethodName := ⟨RX11, "nightOfAll", "()I"⟩
abbrev cX11_warm : ByteArray := prog_13_method_31_code
def yX11_warm : MethodName := ⟨RX11, "warm", "(III)I"⟩
abbrev cX11_night : ByteArray := prog_13_method_32_code
def yX11_night : MethodName := ⟨RX11, "night", "(I)I"⟩
abbrev cX11_above : ByteArray := prog_13_method_33_code
def yX11_above : MethodName := ⟨RX11, "above", "(II)I"⟩
abbrev cX11_costs : ByteArray := prog_13_method_34_code
def yX11_costs : MethodName := ⟨RX11, "costs", "(I)I"⟩
abbrev cX11_nightByClock : ByteArray := prog_13_method_35_code
def yX11_nightByClock : MethodName := ⟨RX11, "nightByClock", "(II)I"⟩
abbrev cX11_nightByGlass : ByteArray := prog_13_method_36_code
def yX11_nightByGlass : MethodName := ⟨RX11, "nightByGlass", "()I"⟩
abbrev cX11_clock : ByteArray := prog_13_method_37_code
def yX11_clock : MethodName := ⟨RX11, "clock", "(I)I"⟩
abbrev cX11_work : ByteArray := prog_13_method_38_code
def yX11_work : MethodName := ⟨RX11, "work", "(IIII)I"⟩
abbrev cX11_costOf : ByteArray := prog_13_method_39_code
def yX11_costOf : MethodName := ⟨RX11, "costOf", "(I)I"⟩
abbrev cX11_works : ByteArray := prog_13_method_40_code
def yX11_works : MethodName := ⟨RX11, "works", "(II)I"⟩
abbrev cX11_read : ByteArray := prog_13_method_41_code
def yX11_read : MethodName := ⟨RX11, "read", "(III)I"⟩
abbrev cX11_doHold : ByteArray := prog_13_method_42_code
def yX11_doHold : MethodName := ⟨RX11, "doHold", "(I)Z"⟩
abbrev cX11_learnt : ByteArray := prog_13_method_43_code
def yX11_learnt : MethodName := ⟨RX11, "learnt", "(II)I"⟩
abbrev cX11_flat : ByteArray := prog_13_method_44_code
def yX11_flat : MethodName := ⟨RX11, "flat", "(III)I"⟩
abbrev cX11_toldFlats : ByteArray := prog_13_method_45_code
def yX11_toldFlats : MethodName := ⟨RX11, "toldFlats", "()I"⟩
abbrev cX11_lostBy : ByteArray := prog_13_method_46_code
def yX11_lostBy : MethodName := ⟨RX11, "lostBy", "(II)I"⟩
abbrev cX11_layRest : ByteArray := prog_13_method_47_code
def yX11_layRest : MethodName := ⟨RX11, "layRest", "(I)V"⟩
abbrev cX11_ring : ByteArray := prog_13_method_48_code
def yX11_ring : MethodName := ⟨RX11, "ring", "(I)I"⟩
abbrev cX11_hasBy : ByteArray := prog_13_method_49_code
def yX11_hasBy : MethodName := ⟨RX11, "hasBy", "(IIIIII)I"⟩
abbrev cX11_street : ByteArray := prog_13_method_50_code
def yX11_street : MethodName := ⟨RX11, "street", "(IIIII)I"⟩
abbrev cX11_count : ByteArray := prog_13_method_51_code
def yX11_count : MethodName := ⟨RX11, "count", "(I)I"⟩
def RJ6 : String := "java/lang/Integer"
def TJ6 : u_T := fun k => match k with
  | _ => ("", "", "", false)
def tyJ6 : Nat → FieldType := fun k => match k with
  | _ => .int
abbrev wsJ60 : List Cond := u_ws RJ6 TJ6 0
theorem nmJ6 : ∀ a, a < 0 → ∀ b, b < 0 → a ≠ b → (TJ6 a).2.1 ≠ (TJ6 b).2.1 := by decide +kernel
theorem tyJ6_ok : ∀ k, k < 0 → parseFieldDescriptor (TJ6 k).2.2.1 = some (tyJ6 k) := by decide +kernel
abbrev cJ6_bitCount_0f7a4 : ByteArray := prog_14_method_49_code
def yJ6_bitCount_0f7a4 : MethodName := ⟨RJ6, "bitCount", "(I)I"⟩
def RJ9 : String := "java/lang/Math"
def TJ9 : u_T := fun k => match k with
  | _ => ("", "", "", false)
def tyJ9 : Nat → FieldType := fun k => match k with
  | _ => .int
abbrev wsJ90 : List Cond := u_ws RJ9 TJ9 0
theorem nmJ9 : ∀ a, a < 0 → ∀ b, b < 0 → a ≠ b → (TJ9 a).2.1 ≠ (TJ9 b).2.1 := by decide +kernel
theorem tyJ9_ok : ∀ k, k < 0 → parseFieldDescriptor (TJ9 k).2.2.1 = some (tyJ9 k) := by decide +kernel
abbrev cJ9_abs_0f7a4 : ByteArray := prog_15_method_59_code
def yJ9_abs_0f7a4 : MethodName := ⟨RJ9, "abs", "(I)I"⟩
abbrev cJ9_max_7cf53 : ByteArray := prog_15_method_65_code
def yJ9_max_7cf53 : MethodName := ⟨RJ9, "max", "(II)I"⟩
abbrev cJ9_min_7cf53 : ByteArray := prog_15_method_69_code
def yJ9_min_7cf53 : MethodName := ⟨RJ9, "min", "(II)I"⟩
def RJ0 : String := "java/lang/String"
def TJ0 : u_T := fun k => match k with
  | _ => ("", "", "", false)
def tyJ0 : Nat → FieldType := fun k => match k with
  | _ => .int
abbrev wsJ00 : List Cond := u_ws RJ0 TJ0 0
theorem nmJ0 : ∀ a, a < 0 → ∀ b, b < 0 → a ≠ b → (TJ0 a).2.1 ≠ (TJ0 b).2.1 := by decide +kernel
theorem tyJ0_ok : ∀ k, k < 0 → parseFieldDescriptor (TJ0 k).2.2.1 = some (tyJ0 k) := by decide +kernel
abbrev cJ0_length_8abf5 : ByteArray := prog_16_method_54_code
def yJ0_length_8abf5 : MethodName := ⟨RJ0, "length", "()I"⟩
abbrev cJ0_charAt_5068e : ByteArray := prog_16_method_56_code
def yJ0_charAt_5068e : MethodName := ⟨RJ0, "charAt", "(I)C"⟩
abbrev cJ0_coder_7d493 : ByteArray := prog_16_method_152_code
def yJ0_coder_7d493 : MethodName := ⟨RJ0, "coder", "()B"⟩
abbrev cJ0_isLatin1_aae02 : ByteArray := prog_16_method_154_code
def yJ0_isLatin1_aae02 : MethodName := ⟨RJ0, "isLatin1", "()Z"⟩
abbrev cJ0_checkIndex_df160 : ByteArray := prog_16_method_155_code
def yJ0_checkIndex_df160 : MethodName := ⟨RJ0, "checkIndex", "(II)V"⟩
def RJ1 : String := "java/lang/StringLatin1"
def TJ1 : u_T := fun k => match k with
  | _ => ("", "", "", false)
def tyJ1 : Nat → FieldType := fun k => match k with
  | _ => .int
abbrev wsJ10 : List Cond := u_ws RJ1 TJ1 0
theorem nmJ1 : ∀ a, a < 0 → ∀ b, b < 0 → a ≠ b → (TJ1 a).2.1 ≠ (TJ1 b).2.1 := by decide +kernel
theorem tyJ1_ok : ∀ k, k < 0 → parseFieldDescriptor (TJ1 k).2.2.1 = some (tyJ1 k) := by decide +kernel
abbrev cJ1_charAt_3b067 : ByteArray := prog_17_method_2_code
def yJ1_charAt_3b067 : MethodName := ⟨RJ1, "charAt", "([BI)C"⟩
def RJ2 : String := "java/lang/StringUTF16"
def TJ2 : u_T := fun k => match k with
  | _ => ("", "", "", false)
def tyJ2 : Nat → FieldType := fun k => match k with
  | _ => .int
abbrev wsJ20 : List Cond := u_ws RJ2 TJ2 0
theorem nmJ2 : ∀ a, a < 0 → ∀ b, b < 0 → a ≠ b → (TJ2 a).2.1 ≠ (TJ2 b).2.1 := by decide +kernel
theorem tyJ2_ok : ∀ k, k < 0 → parseFieldDescriptor (TJ2 k).2.2.1 = some (tyJ2 k) := by decide +kernel
abbrev cJ2_getChar_3b067 : ByteArray := prog_18_method_5_code
def yJ2_getChar_3b067 : MethodName := ⟨RJ2, "getChar", "([BI)C"⟩
abbrev cJ2_length_9d52b : ByteArray := prog_18_method_6_code
def yJ2_length_9d52b : MethodName := ⟨RJ2, "length", "([B)I"⟩
abbrev cJ2_charAt_3b067 : ByteArray := prog_18_method_83_code
def yJ2_charAt_3b067 : MethodName := ⟨RJ2, "charAt", "([BI)C"⟩
abbrev cJ2_checkIndex_2214a : ByteArray := prog_18_method_91_code
def yJ2_checkIndex_2214a : MethodName := ⟨RJ2, "checkIndex", "(I[B)V"⟩
def RJ3 : String := "jdk/internal/util/Preconditions"
def TJ3 : u_T := fun k => match k with
  | _ => ("", "", "", false)
def tyJ3 : Nat → FieldType := fun k => match k with
  | _ => .int
abbrev wsJ30 : List Cond := u_ws RJ3 TJ3 0
theorem nmJ3 : ∀ a, a < 0 → ∀ b, b < 0 → a ≠ b → (TJ3 a).2.1 ≠ (TJ3 b).2.1 := by decide +kernel
theorem tyJ3_ok : ∀ k, k < 0 → parseFieldDescriptor (TJ3 k).2.2.1 = some (tyJ3 k) := by decide +kernel
abbrev cJ3_checkIndex_8e157 : ByteArray := prog_19_method_11_code
def yJ3_checkIndex_8e157 : MethodName := ⟨RJ3, "checkIndex", "(IILjava/util/function/BiFunction;)I"⟩
def RL : String := "HotWeekLaw"
abbrev cL_law : ByteArray := code
def yL_law : MethodName := ⟨RL, "law", "([I)Z"⟩
def wsL_law_r1 : List Cond := [Cond.classLink RL 7 RX10, Cond.instantiable RX10 12, Cond.initialized RX10, Cond.classLink RL 10 RX11, Cond.instantiable RX11 48, Cond.initialized RX11, Cond.constantLong RL 13 (4294967295), Cond.methodLink RL 9 yX10_init, Cond.instanceMethod yX10_init, Cond.code yX10_init cX10_init 1 none, Cond.methodLink RX10 3 objectInit, Cond.instanceMethod objectInit, Cond.code objectInit ⟨#[0xb1]⟩ 1 none, Cond.classLink RX10 9 RX8, Cond.instantiable RX8 2, Cond.initialized RX8, Cond.fieldLink RX10 12 "HotWeek" "text" "LHotWeek$Text;", Cond.classLink RX10 16 RX5, Cond.instantiable RX5 4, Cond.initialized RX5, Cond.fieldLink RX10 19 "HotWeek" "reader" "LHotWeek$Reader;", Cond.classLink RX10 23 RX3, Cond.instantiable RX3 18, Cond.initialized RX3]
def wsL_law_r2 : List Cond := [Cond.fieldLink RX10 26 "HotWeek" "house" "LHotWeek$House;", Cond.classLink RX10 30 RX4, Cond.instantiable RX4 7, Cond.initialized RX4, Cond.fieldLink RX10 33 "HotWeek" "plan" "LHotWeek$Plan;", Cond.classLink RX10 37 RX1, Cond.instantiable RX1 3, Cond.initialized RX1, Cond.fieldLink RX10 40 "HotWeek" "told" "LHotWeek$Course;", Cond.fieldLink RX10 44 "HotWeek" "tried" "LHotWeek$Course;", Cond.classLink RX10 47 RX0, Cond.instantiable RX0 5, Cond.initialized RX0, Cond.fieldLink RX10 50 "HotWeek" "bestClock" "LHotWeek$BestClock;", Cond.classLink RX10 54 RX9, Cond.instantiable RX9 7, Cond.initialized RX9, Cond.fieldLink RX10 57 "HotWeek" "works" "LHotWeek$Works;", Cond.classLink RX10 61 RX2, Cond.instantiable RX2 9, Cond.initialized RX2, Cond.fieldLink RX10 64 "HotWeek" "glasses" "LHotWeek$Glasses;", Cond.classLink RX10 68 RX6, Cond.instantiable RX6 3]
def wsL_law_r3 : List Cond := [Cond.initialized RX6, Cond.fieldLink RX10 71 "HotWeek" "rings" "LHotWeek$Rings;", Cond.classLink RX10 75 RX7, Cond.instantiable RX7 8, Cond.initialized RX7, Cond.fieldLink RX10 78 "HotWeek" "street" "LHotWeek$Street;", Cond.fieldLink RX10 82 "HotWeek" "toldStands" "Z", Cond.methodLink RX10 11 yX8_init, Cond.instanceMethod yX8_init, Cond.code yX8_init cX8_init 1 none, Cond.methodLink RX8 3 objectInit, Cond.arrayClass .int, Cond.fieldLink RX8 11 "HotWeek$Text" "bytes" "[I", Cond.fieldLink RX8 15 "HotWeek$Text" "length" "I", Cond.methodLink RX10 18 yX5_init, Cond.instanceMethod yX5_init, Cond.code yX5_init cX5_init 1 none, Cond.methodLink RX5 3 objectInit, Cond.fieldLink RX5 11 "HotWeek$Reader" "kinds" "[I", Cond.classLink RX5 15 "[[I", Cond.fieldLink RX5 17 "HotWeek$Reader" "numbers" "[[I", Cond.fieldLink RX5 20 "HotWeek$Reader" "lines" "I", Cond.fieldLink RX5 24 "HotWeek$Reader" "place" "I", Cond.methodLink RX10 25 yX3_init]
def wsL_law_r4 : List Cond := [Cond.instanceMethod yX3_init, Cond.code yX3_init cX3_init 1 none, Cond.methodLink RX3 3 objectInit, Cond.arrayClass .boolean, Cond.fieldLink RX3 9 "HotWeek$House" "told" "[Z", Cond.fieldLink RX3 15 "HotWeek$House" "firstAir" "[I", Cond.fieldLink RX3 19 "HotWeek$House" "firstWall" "[I", Cond.fieldLink RX3 22 "HotWeek$House" "side" "[I", Cond.fieldLink RX3 25 "HotWeek$House" "folk" "[I", Cond.fieldLink RX3 28 "HotWeek$House" "habit" "[I", Cond.fieldLink RX3 31 "HotWeek$House" "openHours" "[I", Cond.fieldLink RX3 34 "HotWeek$House" "shutHours" "[I", Cond.classLink RX3 37 "[[I", Cond.fieldLink RX3 39 "HotWeek$House" "passes" "[[I", Cond.constant RX3 42 (16777215), Cond.fieldLink RX3 43 "HotWeek$House" "homeHours" "I", Cond.fieldLink RX3 47 "HotWeek$House" "cool" "I", Cond.fieldLink RX3 50 "HotWeek$House" "hot" "I", Cond.fieldLink RX3 53 "HotWeek$House" "warmer" "I", Cond.fieldLink RX3 56 "HotWeek$House" "sun" "I", Cond.fieldLink RX3 59 "HotWeek$House" "takes" "I", Cond.fieldLink RX3 62 "HotWeek$House" "gives" "I", Cond.fieldLink RX3 65 "HotWeek$House" "leaks" "I", Cond.fieldLink RX3 68 "HotWeek$House" "window" "I"]
def wsL_law_r5 : List Cond := [Cond.methodLink RX10 32 yX4_init, Cond.instanceMethod yX4_init, Cond.code yX4_init cX4_init 1 none, Cond.methodLink RX4 3 objectInit, Cond.fieldLink RX4 9 "HotWeek$Plan" "habit" "[I", Cond.fieldLink RX4 15 "HotWeek$Plan" "openHours" "[I", Cond.fieldLink RX4 18 "HotWeek$Plan" "leaks" "[I", Cond.classLink RX4 21 "[[I", Cond.fieldLink RX4 23 "HotWeek$Plan" "sun" "[[I", Cond.fieldLink RX4 26 "HotWeek$Plan" "sky" "[I", Cond.fieldLink RX4 29 "HotWeek$Plan" "takes" "I", Cond.fieldLink RX4 33 "HotWeek$Plan" "gives" "I", Cond.methodLink RX10 39 yX1_init, Cond.instanceMethod yX1_init, Cond.code yX1_init cX1_init 1 none, Cond.methodLink RX1 3 objectInit, Cond.classLink RX1 9 "[[I", Cond.fieldLink RX1 11 "HotWeek$Course" "air" "[[I", Cond.fieldLink RX1 16 "HotWeek$Course" "wall" "[[I", Cond.fieldLink RX1 19 "HotWeek$Course" "open" "[[I", Cond.methodLink RX10 49 yX0_init, Cond.instanceMethod yX0_init, Cond.code yX0_init cX0_init 1 none, Cond.methodLink RX0 3 objectInit]
def wsL_law_r6 : List Cond := [Cond.fieldLink RX0 9 "HotWeek$BestClock" "found" "Z", Cond.methodLink RX10 56 yX9_init, Cond.instanceMethod yX9_init, Cond.code yX9_init cX9_init 1 none, Cond.methodLink RX9 3 objectInit, Cond.fieldLink RX9 11 "HotWeek$Works" "room" "[I", Cond.fieldLink RX9 15 "HotWeek$Works" "cost" "[I", Cond.fieldLink RX9 18 "HotWeek$Works" "sun" "[I", Cond.fieldLink RX9 21 "HotWeek$Works" "leak" "[I", Cond.fieldLink RX9 24 "HotWeek$Works" "size" "I", Cond.methodLink RX10 63 yX2_init, Cond.instanceMethod yX2_init, Cond.code yX2_init cX2_init 1 none, Cond.methodLink RX2 3 objectInit, Cond.fieldLink RX2 11 "HotWeek$Glasses" "room" "[I", Cond.fieldLink RX2 15 "HotWeek$Glasses" "hour" "[I", Cond.fieldLink RX2 18 "HotWeek$Glasses" "air" "[I", Cond.fieldLink RX2 21 "HotWeek$Glasses" "size" "I", Cond.fieldLink RX2 25 "HotWeek$Glasses" "laws" "I", Cond.methodLink RX10 70 yX6_init, Cond.instanceMethod yX6_init, Cond.code yX6_init cX6_init 1 none, Cond.methodLink RX6 5 objectInit, Cond.fieldLink RX6 11 "HotWeek$Rings" "weight" "[I"]
def wsL_law_r7 : List Cond := [Cond.fieldLink RX6 15 "HotWeek$Rings" "due" "[I", Cond.fieldLink RX6 18 "HotWeek$Rings" "leastLost" "[I", Cond.methodLink RX10 77 yX7_init, Cond.instanceMethod yX7_init, Cond.code yX7_init cX7_init 1 none, Cond.methodLink RX7 3 objectInit, Cond.fieldLink RX7 9 "HotWeek$Street" "houses" "I", Cond.methodLink RL 12 yX11_init, Cond.instanceMethod yX11_init, Cond.code yX11_init cX11_init 1 none, Cond.methodLink RX11 1 objectInit, Cond.fieldLink RX11 7 "HotWeekModel" "room" "[I", Cond.fieldLink RX11 13 "HotWeekModel" "habit" "[I", Cond.fieldLink RX11 16 "HotWeekModel" "open" "[I", Cond.fieldLink RX11 19 "HotWeekModel" "shut" "[I", Cond.fieldLink RX11 22 "HotWeekModel" "door" "[I", Cond.fieldLink RX11 25 "HotWeekModel" "cool" "I", Cond.fieldLink RX11 29 "HotWeekModel" "hot" "I", Cond.fieldLink RX11 32 "HotWeekModel" "more" "I", Cond.fieldLink RX11 35 "HotWeekModel" "sun" "I", Cond.fieldLink RX11 38 "HotWeekModel" "takes" "I", Cond.fieldLink RX11 41 "HotWeekModel" "gives" "I", Cond.fieldLink RX11 44 "HotWeekModel" "leaks" "I", Cond.fieldLink RX11 47 "HotWeekModel" "window" "I"]
def wsL_law_r8 : List Cond := [Cond.constant RX11 50 (16777215), Cond.fieldLink RX11 51 "HotWeekModel" "home" "I", Cond.fieldLink RX11 54 "HotWeekModel" "text" "[I", Cond.fieldLink RX11 57 "HotWeekModel" "read" "[I", Cond.fieldLink RX11 60 "HotWeekModel" "air" "[I", Cond.fieldLink RX11 63 "HotWeekModel" "wall" "[I", Cond.fieldLink RX11 66 "HotWeekModel" "isOpen" "[I", Cond.fieldLink RX11 69 "HotWeekModel" "airNow" "[I", Cond.fieldLink RX11 72 "HotWeekModel" "wallNow" "[I", Cond.fieldLink RX11 75 "HotWeekModel" "airThen" "[I", Cond.fieldLink RX11 78 "HotWeekModel" "wallThen" "[I", Cond.fieldLink RX11 81 "HotWeekModel" "habitNow" "[I", Cond.fieldLink RX11 84 "HotWeekModel" "openNow" "[I", Cond.fieldLink RX11 87 "HotWeekModel" "workRoom" "[I", Cond.fieldLink RX11 90 "HotWeekModel" "workCost" "[I", Cond.fieldLink RX11 93 "HotWeekModel" "workSun" "[I", Cond.fieldLink RX11 96 "HotWeekModel" "workLeak" "[I", Cond.fieldLink RX11 99 "HotWeekModel" "rowRoom" "[I", Cond.fieldLink RX11 102 "HotWeekModel" "rowHour" "[I", Cond.fieldLink RX11 105 "HotWeekModel" "rowAir" "[I", Cond.fieldLink RX11 108 "HotWeekModel" "weight" "[I", Cond.fieldLink RX11 111 "HotWeekModel" "due" "[I", Cond.fieldLink RX11 114 "HotWeekModel" "rest" "[I", Cond.fieldLink RX11 117 "HotWeekModel" "learnt" "[I"]
def wsL_law_r9 : List Cond := [Cond.methodLink RL 15 yX10_write, Cond.instanceMethod yX10_write, Cond.selects RX10 yX10_write yX10_write, Cond.code yX10_write cX10_write 5 (some .int), Cond.constantLong RX10 94 (255), Cond.methodLink RX10 86 yX10_isWithin, Cond.static yX10_isWithin, Cond.code yX10_isWithin cX10_isWithin 3 (some .boolean), Cond.methodLink RX10 90 yX8_hasSpaceFor, Cond.instanceMethod yX8_hasSpaceFor, Cond.selects RX8 yX8_hasSpaceFor yX8_hasSpaceFor, Cond.code yX8_hasSpaceFor cX8_hasSpaceFor 2 (some .boolean), Cond.methodLink RX10 96 yX8_add, Cond.instanceMethod yX8_add, Cond.selects RX8 yX8_add yX8_add, Cond.code yX8_add cX8_add 2 none, Cond.methodLink RX10 100 yX8_length, Cond.instanceMethod yX8_length, Cond.selects RX8 yX8_length yX8_length, Cond.code yX8_length cX8_length 1 (some .int), Cond.methodLink RL 19 yX11_write, Cond.instanceMethod yX11_write, Cond.selects RX11 yX11_write yX11_write, Cond.code yX11_write cX11_write 5 (some .int)]
def wsL_law_r10 : List Cond := [Cond.fieldLink RX11 131 "HotWeekModel" "bytes" "I", Cond.constantLong RX11 134 (255), Cond.methodLink RX11 120 yX11_in, Cond.static yX11_in, Cond.code yX11_in cX11_in 3 (some .boolean), Cond.methodLink RL 20 yX10_erase, Cond.instanceMethod yX10_erase, Cond.selects RX10 yX10_erase yX10_erase, Cond.code yX10_erase cX10_erase 2 (some .int), Cond.methodLink RX10 104 yX8_clear, Cond.instanceMethod yX8_clear, Cond.selects RX8 yX8_clear yX8_clear, Cond.code yX8_clear cX8_clear 1 none, Cond.methodLink RL 24 yX11_erase, Cond.instanceMethod yX11_erase, Cond.selects RX11 yX11_erase yX11_erase, Cond.code yX11_erase cX11_erase 2 (some .int), Cond.methodLink RL 25 yX10_fault, Cond.instanceMethod yX10_fault, Cond.selects RX10 yX10_fault yX10_fault, Cond.code yX10_fault cX10_fault 1 (some .int), Cond.methodLink RX10 107 yX5_faultOf, Cond.instanceMethod yX5_faultOf, Cond.selects RX5 yX5_faultOf yX5_faultOf]
def wsL_law_r11 : List Cond := [Cond.code yX5_faultOf cX5_faultOf 3 (some .int), Cond.methodLink RX5 27 yX5_readsWord, Cond.instanceMethod yX5_readsWord, Cond.selects RX5 yX5_readsWord yX5_readsWord, Cond.code yX5_readsWord cX5_readsWord 5 (some .boolean), Cond.methodLink RX5 34 yX8_behindBlanks, Cond.instanceMethod yX8_behindBlanks, Cond.selects RX8 yX8_behindBlanks yX8_behindBlanks, Cond.code yX8_behindBlanks cX8_behindBlanks 3 (some .int), Cond.methodLink RX8 19 yX8_at, Cond.instanceMethod yX8_at, Cond.selects RX8 yX8_at yX8_at, Cond.code yX8_at cX8_at 2 (some .int), Cond.methodLink RX5 47 yX8_endOfToken, Cond.instanceMethod yX8_endOfToken, Cond.selects RX8 yX8_endOfToken yX8_endOfToken, Cond.code yX8_endOfToken cX8_endOfToken 3 (some .int), Cond.methodLink RX8 23 yX8_isLetter, Cond.static yX8_isLetter, Cond.code yX8_isLetter cX8_isLetter 1 (some .boolean), Cond.methodLink RX8 27 yX8_isDigit, Cond.static yX8_isDigit, Cond.code yX8_isDigit cX8_isDigit 1 (some .boolean), Cond.methodLink RX5 52 yX3_wordOf]
def wsL_law_r12 : List Cond := [Cond.static yX3_wordOf, Cond.code yX3_wordOf cX3_wordOf 1 (some (.object "java/lang/String")), Cond.methodLink RX5 56 yX8_spells, Cond.instanceMethod yX8_spells, Cond.selects RX8 yX8_spells yX8_spells, Cond.code yX8_spells cX8_spells 5 (some .boolean), Cond.methodLink RX8 30 yJ0_length_8abf5, Cond.instanceMethod yJ0_length_8abf5, Cond.selects RJ0 yJ0_length_8abf5 yJ0_length_8abf5, Cond.initialized RJ0, Cond.code yJ0_length_8abf5 cJ0_length_8abf5 1 (some .int), Cond.fieldLink RJ0 9 "java/lang/String" "value" "[B", Cond.methodLink RJ0 335 yJ0_coder_7d493, Cond.instanceMethod yJ0_coder_7d493, Cond.selects RJ0 yJ0_coder_7d493 yJ0_coder_7d493, Cond.code yJ0_coder_7d493 cJ0_coder_7d493 1 (some .byte), Cond.fieldLink RJ0 38 "java/lang/String" "COMPACT_STRINGS" "Z", Cond.fieldLink RJ0 15 "java/lang/String" "coder" "B", Cond.methodLink RX8 35 yJ0_charAt_5068e, Cond.instanceMethod yJ0_charAt_5068e, Cond.selects RJ0 yJ0_charAt_5068e yJ0_charAt_5068e, Cond.code yJ0_charAt_5068e cJ0_charAt_5068e 2 (some .char), Cond.methodLink RJ0 492 yJ0_isLatin1_aae02, Cond.instanceMethod yJ0_isLatin1_aae02]
def wsL_law_r13 : List Cond := [Cond.selects RJ0 yJ0_isLatin1_aae02 yJ0_isLatin1_aae02, Cond.code yJ0_isLatin1_aae02 cJ0_isLatin1_aae02 1 (some .boolean), Cond.methodLink RJ0 495 yJ1_charAt_3b067, Cond.static yJ1_charAt_3b067, Cond.initialized RJ1, Cond.code yJ1_charAt_3b067 cJ1_charAt_3b067 2 (some .char), Cond.methodLink RJ1 9 yJ0_checkIndex_df160, Cond.static yJ0_checkIndex_df160, Cond.code yJ0_checkIndex_df160 cJ0_checkIndex_df160 2 none, Cond.fieldLink RJ0 1053 "jdk/internal/util/Preconditions" "SIOOBE_FORMATTER" "Ljava/util/function/BiFunction;", Cond.methodLink RJ0 1059 yJ3_checkIndex_8e157, Cond.static yJ3_checkIndex_8e157, Cond.initialized RJ3, Cond.code yJ3_checkIndex_8e157 cJ3_checkIndex_8e157 3 (some .int), Cond.methodLink RJ0 498 yJ2_charAt_3b067, Cond.static yJ2_charAt_3b067, Cond.initialized RJ2, Cond.code yJ2_charAt_3b067 cJ2_charAt_3b067 2 (some .char), Cond.methodLink RJ2 67 yJ2_checkIndex_2214a, Cond.static yJ2_checkIndex_2214a, Cond.code yJ2_checkIndex_2214a cJ2_checkIndex_2214a 2 none, Cond.methodLink RJ2 48 yJ2_length_9d52b, Cond.static yJ2_length_9d52b, Cond.code yJ2_length_9d52b cJ2_length_9d52b 1 (some .int)]
def wsL_law_r14 : List Cond := [Cond.methodLink RJ2 414 yJ0_checkIndex_df160, Cond.methodLink RJ2 71 yJ2_getChar_3b067, Cond.static yJ2_getChar_3b067, Cond.code yJ2_getChar_3b067 cJ2_getChar_3b067 2 (some .char), Cond.fieldLink RJ2 44 "java/lang/StringUTF16" "$assertionsDisabled" "Z", Cond.fieldLink RJ2 59 "java/lang/StringUTF16" "HI_BYTE_SHIFT" "I", Cond.fieldLink RJ2 63 "java/lang/StringUTF16" "LO_BYTE_SHIFT" "I", Cond.methodLink RX5 31 yX5_readsNumbers, Cond.instanceMethod yX5_readsNumbers, Cond.selects RX5 yX5_readsNumbers yX5_readsNumbers, Cond.code yX5_readsNumbers cX5_readsNumbers 7 (some .boolean), Cond.fieldLink RX5 60 "HotWeek$Reader" "BOUNDS" "[I", Cond.methodLink RX5 63 yX8_numberIn, Cond.instanceMethod yX8_numberIn, Cond.selects RX8 yX8_numberIn yX8_numberIn, Cond.code yX8_numberIn cX8_numberIn 5 (some .int), Cond.methodLink RX5 71 yX5_isDoorToItself, Cond.instanceMethod yX5_isDoorToItself, Cond.selects RX5 yX5_isDoorToItself yX5_isDoorToItself, Cond.code yX5_isDoorToItself cX5_isDoorToItself 4 (some .boolean), Cond.methodLink RX5 40 yX8_length, Cond.methodLink RX5 44 yX8_at, Cond.methodLink RL 28 yX11_fault, Cond.instanceMethod yX11_fault]
def wsL_law_r15 : List Cond := [Cond.selects RX11 yX11_fault yX11_fault, Cond.code yX11_fault cX11_fault 1 (some .int), Cond.fieldLink RX11 164 "HotWeekModel" "faultAt" "I", Cond.methodLink RX11 207 yX11_isRead, Cond.instanceMethod yX11_isRead, Cond.selects RX11 yX11_isRead yX11_isRead, Cond.code yX11_isRead cX11_isRead 2 (some .boolean), Cond.fieldLink RX11 136 "HotWeekModel" "position" "I", Cond.fieldLink RX11 201 "HotWeekModel" "readMany" "I", Cond.fieldLink RX11 150 "HotWeekModel" "token" "J", Cond.constantLong RX11 162 (-3), Cond.constantLong RX11 148 (-2), Cond.methodLink RX11 204 yX11_isLine, Cond.instanceMethod yX11_isLine, Cond.selects RX11 yX11_isLine yX11_isLine, Cond.code yX11_isLine cX11_isLine 4 (some .boolean), Cond.constantLong RX11 177 (365647), Cond.constantLong RX11 179 (90090), Cond.constantLong RX11 181 (14173), Cond.constantLong RX11 183 (14432), Cond.constantLong RX11 185 (4562600), Cond.constantLong RX11 187 (4272932), Cond.constantLong RX11 189 (307058), Cond.constantLong RX11 191 (380396)]
def wsL_law_r16 : List Cond := [Cond.constantLong RX11 193 (168755), Cond.constantLong RX11 195 (40586), Cond.methodLink RX11 167 yX11_nextToken, Cond.instanceMethod yX11_nextToken, Cond.selects RX11 yX11_nextToken yX11_nextToken, Cond.code yX11_nextToken cX11_nextToken 1 none, Cond.fieldLink RX11 139 "HotWeekModel" "tokenAt" "I", Cond.fieldLink RX11 142 "HotWeekModel" "digits" "I", Cond.fieldLink RX11 145 "HotWeekModel" "number" "I", Cond.constantLong RX11 154 (27), Cond.constantLong RX11 156 (96), Cond.constantLong RX11 158 (-4), Cond.constantLong RX11 160 (-1), Cond.methodLink RX11 174 yX11_isNumber, Cond.instanceMethod yX11_isNumber, Cond.selects RX11 yX11_isNumber yX11_isNumber, Cond.code yX11_isNumber cX11_isNumber 4 (some .boolean), Cond.methodLink RX11 170 yX11_fails, Cond.instanceMethod yX11_fails, Cond.selects RX11 yX11_fails yX11_fails, Cond.code yX11_fails cX11_fails 1 (some .boolean), Cond.methodLink RX11 197 yX11_isDoor, Cond.instanceMethod yX11_isDoor, Cond.selects RX11 yX11_isDoor yX11_isDoor]
def wsL_law_r17 : List Cond := [Cond.code yX11_isDoor cX11_isDoor 2 (some .boolean), Cond.methodLink RL 29 yX10_week, Cond.instanceMethod yX10_week, Cond.selects RX10 yX10_week yX10_week, Cond.code yX10_week cX10_week 3 (some .int), Cond.methodLink RX10 111 yX5_lines, Cond.instanceMethod yX5_lines, Cond.selects RX5 yX5_lines yX5_lines, Cond.code yX5_lines cX5_lines 1 (some .int), Cond.methodLink RX10 114 yX5_kindOf, Cond.instanceMethod yX5_kindOf, Cond.selects RX5 yX5_kindOf yX5_kindOf, Cond.code yX5_kindOf cX5_kindOf 2 (some .int), Cond.methodLink RX10 118 yX5_numbersOf, Cond.instanceMethod yX5_numbersOf, Cond.selects RX5 yX5_numbersOf yX5_numbersOf, Cond.code yX5_numbersOf cX5_numbersOf 2 (some (.array .int)), Cond.methodLink RX10 122 yX3_tell, Cond.instanceMethod yX3_tell, Cond.selects RX3 yX3_tell yX3_tell, Cond.code yX3_tell cX3_tell 3 none, Cond.methodLink RX3 89 yX3_tellRoom, Cond.instanceMethod yX3_tellRoom, Cond.selects RX3 yX3_tellRoom yX3_tellRoom]
def wsL_law_r18 : List Cond := [Cond.code yX3_tellRoom cX3_tellRoom 3 none, Cond.static yX10_hoursFrom, Cond.code yX10_hoursFrom cX10_hoursFrom 5 (some .int), Cond.methodLink RX10 126 yX0_forget, Cond.instanceMethod yX0_forget, Cond.selects RX0 yX0_forget yX0_forget, Cond.code yX0_forget cX0_forget 1 none, Cond.methodLink RL 32 yX11_week, Cond.instanceMethod yX11_week, Cond.selects RX11 yX11_week yX11_week, Cond.code yX11_week cX11_week 2 (some .int), Cond.methodLink RX11 218 yX11_doLine, Cond.instanceMethod yX11_doLine, Cond.selects RX11 yX11_doLine yX11_doLine, Cond.code yX11_doLine cX11_doLine 5 none, Cond.fieldLink RX11 124 "HotWeekModel" "told" "I", Cond.methodLink RX11 210 yX11_doHours, Cond.instanceMethod yX11_doHours, Cond.selects RX11 yX11_doHours yX11_doHours, Cond.code yX11_doHours cX11_doHours 4 none, Cond.methodLink RX11 214 yX11_hoursOf, Cond.static yX11_hoursOf, Cond.code yX11_hoursOf cX11_hoursOf 4 (some .int), Cond.methodLink RL 33 yX10_room]
def wsL_law_r19 : List Cond := [Cond.instanceMethod yX10_room, Cond.selects RX10 yX10_room yX10_room, Cond.code yX10_room cX10_room 3 (some .int), Cond.methodLink RX10 129 yX3_isTold, Cond.instanceMethod yX3_isTold, Cond.selects RX3 yX3_isTold yX3_isTold, Cond.code yX3_isTold cX3_isTold 2 (some .boolean), Cond.methodLink RX10 132 yX3_firstAir, Cond.instanceMethod yX3_firstAir, Cond.selects RX3 yX3_firstAir yX3_firstAir, Cond.code yX3_firstAir cX3_firstAir 2 (some .int), Cond.methodLink RX10 135 yX3_firstWall, Cond.instanceMethod yX3_firstWall, Cond.selects RX3 yX3_firstWall yX3_firstWall, Cond.code yX3_firstWall cX3_firstWall 2 (some .int), Cond.methodLink RX10 138 yX3_side, Cond.instanceMethod yX3_side, Cond.selects RX3 yX3_side yX3_side, Cond.code yX3_side cX3_side 2 (some .int), Cond.methodLink RX10 141 yX3_folk, Cond.instanceMethod yX3_folk, Cond.selects RX3 yX3_folk yX3_folk, Cond.code yX3_folk cX3_folk 2 (some .int), Cond.methodLink RX10 144 yX3_habit]
def wsL_law_r20 : List Cond := [Cond.instanceMethod yX3_habit, Cond.selects RX3 yX3_habit yX3_habit, Cond.code yX3_habit cX3_habit 2 (some .int), Cond.methodLink RX10 147 yX3_openHours, Cond.instanceMethod yX3_openHours, Cond.selects RX3 yX3_openHours yX3_openHours, Cond.code yX3_openHours cX3_openHours 2 (some .int), Cond.methodLink RX10 150 yX3_shutHours, Cond.instanceMethod yX3_shutHours, Cond.selects RX3 yX3_shutHours yX3_shutHours, Cond.code yX3_shutHours cX3_shutHours 2 (some .int), Cond.methodLink RL 37 yX11_room, Cond.instanceMethod yX11_room, Cond.selects RX11 yX11_room yX11_room, Cond.code yX11_room cX11_room 3 (some .int), Cond.methodLink RX11 222 yX11_isRoom, Cond.instanceMethod yX11_isRoom, Cond.selects RX11 yX11_isRoom yX11_isRoom, Cond.code yX11_isRoom cX11_isRoom 2 (some .boolean), Cond.methodLink RX11 127 yX11_has, Cond.static yX11_has, Cond.code yX11_has cX11_has 2 (some .boolean), Cond.methodLink RL 38 yX10_door, Cond.instanceMethod yX10_door]
def wsL_law_r21 : List Cond := [Cond.selects RX10 yX10_door yX10_door, Cond.code yX10_door cX10_door 3 (some .int), Cond.methodLink RX10 153 yX10_isRoom, Cond.static yX10_isRoom, Cond.code yX10_isRoom cX10_isRoom 1 (some .boolean), Cond.methodLink RX10 156 yX3_passes, Cond.instanceMethod yX3_passes, Cond.selects RX3 yX3_passes yX3_passes, Cond.code yX3_passes cX3_passes 3 (some .int), Cond.methodLink RL 41 yX11_door, Cond.instanceMethod yX11_door, Cond.selects RX11 yX11_door yX11_door, Cond.code yX11_door cX11_door 3 (some .int), Cond.methodLink RL 42 yX10_out, Cond.instanceMethod yX10_out, Cond.selects RX10 yX10_out yX10_out, Cond.code yX10_out cX10_out 2 (some .int), Cond.methodLink RX10 160 yX10_isHour, Cond.static yX10_isHour, Cond.code yX10_isHour cX10_isHour 1 (some .boolean), Cond.methodLink RX10 163 yX3_skyAt, Cond.instanceMethod yX3_skyAt, Cond.selects RX3 yX3_skyAt yX3_skyAt, Cond.code yX3_skyAt cX3_skyAt 5 (some .int)]
def wsL_law_r22 : List Cond := [Cond.methodLink RL 46 yX11_out, Cond.instanceMethod yX11_out, Cond.selects RX11 yX11_out yX11_out, Cond.code yX11_out cX11_out 2 (some .int), Cond.methodLink RX11 225 yX11_outAt, Cond.instanceMethod yX11_outAt, Cond.selects RX11 yX11_outAt yX11_outAt, Cond.code yX11_outAt cX11_outAt 7 (some .int), Cond.methodLink RL 47 yX10_warm, Cond.instanceMethod yX10_warm, Cond.selects RX10 yX10_warm yX10_warm, Cond.code yX10_warm cX10_warm 4 (some .int), Cond.methodLink RX10 166 yX10_courseAsTold, Cond.instanceMethod yX10_courseAsTold, Cond.selects RX10 yX10_courseAsTold yX10_courseAsTold, Cond.code yX10_courseAsTold cX10_courseAsTold 1 (some (.object "HotWeek$Course")), Cond.methodLink RX10 189 yX4_takeFrom, Cond.instanceMethod yX4_takeFrom, Cond.selects RX4 yX4_takeFrom yX4_takeFrom, Cond.code yX4_takeFrom cX4_takeFrom 3 none, Cond.methodLink RX4 36 yX3_skyAt, Cond.methodLink RX4 42 yX3_habit, Cond.methodLink RX4 44 yX3_openHours, Cond.methodLink RX4 46 yX4_takeWorksOff]
def wsL_law_r23 : List Cond := [Cond.instanceMethod yX4_takeWorksOff, Cond.selects RX4 yX4_takeWorksOff yX4_takeWorksOff, Cond.code yX4_takeWorksOff cX4_takeWorksOff 4 none, Cond.methodLink RX4 59 yX3_leaks, Cond.instanceMethod yX3_leaks, Cond.selects RX3 yX3_leaks yX3_leaks, Cond.code yX3_leaks cX3_leaks 1 (some .int), Cond.methodLink RX4 61 yX3_sunIn, Cond.instanceMethod yX3_sunIn, Cond.selects RX3 yX3_sunIn yX3_sunIn, Cond.code yX3_sunIn cX3_sunIn 3 (some .int), Cond.methodLink RX3 97 yX3_shinesOn, Cond.static yX3_shinesOn, Cond.code yX3_shinesOn cX3_shinesOn 2 (some .boolean), Cond.static yX10_hasBit, Cond.code yX10_hasBit cX10_hasBit 2 (some .boolean), Cond.methodLink RX4 50 yX3_gives, Cond.instanceMethod yX3_gives, Cond.selects RX3 yX3_gives yX3_gives, Cond.code yX3_gives cX3_gives 1 (some .int), Cond.methodLink RX4 53 yX3_takes, Cond.instanceMethod yX3_takes, Cond.selects RX3 yX3_takes yX3_takes, Cond.code yX3_takes cX3_takes 1 (some .int)]
def wsL_law_r24 : List Cond := [Cond.methodLink RX4 55 yX4_putLaw, Cond.instanceMethod yX4_putLaw, Cond.selects RX4 yX4_putLaw yX4_putLaw, Cond.code yX4_putLaw cX4_putLaw 3 none, Cond.methodLink RX10 197 yX1_run, Cond.instanceMethod yX1_run, Cond.selects RX1 yX1_run yX1_run, Cond.code yX1_run cX1_run 5 none, Cond.methodLink RX1 22 yX3_firstAir, Cond.methodLink RX1 28 yX3_firstWall, Cond.methodLink RX1 31 yX3_isTold, Cond.methodLink RX1 35 yX1_goOn, Cond.instanceMethod yX1_goOn, Cond.selects RX1 yX1_goOn yX1_goOn, Cond.code yX1_goOn cX1_goOn 11 none, Cond.methodLink RX1 39 yX4_skyAt, Cond.instanceMethod yX4_skyAt, Cond.selects RX4 yX4_skyAt yX4_skyAt, Cond.code yX4_skyAt cX4_skyAt 2 (some .int), Cond.methodLink RX1 44 yX3_homeHours, Cond.instanceMethod yX3_homeHours, Cond.selects RX3 yX3_homeHours yX3_homeHours, Cond.code yX3_homeHours cX3_homeHours 1 (some .int), Cond.methodLink RX1 52 yX4_wouldOpen]
def wsL_law_r25 : List Cond := [Cond.instanceMethod yX4_wouldOpen, Cond.selects RX4 yX4_wouldOpen yX4_wouldOpen, Cond.code yX4_wouldOpen cX4_wouldOpen 4 (some .boolean), Cond.methodLink RX1 56 yX4_sunIn, Cond.instanceMethod yX4_sunIn, Cond.selects RX4 yX4_sunIn yX4_sunIn, Cond.code yX4_sunIn cX4_sunIn 3 (some .int), Cond.methodLink RX1 60 yX4_gives, Cond.instanceMethod yX4_gives, Cond.selects RX4 yX4_gives yX4_gives, Cond.code yX4_gives cX4_gives 1 (some .int), Cond.methodLink RX1 63 yX1_throughDoors, Cond.instanceMethod yX1_throughDoors, Cond.selects RX1 yX1_throughDoors yX1_throughDoors, Cond.code yX1_throughDoors cX1_throughDoors 7 (some .int), Cond.methodLink RX1 79 yX3_passes, Cond.methodLink RX1 67 yX3_folk, Cond.methodLink RX1 70 yX3_window, Cond.instanceMethod yX3_window, Cond.selects RX3 yX3_window yX3_window, Cond.code yX3_window cX3_window 1 (some .int), Cond.methodLink RX1 73 yX4_takes, Cond.instanceMethod yX4_takes, Cond.selects RX4 yX4_takes yX4_takes]
def wsL_law_r26 : List Cond := [Cond.code yX4_takes cX4_takes 1 (some .int), Cond.methodLink RX1 76 yX4_leaks, Cond.instanceMethod yX4_leaks, Cond.selects RX4 yX4_leaks yX4_leaks, Cond.code yX4_leaks cX4_leaks 2 (some .int), Cond.methodLink RX10 170 yX1_airBehind, Cond.instanceMethod yX1_airBehind, Cond.selects RX1 yX1_airBehind yX1_airBehind, Cond.code yX1_airBehind cX1_airBehind 3 (some .int), Cond.methodLink RX10 173 yX1_wallBehind, Cond.instanceMethod yX1_wallBehind, Cond.selects RX1 yX1_wallBehind yX1_wallBehind, Cond.code yX1_wallBehind cX1_wallBehind 3 (some .int), Cond.methodLink RX10 176 yX1_openIn, Cond.instanceMethod yX1_openIn, Cond.selects RX1 yX1_openIn yX1_openIn, Cond.code yX1_openIn cX1_openIn 3 (some .int), Cond.methodLink RL 51 yX11_warm, Cond.instanceMethod yX11_warm, Cond.selects RX11 yX11_warm yX11_warm, Cond.code yX11_warm cX11_warm 5 (some .int), Cond.methodLink RX11 253 yX11_asTold, Cond.instanceMethod yX11_asTold, Cond.selects RX11 yX11_asTold yX11_asTold]
def wsL_law_r27 : List Cond := [Cond.code yX11_asTold cX11_asTold 2 none, Cond.fieldLink RX11 232 "HotWeekModel" "worksNow" "I", Cond.methodLink RX11 247 yX11_goWeek, Cond.instanceMethod yX11_goWeek, Cond.selects RX11 yX11_goWeek yX11_goWeek, Cond.code yX11_goWeek cX11_goWeek 2 none, Cond.methodLink RX11 244 yX11_goHour, Cond.instanceMethod yX11_goHour, Cond.selects RX11 yX11_goHour yX11_goHour, Cond.code yX11_goHour cX11_goHour 9 none, Cond.methodLink RX11 235 yX11_sunAt, Cond.instanceMethod yX11_sunAt, Cond.selects RX11 yX11_sunAt yX11_sunAt, Cond.code yX11_sunAt cX11_sunAt 7 (some .int), Cond.fieldLink RX11 229 "HotWeekModel" "works" "I", Cond.methodLink RX11 238 yX11_isOpenAt, Cond.instanceMethod yX11_isOpenAt, Cond.selects RX11 yX11_isOpenAt yX11_isOpenAt, Cond.code yX11_isOpenAt cX11_isOpenAt 4 (some .boolean), Cond.methodLink RX11 241 yX11_leaksOf, Cond.instanceMethod yX11_leaksOf, Cond.selects RX11 yX11_leaksOf yX11_leaksOf, Cond.code yX11_leaksOf cX11_leaksOf 4 (some .int), Cond.methodLink RL 52 yX10_night]
def wsL_law_r28 : List Cond := [Cond.instanceMethod yX10_night, Cond.selects RX10 yX10_night yX10_night, Cond.code yX10_night cX10_night 2 (some .int), Cond.methodLink RX10 179 yX1_nightOfAll, Cond.instanceMethod yX1_nightOfAll, Cond.selects RX1 yX1_nightOfAll yX1_nightOfAll, Cond.code yX1_nightOfAll cX1_nightOfAll 4 (some .int), Cond.methodLink RX1 82 yX1_nightOf, Cond.instanceMethod yX1_nightOf, Cond.selects RX1 yX1_nightOf yX1_nightOf, Cond.code yX1_nightOf cX1_nightOf 5 (some .int), Cond.methodLink RX10 183 yX1_nightOf, Cond.methodLink RL 55 yX11_night, Cond.instanceMethod yX11_night, Cond.selects RX11 yX11_night yX11_night, Cond.code yX11_night cX11_night 3 (some .int), Cond.methodLink RX11 256 yX11_nightOfAll, Cond.instanceMethod yX11_nightOfAll, Cond.selects RX11 yX11_nightOfAll yX11_nightOfAll, Cond.code yX11_nightOfAll cX11_nightOfAll 3 (some .int), Cond.methodLink RX11 250 yX11_nightOf, Cond.instanceMethod yX11_nightOf, Cond.selects RX11 yX11_nightOf yX11_nightOf, Cond.code yX11_nightOf cX11_nightOf 5 (some .int)]
def wsL_law_r29 : List Cond := [Cond.methodLink RL 56 yX10_above, Cond.instanceMethod yX10_above, Cond.selects RX10 yX10_above yX10_above, Cond.code yX10_above cX10_above 3 (some .int), Cond.methodLink RX10 186 yX1_longestAbove, Cond.instanceMethod yX1_longestAbove, Cond.selects RX1 yX1_longestAbove yX1_longestAbove, Cond.code yX1_longestAbove cX1_longestAbove 6 (some .int), Cond.methodLink RX1 85 Lib.Math.max.name, Cond.static Lib.Math.max.name, Cond.initialized "java/lang/Math", Cond.code Lib.Math.max.name Lib.Math.max.code 2 (some .int), Cond.methodLink RL 59 yX11_above, Cond.instanceMethod yX11_above, Cond.selects RX11 yX11_above yX11_above, Cond.code yX11_above cX11_above 6 (some .int), Cond.methodLink RL 60 yX10_costs, Cond.instanceMethod yX10_costs, Cond.selects RX10 yX10_costs yX10_costs, Cond.code yX10_costs cX10_costs 2 (some .int), Cond.constant RX10 201 (10000000), Cond.methodLink RX10 193 yX4_putHabit, Cond.instanceMethod yX4_putHabit, Cond.selects RX4 yX4_putHabit yX4_putHabit]
def wsL_law_r30 : List Cond := [Cond.code yX4_putHabit cX4_putHabit 3 none, Cond.methodLink RL 63 yX11_costs, Cond.instanceMethod yX11_costs, Cond.selects RX11 yX11_costs yX11_costs, Cond.code yX11_costs cX11_costs 3 (some .int), Cond.constant RX11 260 (10000000), Cond.methodLink RL 64 yX10_clock, Cond.instanceMethod yX10_clock, Cond.selects RX10 yX10_clock yX10_clock, Cond.code yX10_clock cX10_clock 2 (some .int), Cond.methodLink RX10 202 yX0_find, Cond.instanceMethod yX0_find, Cond.selects RX0 yX0_find yX0_find, Cond.code yX0_find cX0_find 6 none, Cond.fieldLink RX0 34 "HotWeek$BestClock" "nightByGlass" "I", Cond.methodLink RX0 15 yX4_takeFrom, Cond.methodLink RX0 21 yX4_putAllByGlass, Cond.instanceMethod yX4_putAllByGlass, Cond.selects RX4 yX4_putAllByGlass yX4_putAllByGlass, Cond.code yX4_putAllByGlass cX4_putAllByGlass 2 none, Cond.methodLink RX0 24 yX1_run, Cond.methodLink RX0 30 yX1_nightOfAll, Cond.methodLink RX0 42 yX4_putAllByClock, Cond.instanceMethod yX4_putAllByClock]
def wsL_law_r31 : List Cond := [Cond.selects RX4 yX4_putAllByClock yX4_putAllByClock, Cond.code yX4_putAllByClock cX4_putAllByClock 3 none, Cond.methodLink RX0 46 yX0_keepBetter, Cond.instanceMethod yX0_keepBetter, Cond.selects RX0 yX0_keepBetter yX0_keepBetter, Cond.code yX0_keepBetter cX0_keepBetter 5 none, Cond.fieldLink RX0 50 "HotWeek$BestClock" "nightOfAll" "I", Cond.fieldLink RX0 52 "HotWeek$BestClock" "from" "I", Cond.fieldLink RX0 55 "HotWeek$BestClock" "to" "I", Cond.methodLink RX10 206 yX0_from, Cond.instanceMethod yX0_from, Cond.selects RX0 yX0_from yX0_from, Cond.code yX0_from cX0_from 1 (some .int), Cond.methodLink RX10 209 yX0_to, Cond.instanceMethod yX0_to, Cond.selects RX0 yX0_to yX0_to, Cond.code yX0_to cX0_to 1 (some .int), Cond.methodLink RX10 212 yX0_nightOfAll, Cond.instanceMethod yX0_nightOfAll, Cond.selects RX0 yX0_nightOfAll yX0_nightOfAll, Cond.code yX0_nightOfAll cX0_nightOfAll 1 (some .int), Cond.methodLink RX10 214 yX0_near, Cond.instanceMethod yX0_near, Cond.selects RX0 yX0_near yX0_near]
def wsL_law_r32 : List Cond := [Cond.code yX0_near cX0_near 1 (some .int), Cond.methodLink RL 67 yX11_clock, Cond.instanceMethod yX11_clock, Cond.selects RX11 yX11_clock yX11_clock, Cond.code yX11_clock cX11_clock 6 (some .int), Cond.methodLink RX11 261 yX11_nightByClock, Cond.instanceMethod yX11_nightByClock, Cond.selects RX11 yX11_nightByClock yX11_nightByClock, Cond.code yX11_nightByClock cX11_nightByClock 4 (some .int), Cond.methodLink RX11 264 yX11_nightByGlass, Cond.instanceMethod yX11_nightByGlass, Cond.selects RX11 yX11_nightByGlass yX11_nightByGlass, Cond.code yX11_nightByGlass cX11_nightByGlass 2 (some .int), Cond.methodLink RL 68 yX10_work, Cond.instanceMethod yX10_work, Cond.selects RX10 yX10_work yX10_work, Cond.code yX10_work cX10_work 5 (some .int), Cond.methodLink RX10 217 yX9_isFull, Cond.instanceMethod yX9_isFull, Cond.selects RX9 yX9_isFull yX9_isFull, Cond.code yX9_isFull cX9_isFull 1 (some .boolean), Cond.methodLink RX10 221 yX9_add, Cond.instanceMethod yX9_add, Cond.selects RX9 yX9_add yX9_add]
def wsL_law_r33 : List Cond := [Cond.code yX9_add cX9_add 5 (some .int), Cond.methodLink RX9 28 yX9_isFull, Cond.methodLink RL 72 yX11_work, Cond.instanceMethod yX11_work, Cond.selects RX11 yX11_work yX11_work, Cond.code yX11_work cX11_work 5 (some .int), Cond.methodLink RL 73 yX10_works, Cond.instanceMethod yX10_works, Cond.selects RX10 yX10_works yX10_works, Cond.code yX10_works cX10_works 3 (some .int), Cond.methodLink RX10 224 yX9_findFor, Cond.instanceMethod yX9_findFor, Cond.selects RX9 yX9_findFor yX9_findFor, Cond.code yX9_findFor cX9_findFor 7 none, Cond.fieldLink RX9 59 "HotWeek$Works" "bestNight" "I", Cond.fieldLink RX9 62 "HotWeek$Works" "bestSet" "I", Cond.methodLink RX9 32 yX4_takeFrom, Cond.methodLink RX9 38 yX9_costOf, Cond.instanceMethod yX9_costOf, Cond.selects RX9 yX9_costOf yX9_costOf, Cond.code yX9_costOf cX9_costOf 4 (some .int), Cond.methodLink RX9 42 yX4_takeAllWorksOff, Cond.instanceMethod yX4_takeAllWorksOff, Cond.selects RX4 yX4_takeAllWorksOff yX4_takeAllWorksOff]
def wsL_law_r34 : List Cond := [Cond.code yX4_takeAllWorksOff cX4_takeAllWorksOff 3 none, Cond.methodLink RX9 45 yX9_put, Cond.instanceMethod yX9_put, Cond.selects RX9 yX9_put yX9_put, Cond.code yX9_put cX9_put 4 none, Cond.methodLink RX9 69 yX4_putWork, Cond.instanceMethod yX4_putWork, Cond.selects RX4 yX4_putWork yX4_putWork, Cond.code yX4_putWork cX4_putWork 5 none, Cond.methodLink RX4 65 Lib.Math.max.name, Cond.methodLink RX9 49 yX1_run, Cond.methodLink RX9 55 yX1_nightOfAll, Cond.methodLink RX10 228 yX9_bestSet, Cond.instanceMethod yX9_bestSet, Cond.selects RX9 yX9_bestSet yX9_bestSet, Cond.code yX9_bestSet cX9_bestSet 1 (some .int), Cond.methodLink RX10 231 yX9_bestNight, Cond.instanceMethod yX9_bestNight, Cond.selects RX9 yX9_bestNight yX9_bestNight, Cond.code yX9_bestNight cX9_bestNight 1 (some .int), Cond.methodLink RL 76 yX11_works, Cond.instanceMethod yX11_works, Cond.selects RX11 yX11_works yX11_works, Cond.code yX11_works cX11_works 7 (some .int)]
def wsL_law_r35 : List Cond := [Cond.methodLink RX11 267 yX11_costOf, Cond.instanceMethod yX11_costOf, Cond.selects RX11 yX11_costOf yX11_costOf, Cond.code yX11_costOf cX11_costOf 4 (some .int), Cond.methodLink RL 77 yX10_read, Cond.instanceMethod yX10_read, Cond.selects RX10 yX10_read yX10_read, Cond.code yX10_read cX10_read 4 (some .int), Cond.methodLink RX10 234 yX2_isFull, Cond.instanceMethod yX2_isFull, Cond.selects RX2 yX2_isFull yX2_isFull, Cond.code yX2_isFull cX2_isFull 1 (some .boolean), Cond.methodLink RX10 235 yX2_add, Cond.instanceMethod yX2_add, Cond.selects RX2 yX2_add yX2_add, Cond.code yX2_add cX2_add 4 (some .int), Cond.methodLink RX2 28 yX2_isFull, Cond.methodLink RL 80 yX11_read, Cond.instanceMethod yX11_read, Cond.selects RX11 yX11_read yX11_read, Cond.code yX11_read cX11_read 4 (some .int), Cond.fieldLink RX11 270 "HotWeekModel" "rows" "I", Cond.methodLink RL 81 yX10_learnt, Cond.instanceMethod yX10_learnt]
def wsL_law_r36 : List Cond := [Cond.selects RX10 yX10_learnt yX10_learnt, Cond.code yX10_learnt cX10_learnt 3 (some .int), Cond.methodLink RX10 238 yX2_learn, Cond.instanceMethod yX2_learn, Cond.selects RX2 yX2_learn yX2_learn, Cond.code yX2_learn cX2_learn 7 none, Cond.methodLink RX2 32 yX4_takeFrom, Cond.methodLink RX2 38 yX4_putLaw, Cond.methodLink RX2 42 yX1_run, Cond.methodLink RX2 48 yX2_allHold, Cond.instanceMethod yX2_allHold, Cond.selects RX2 yX2_allHold yX2_allHold, Cond.code yX2_allHold cX2_allHold 5 (some .boolean), Cond.methodLink RX2 65 Lib.Math.abs.name, Cond.static Lib.Math.abs.name, Cond.code Lib.Math.abs.name Lib.Math.abs.code 1 (some .int), Cond.methodLink RX2 55 yX3_isTold, Cond.methodLink RX2 61 yX1_airBehind, Cond.methodLink RX2 52 yX2_keep, Cond.instanceMethod yX2_keep, Cond.selects RX2 yX2_keep yX2_keep, Cond.code yX2_keep cX2_keep 4 none, Cond.fieldLink RX2 71 "HotWeek$Glasses" "leastGives" "I", Cond.methodLink RX2 74 Lib.Math.min.name]
def wsL_law_r37 : List Cond := [Cond.static Lib.Math.min.name, Cond.code Lib.Math.min.name Lib.Math.min.code 2 (some .int), Cond.fieldLink RX2 77 "HotWeek$Glasses" "mostGives" "I", Cond.methodLink RX2 80 Lib.Math.max.name, Cond.fieldLink RX2 83 "HotWeek$Glasses" "leastTakes" "I", Cond.fieldLink RX2 86 "HotWeek$Glasses" "mostTakes" "I", Cond.methodLink RX10 241 yX2_laws, Cond.instanceMethod yX2_laws, Cond.selects RX2 yX2_laws yX2_laws, Cond.code yX2_laws cX2_laws 1 (some .int), Cond.methodLink RX10 244 yX2_bound, Cond.instanceMethod yX2_bound, Cond.selects RX2 yX2_bound yX2_bound, Cond.code yX2_bound cX2_bound 2 (some .int), Cond.methodLink RL 84 yX11_learnt, Cond.instanceMethod yX11_learnt, Cond.selects RX11 yX11_learnt yX11_learnt, Cond.code yX11_learnt cX11_learnt 7 (some .int), Cond.methodLink RX11 273 yX11_doHold, Cond.instanceMethod yX11_doHold, Cond.selects RX11 yX11_doHold yX11_doHold, Cond.code yX11_doHold cX11_doHold 4 (some .boolean), Cond.methodLink RL 85 yX10_flat, Cond.instanceMethod yX10_flat]
def wsL_law_r38 : List Cond := [Cond.selects RX10 yX10_flat yX10_flat, Cond.code yX10_flat cX10_flat 4 (some .int), Cond.methodLink RX10 247 yX6_tell, Cond.instanceMethod yX6_tell, Cond.selects RX6 yX6_tell yX6_tell, Cond.code yX6_tell cX6_tell 4 none, Cond.methodLink RL 88 yX11_flat, Cond.instanceMethod yX11_flat, Cond.selects RX11 yX11_flat yX11_flat, Cond.code yX11_flat cX11_flat 4 (some .int), Cond.methodLink RL 89 yX10_ring, Cond.instanceMethod yX10_ring, Cond.selects RX10 yX10_ring yX10_ring, Cond.code yX10_ring cX10_ring 2 (some .int), Cond.methodLink RX10 250 yX6_weigh, Cond.instanceMethod yX6_weigh, Cond.selects RX6 yX6_weigh yX6_weigh, Cond.code yX6_weigh cX6_weigh 3 none, Cond.methodLink RX6 21 yX6_toldSet, Cond.instanceMethod yX6_toldSet, Cond.selects RX6 yX6_toldSet yX6_toldSet, Cond.code yX6_toldSet cX6_toldSet 3 (some .int), Cond.methodLink RX6 31 yX6_firstOf, Cond.instanceMethod yX6_firstOf]
def wsL_law_r39 : List Cond := [Cond.selects RX6 yX6_firstOf yX6_firstOf, Cond.code yX6_firstOf cX6_firstOf 5 (some .int), Cond.methodLink RX6 35 yX6_lostBy, Cond.instanceMethod yX6_lostBy, Cond.selects RX6 yX6_lostBy yX6_lostBy, Cond.code yX6_lostBy cX6_lostBy 6 (some .int), Cond.methodLink RX6 25 yJ6_bitCount_0f7a4, Cond.static yJ6_bitCount_0f7a4, Cond.initialized RJ6, Cond.code yJ6_bitCount_0f7a4 cJ6_bitCount_0f7a4 1 (some .int), Cond.constant RJ6 265 (1431655765), Cond.constant RJ6 266 (858993459), Cond.constant RJ6 267 (252645135), Cond.methodLink RX10 253 yX6_lost, Cond.instanceMethod yX6_lost, Cond.selects RX6 yX6_lost yX6_lost, Cond.code yX6_lost cX6_lost 1 (some .int), Cond.methodLink RX10 256 yX6_flatAt, Cond.instanceMethod yX6_flatAt, Cond.selects RX6 yX6_flatAt yX6_flatAt, Cond.code yX6_flatAt cX6_flatAt 6 (some .int), Cond.methodLink RL 92 yX11_ring, Cond.instanceMethod yX11_ring, Cond.selects RX11 yX11_ring yX11_ring]
def wsL_law_r40 : List Cond := [Cond.code yX11_ring cX11_ring 7 (some .int), Cond.methodLink RX11 282 yX11_toldFlats, Cond.instanceMethod yX11_toldFlats, Cond.selects RX11 yX11_toldFlats yX11_toldFlats, Cond.code yX11_toldFlats cX11_toldFlats 3 (some .int), Cond.methodLink RX11 285 yX11_layRest, Cond.instanceMethod yX11_layRest, Cond.selects RX11 yX11_layRest yX11_layRest, Cond.code yX11_layRest cX11_layRest 6 none, Cond.methodLink RX11 276 yX11_bits, Cond.static yX11_bits, Cond.code yX11_bits cX11_bits 3 (some .int), Cond.methodLink RX11 279 yX11_lostBy, Cond.instanceMethod yX11_lostBy, Cond.selects RX11 yX11_lostBy yX11_lostBy, Cond.code yX11_lostBy cX11_lostBy 3 (some .int), Cond.methodLink RL 93 yX10_street, Cond.instanceMethod yX10_street, Cond.selects RX10 yX10_street yX10_street, Cond.code yX10_street cX10_street 6 (some .int), Cond.constant RX10 269 (100000), Cond.methodLink RX10 259 yX7_look, Cond.instanceMethod yX7_look, Cond.selects RX7 yX7_look yX7_look]
def wsL_law_r41 : List Cond := [Cond.code yX7_look cX7_look 7 none, Cond.fieldLink RX7 15 "HotWeek$Street" "better" "I", Cond.fieldLink RX7 18 "HotWeek$Street" "worse" "I", Cond.fieldLink RX7 21 "HotWeek$Street" "price" "I", Cond.fieldLink RX7 24 "HotWeek$Street" "rests" "I", Cond.fieldLink RX7 27 "HotWeek$Street" "bestRest" "I", Cond.fieldLink RX7 34 "HotWeek$Street" "mostByAny" "I", Cond.methodLink RX7 30 yX7_allHave, Cond.instanceMethod yX7_allHave, Cond.selects RX7 yX7_allHave yX7_allHave, Cond.code yX7_allHave cX7_allHave 4 (some .int), Cond.methodLink RX7 52 yX7_has, Cond.instanceMethod yX7_has, Cond.selects RX7 yX7_has yX7_has, Cond.code yX7_has cX7_has 5 (some .int), Cond.methodLink RX7 37 yX7_isRest, Cond.instanceMethod yX7_isRest, Cond.selects RX7 yX7_isRest yX7_isRest, Cond.code yX7_isRest cX7_isRest 4 (some .boolean), Cond.methodLink RX7 41 yX7_keepRest, Cond.instanceMethod yX7_keepRest, Cond.selects RX7 yX7_keepRest yX7_keepRest, Cond.code yX7_keepRest cX7_keepRest 3 none, Cond.fieldLink RX7 45 "HotWeek$Street" "mostByRest" "I"]
def wsL_law_r42 : List Cond := [Cond.methodLink RX10 263 yX7_rests, Cond.instanceMethod yX7_rests, Cond.selects RX7 yX7_rests yX7_rests, Cond.code yX7_rests cX7_rests 1 (some .int), Cond.methodLink RX10 266 yX7_bestRest, Cond.instanceMethod yX7_bestRest, Cond.selects RX7 yX7_bestRest yX7_bestRest, Cond.code yX7_bestRest cX7_bestRest 1 (some .int), Cond.methodLink RX10 270 yX7_mostByRest, Cond.instanceMethod yX7_mostByRest, Cond.selects RX7 yX7_mostByRest yX7_mostByRest, Cond.code yX7_mostByRest cX7_mostByRest 1 (some .int), Cond.methodLink RX10 273 yX7_mostByAny, Cond.instanceMethod yX7_mostByAny, Cond.selects RX7 yX7_mostByAny yX7_mostByAny, Cond.code yX7_mostByAny cX7_mostByAny 1 (some .int), Cond.methodLink RL 97 yX11_street, Cond.instanceMethod yX11_street, Cond.selects RX11 yX11_street yX11_street, Cond.code yX11_street cX11_street 16 (some .int), Cond.constant RX11 292 (100000), Cond.methodLink RX11 288 yX11_hasBy, Cond.static yX11_hasBy, Cond.code yX11_hasBy cX11_hasBy 8 (some .int)]
def wsL_law_r43 : List Cond := [Cond.methodLink RL 98 yX10_count, Cond.instanceMethod yX10_count, Cond.selects RX10 yX10_count yX10_count, Cond.code yX10_count cX10_count 2 (some .int), Cond.methodLink RX10 276 yX3_toldRooms, Cond.instanceMethod yX3_toldRooms, Cond.selects RX3 yX3_toldRooms yX3_toldRooms, Cond.code yX3_toldRooms cX3_toldRooms 3 (some .int), Cond.methodLink RX10 279 yX9_size, Cond.instanceMethod yX9_size, Cond.selects RX9 yX9_size yX9_size, Cond.code yX9_size cX9_size 1 (some .int), Cond.methodLink RX10 282 yX2_size, Cond.instanceMethod yX2_size, Cond.selects RX2 yX2_size yX2_size, Cond.code yX2_size cX2_size 1 (some .int), Cond.methodLink RX10 283 yX6_toldFlats, Cond.instanceMethod yX6_toldFlats, Cond.selects RX6 yX6_toldFlats yX6_toldFlats, Cond.code yX6_toldFlats cX6_toldFlats 1 (some .int), Cond.methodLink RX10 286 yX3_homeHours, Cond.methodLink RL 101 yX11_count, Cond.instanceMethod yX11_count, Cond.selects RX11 yX11_count yX11_count]
def wsL_law_r44 : List Cond := [Cond.code yX11_count cX11_count 2 (some .int)]
def wsL_law : List Cond := (wsL_law_r1 ++ (wsL_law_r2 ++ (wsL_law_r3 ++ (wsL_law_r4 ++ (wsL_law_r5 ++ (wsL_law_r6 ++ (wsL_law_r7 ++ (wsL_law_r8 ++ (wsL_law_r9 ++ (wsL_law_r10 ++ (wsL_law_r11 ++ (wsL_law_r12 ++ (wsL_law_r13 ++ (wsL_law_r14 ++ (wsL_law_r15 ++ (wsL_law_r16 ++ (wsL_law_r17 ++ (wsL_law_r18 ++ (wsL_law_r19 ++ (wsL_law_r20 ++ (wsL_law_r21 ++ (wsL_law_r22 ++ (wsL_law_r23 ++ (wsL_law_r24 ++ (wsL_law_r25 ++ (wsL_law_r26 ++ (wsL_law_r27 ++ (wsL_law_r28 ++ (wsL_law_r29 ++ (wsL_law_r30 ++ (wsL_law_r31 ++ (wsL_law_r32 ++ (wsL_law_r33 ++ (wsL_law_r34 ++ (wsL_law_r35 ++ (wsL_law_r36 ++ (wsL_law_r37 ++ (wsL_law_r38 ++ (wsL_law_r39 ++ (wsL_law_r40 ++ (wsL_law_r41 ++ (wsL_law_r42 ++ (wsL_law_r43 ++ wsL_law_r44))))))))))))))))))))))))))))))))))))))))))) ++ wsX100 ++ wsX110 ++ wsX80 ++ wsX50 ++ wsX30 ++ wsX40 ++ wsX10 ++ wsX00 ++ wsX90 ++ wsX20 ++ wsX60 ++ wsX70 ++ ([] : List Cond)
theorem in_p {big : List Cond} (ws : List Cond) (ps : List Nat) (h : ps.map (fun i => big[i]?) = ws.map some) : ∀ w ∈ ws, w ∈ big := by
  intro w hw
  have h1 : some w ∈ ws.map some := List.mem_map.mpr ⟨w, hw, rfl⟩
  rw [← h] at h1
  obtain ⟨i, -, hi⟩ := List.mem_map.mp h1
  exact List.mem_of_getElem? hi
theorem wsL_in_r1 : ∀ w ∈ wsL_law_r1, w ∈ lw_tbl := in_p _ [64, 65, 46, 1002, 1003, 57, 1368, 66, 67, 68, 69, 70, 71, 72, 73, 47, 348, 86, 87, 48, 349, 107, 108, 49] (by decide +kernel)
theorem wsL_in_r2 : ∀ w ∈ wsL_law_r2, w ∈ lw_tbl := in_p _ [350, 171, 172, 50, 351, 200, 201, 51, 352, 353, 217, 218, 52, 354, 239, 240, 53, 355, 267, 268, 54, 356, 301, 302] (by decide +kernel)
theorem wsL_in_r3 : ∀ w ∈ wsL_law_r3, w ∈ lw_tbl := in_p _ [55, 357, 317, 318, 56, 358, 359, 74, 75, 76, 77, 85, 78, 79, 88, 89, 90, 91, 94, 92, 95, 96, 97, 109] (by decide +kernel)
theorem wsL_in_r4 : ∀ w ∈ wsL_law_r4, w ∈ lw_tbl := in_p _ [110, 111, 112, 170, 115, 116, 117, 118, 119, 120, 121, 122, 113, 123, 114, 124, 125, 126, 127, 128, 129, 130, 131, 132] (by decide +kernel)
theorem wsL_in_r5 : ∀ w ∈ wsL_law_r5, w ∈ lw_tbl := in_p _ [173, 174, 175, 176, 178, 179, 180, 177, 181, 182, 183, 184, 202, 203, 204, 205, 206, 207, 208, 209, 219, 220, 221, 222] (by decide +kernel)
theorem wsL_in_r6 : ∀ w ∈ wsL_law_r6, w ∈ lw_tbl := in_p _ [223, 241, 242, 243, 244, 245, 246, 247, 248, 249, 269, 270, 271, 272, 273, 274, 275, 276, 277, 303, 304, 305, 306, 307] (by decide +kernel)
theorem wsL_in_r7 : ∀ w ∈ wsL_law_r7, w ∈ lw_tbl := in_p _ [308, 309, 319, 320, 321, 322, 323, 1004, 1005, 1006, 1007, 1010, 1011, 1012, 1013, 1014, 1015, 1016, 1017, 1018, 1019, 1020, 1021, 1022] (by decide +kernel)
theorem wsL_in_r8 : ∀ w ∈ wsL_law_r8, w ∈ lw_tbl := in_p _ [1008, 1023, 1025, 1033, 1034, 1035, 1036, 1037, 1038, 1039, 1040, 1042, 1043, 1045, 1046, 1047, 1048, 1050, 1051, 1052, 1053, 1054, 1055, 1056] (by decide +kernel)
theorem wsL_in_r9 : ∀ w ∈ wsL_law_r9, w ∈ lw_tbl := in_p _ [385, 386, 387, 388, 396, 389, 390, 391, 392, 393, 394, 395, 397, 398, 399, 400, 401, 402, 403, 404, 1154, 1155, 1156, 1157] (by decide +kernel)
theorem wsL_in_r10 : ∀ w ∈ wsL_law_r10, w ∈ lw_tbl := in_p _ [1024, 1161, 1158, 1159, 1160, 405, 406, 407, 408, 409, 410, 411, 412, 1162, 1163, 1164, 1165, 413, 414, 415, 416, 417, 418, 419] (by decide +kernel)
theorem wsL_in_r11 : ∀ w ∈ wsL_law_r11, w ∈ lw_tbl := in_p _ [420, 421, 423, 0, 424, 425, 426, 427, 428, 429, 430, 431, 432, 433, 434, 435, 436, 437, 438, 439, 440, 441, 442, 443] (by decide +kernel)
theorem wsL_in_r12 : ∀ w ∈ wsL_law_r12, w ∈ lw_tbl := in_p _ [444, 445, 456, 457, 458, 459, 460, 461, 462, 58, 463, 1369, 464, 465, 466, 467, 468, 1370, 470, 471, 472, 473, 474, 475] (by decide +kernel)
theorem wsL_in_r13 : ∀ w ∈ wsL_law_r13, w ∈ lw_tbl := in_p _ [476, 477, 478, 479, 59, 480, 481, 482, 483, 484, 486, 487, 60, 488, 489, 490, 61, 491, 492, 493, 494, 495, 496, 497] (by decide +kernel)
theorem wsL_in_r14 : ∀ w ∈ wsL_law_r14, w ∈ lw_tbl := in_p _ [498, 499, 500, 501, 502, 504, 506, 508, 510, 1, 511, 512, 514, 515, 516, 517, 519, 521, 2, 522, 523, 524, 1166, 1167] (by decide +kernel)
theorem wsL_in_r15 : ∀ w ∈ wsL_law_r15, w ∈ lw_tbl := in_p _ [1168, 1169, 1031, 1170, 1172, 20, 1173, 1026, 1032, 1028, 1187, 1182, 1174, 1176, 21, 1177, 1188, 1189, 1190, 1191, 1192, 1193, 1194, 1195] (by decide +kernel)
theorem wsL_in_r16 : ∀ w ∈ wsL_law_r16, w ∈ lw_tbl := in_p _ [1196, 1197, 1178, 1180, 22, 1181, 1027, 1029, 1030, 1183, 1184, 1185, 1186, 1198, 1200, 23, 1201, 1202, 1204, 24, 1205, 1206, 1208, 25] (by decide +kernel)
theorem wsL_in_r17 : ∀ w ∈ wsL_law_r17, w ∈ lw_tbl := in_p _ [1209, 526, 527, 528, 529, 530, 531, 532, 533, 534, 535, 536, 537, 538, 539, 540, 541, 542, 543, 544, 545, 546, 548, 3] (by decide +kernel)
theorem wsL_in_r18 : ∀ w ∈ wsL_law_r18, w ∈ lw_tbl := in_p _ [549, 551, 552, 553, 554, 555, 556, 1210, 1211, 1212, 1213, 1214, 1216, 26, 1217, 1009, 1218, 1220, 27, 1221, 1222, 1223, 1224, 557] (by decide +kernel)
theorem wsL_in_r19 : ∀ w ∈ wsL_law_r19, w ∈ lw_tbl := in_p _ [558, 559, 560, 561, 562, 563, 564, 565, 566, 567, 568, 569, 570, 571, 572, 573, 574, 575, 576, 577, 578, 579, 580, 581] (by decide +kernel)
theorem wsL_in_r20 : ∀ w ∈ wsL_law_r20, w ∈ lw_tbl := in_p _ [582, 583, 584, 585, 586, 587, 588, 589, 590, 591, 592, 1225, 1226, 1227, 1228, 1229, 1231, 28, 1232, 1233, 1234, 1235, 593, 594] (by decide +kernel)
theorem wsL_in_r21 : ∀ w ∈ wsL_law_r21, w ∈ lw_tbl := in_p _ [595, 596, 597, 598, 599, 600, 601, 602, 603, 1236, 1237, 1238, 1239, 604, 605, 606, 607, 608, 609, 610, 611, 612, 613, 614] (by decide +kernel)
theorem wsL_in_r22 : ∀ w ∈ wsL_law_r22, w ∈ lw_tbl := in_p _ [1240, 1241, 1242, 1243, 1244, 1246, 29, 1247, 615, 616, 617, 618, 619, 621, 4, 622, 623, 624, 625, 626, 627, 628, 629, 630] (by decide +kernel)
theorem wsL_in_r23 : ∀ w ∈ wsL_law_r23, w ∈ lw_tbl := in_p _ [632, 5, 633, 634, 635, 636, 637, 638, 639, 640, 641, 642, 643, 644, 647, 648, 649, 650, 651, 652, 653, 654, 655, 656] (by decide +kernel)
theorem wsL_in_r24 : ∀ w ∈ wsL_law_r24, w ∈ lw_tbl := in_p _ [657, 658, 659, 660, 661, 662, 663, 664, 665, 666, 667, 668, 670, 6, 671, 672, 673, 674, 675, 676, 677, 678, 679, 681] (by decide +kernel)
theorem wsL_in_r25 : ∀ w ∈ wsL_law_r25, w ∈ lw_tbl := in_p _ [682, 683, 684, 686, 687, 688, 689, 690, 691, 692, 693, 694, 696, 7, 697, 698, 699, 700, 701, 702, 703, 704, 705, 706] (by decide +kernel)
theorem wsL_in_r26 : ∀ w ∈ wsL_law_r26, w ∈ lw_tbl := in_p _ [707, 708, 709, 710, 711, 712, 713, 714, 715, 716, 717, 718, 719, 720, 721, 722, 723, 1248, 1249, 1250, 1251, 1252, 1254, 30] (by decide +kernel)
theorem wsL_in_r27 : ∀ w ∈ wsL_law_r27, w ∈ lw_tbl := in_p _ [1255, 1041, 1256, 1258, 31, 1259, 1260, 1262, 32, 1263, 1264, 1266, 33, 1267, 1044, 1268, 1270, 34, 1271, 1272, 1274, 35, 1275, 724] (by decide +kernel)
theorem wsL_in_r28 : ∀ w ∈ wsL_law_r28, w ∈ lw_tbl := in_p _ [725, 726, 727, 728, 729, 730, 731, 732, 733, 734, 735, 736, 1276, 1277, 1278, 1279, 1280, 1282, 36, 1283, 1284, 1286, 37, 1287] (by decide +kernel)
theorem wsL_in_r29 : ∀ w ∈ wsL_law_r29, w ∈ lw_tbl := in_p _ [737, 738, 739, 740, 741, 742, 743, 744, 745, 746, 62, 747, 1288, 1289, 1290, 1291, 748, 749, 750, 751, 756, 752, 753, 754] (by decide +kernel)
theorem wsL_in_r30 : ∀ w ∈ wsL_law_r30, w ∈ lw_tbl := in_p _ [755, 1292, 1293, 1294, 1295, 1296, 757, 758, 759, 760, 761, 762, 763, 764, 227, 765, 766, 767, 768, 769, 770, 771, 773, 774] (by decide +kernel)
theorem wsL_in_r31 : ∀ w ∈ wsL_law_r31, w ∈ lw_tbl := in_p _ [775, 776, 777, 779, 8, 780, 226, 224, 225, 781, 782, 783, 784, 785, 786, 787, 788, 789, 790, 791, 792, 793, 794, 795] (by decide +kernel)
theorem wsL_in_r32 : ∀ w ∈ wsL_law_r32, w ∈ lw_tbl := in_p _ [796, 1297, 1298, 1299, 1300, 1301, 1303, 38, 1304, 1305, 1307, 39, 1308, 797, 798, 799, 800, 801, 802, 803, 804, 805, 806, 807] (by decide +kernel)
theorem wsL_in_r33 : ∀ w ∈ wsL_law_r33, w ∈ lw_tbl := in_p _ [808, 809, 1309, 1310, 1311, 1312, 810, 811, 812, 813, 814, 815, 816, 817, 251, 250, 818, 819, 821, 9, 822, 824, 825, 826] (by decide +kernel)
theorem wsL_in_r34 : ∀ w ∈ wsL_law_r34, w ∈ lw_tbl := in_p _ [827, 828, 830, 10, 831, 832, 833, 834, 835, 836, 837, 838, 839, 840, 841, 842, 843, 844, 845, 846, 1313, 1314, 1315, 1316] (by decide +kernel)
theorem wsL_in_r35 : ∀ w ∈ wsL_law_r35, w ∈ lw_tbl := in_p _ [1317, 1319, 40, 1320, 847, 848, 849, 850, 851, 852, 853, 854, 855, 856, 857, 858, 859, 1321, 1322, 1323, 1324, 1049, 860, 861] (by decide +kernel)
theorem wsL_in_r36 : ∀ w ∈ wsL_law_r36, w ∈ lw_tbl := in_p _ [862, 863, 864, 865, 866, 867, 868, 869, 870, 871, 873, 11, 874, 877, 878, 879, 875, 876, 880, 882, 12, 883, 278, 884] (by decide +kernel)
theorem wsL_in_r37 : ∀ w ∈ wsL_law_r37, w ∈ lw_tbl := in_p _ [885, 886, 279, 887, 280, 281, 888, 889, 890, 891, 892, 893, 894, 895, 1325, 1326, 1327, 1328, 1329, 1331, 41, 1332, 896, 897] (by decide +kernel)
theorem wsL_in_r38 : ∀ w ∈ wsL_law_r38, w ∈ lw_tbl := in_p _ [898, 899, 900, 901, 902, 903, 1333, 1334, 1335, 1336, 904, 905, 906, 907, 908, 909, 910, 911, 912, 914, 13, 915, 916, 918] (by decide +kernel)
theorem wsL_in_r39 : ∀ w ∈ wsL_law_r39, w ∈ lw_tbl := in_p _ [14, 919, 921, 923, 15, 924, 925, 926, 63, 927, 928, 929, 930, 931, 932, 933, 934, 935, 936, 937, 938, 1337, 1338, 1339] (by decide +kernel)
theorem wsL_in_r40 : ∀ w ∈ wsL_law_r40, w ∈ lw_tbl := in_p _ [1340, 1341, 1343, 42, 1344, 1345, 1347, 43, 1348, 1349, 1350, 1351, 1352, 1354, 44, 1355, 939, 940, 941, 942, 972, 943, 944, 945] (by decide +kernel)
theorem wsL_in_r41 : ∀ w ∈ wsL_law_r41, w ∈ lw_tbl := in_p _ [946, 324, 325, 326, 327, 328, 330, 947, 949, 16, 950, 952, 954, 17, 955, 956, 958, 18, 959, 960, 962, 19, 963, 329] (by decide +kernel)
theorem wsL_in_r42 : ∀ w ∈ wsL_law_r42, w ∈ lw_tbl := in_p _ [964, 965, 966, 967, 968, 969, 970, 971, 973, 974, 975, 976, 977, 978, 979, 980, 1356, 1357, 1358, 1359, 1363, 1360, 1361, 1362] (by decide +kernel)
theorem wsL_in_r43 : ∀ w ∈ wsL_law_r43, w ∈ lw_tbl := in_p _ [981, 982, 983, 984, 985, 986, 987, 988, 989, 990, 991, 992, 993, 994, 995, 996, 997, 998, 999, 1000, 1001, 1364, 1365, 1366] (by decide +kernel)
theorem wsL_in_r44 : ∀ w ∈ wsL_law_r44, w ∈ lw_tbl := in_p _ [1367] (by decide +kernel)
theorem wsL_in_wsX100 : ∀ w ∈ wsX100, w ∈ lw_tbl := in_p _ [360, 362, 364, 366, 368, 370, 372, 374, 376, 378, 380, 382] (by decide +kernel)
theorem wsL_in_wsX110 : ∀ w ∈ wsX110, w ∈ lw_tbl := in_p _ [1057, 1059, 1061, 1063, 1065, 1067, 1069, 1071, 1073, 1075, 1077, 1079, 1081, 1083, 1085, 1087, 1089, 1091, 1093, 1095, 1097, 1099, 1101, 1103, 1105, 1107, 1109, 1111, 1113, 1115, 1117, 1119, 1121, 1123, 1125, 1127, 1129, 1131, 1133, 1135, 1137, 1139, 1141, 1143, 1145, 1147, 1149, 1151] (by decide +kernel)
theorem wsL_in_wsX80 : ∀ w ∈ wsX80, w ∈ lw_tbl := in_p _ [80, 82] (by decide +kernel)
theorem wsL_in_wsX50 : ∀ w ∈ wsX50, w ∈ lw_tbl := in_p _ [98, 100, 102, 104] (by decide +kernel)
theorem wsL_in_wsX30 : ∀ w ∈ wsX30, w ∈ lw_tbl := in_p _ [133, 135, 137, 139, 141, 143, 145, 147, 149, 151, 153, 155, 157, 159, 161, 163, 165, 167] (by decide +kernel)
theorem wsL_in_wsX40 : ∀ w ∈ wsX40, w ∈ lw_tbl := in_p _ [185, 187, 189, 191, 193, 195, 197] (by decide +kernel)
theorem wsL_in_wsX10 : ∀ w ∈ wsX10, w ∈ lw_tbl := in_p _ [210, 212, 214] (by decide +kernel)
theorem wsL_in_wsX00 : ∀ w ∈ wsX00, w ∈ lw_tbl := in_p _ [228, 230, 232, 234, 236] (by decide +kernel)
theorem wsL_in_wsX90 : ∀ w ∈ wsX90, w ∈ lw_tbl := in_p _ [252, 254, 256, 258, 260, 262, 264] (by decide +kernel)
theorem wsL_in_wsX20 : ∀ w ∈ wsX20, w ∈ lw_tbl := in_p _ [282, 284, 286, 288, 290, 292, 294, 296, 298] (by decide +kernel)
theorem wsL_in_wsX60 : ∀ w ∈ wsX60, w ∈ lw_tbl := in_p _ [310, 312, 314] (by decide +kernel)
theorem wsL_in_wsX70 : ∀ w ∈ wsX70, w ∈ lw_tbl := in_p _ [331, 333, 335, 337, 339, 341, 343, 345] (by decide +kernel)
theorem wsL_law_in : ∀ w ∈ wsL_law, w ∈ lw_tbl := List.forall_mem_append.mpr ⟨List.forall_mem_append.mpr ⟨List.forall_mem_append.mpr ⟨List.forall_mem_append.mpr ⟨List.forall_mem_append.mpr ⟨List.forall_mem_append.mpr ⟨List.forall_mem_append.mpr ⟨List.forall_mem_append.mpr ⟨List.forall_mem_append.mpr ⟨List.forall_mem_append.mpr ⟨List.forall_mem_append.mpr ⟨List.forall_mem_append.mpr ⟨List.forall_mem_append.mpr ⟨List.forall_mem_append.mpr ⟨wsL_in_r1, List.forall_mem_append.mpr ⟨wsL_in_r2, List.forall_mem_append.mpr ⟨wsL_in_r3, List.forall_mem_append.mpr ⟨wsL_in_r4, List.forall_mem_append.mpr ⟨wsL_in_r5, List.forall_mem_append.mpr ⟨wsL_in_r6, List.forall_mem_append.mpr ⟨wsL_in_r7, List.forall_mem_append.mpr ⟨wsL_in_r8, List.forall_mem_append.mpr ⟨wsL_in_r9, List.forall_mem_append.mpr ⟨wsL_in_r10, List.forall_mem_append.mpr ⟨wsL_in_r11, List.forall_mem_append.mpr ⟨wsL_in_r12, List.forall_mem_append.mpr ⟨wsL_in_r13, List.forall_mem_append.mpr ⟨wsL_in_r14, List.forall_mem_append.mpr ⟨wsL_in_r15, List.forall_mem_append.mpr ⟨wsL_in_r16, List.forall_mem_append.mpr ⟨wsL_in_r17, List.forall_mem_append.mpr ⟨wsL_in_r18, List.forall_mem_append.mpr ⟨wsL_in_r19, List.forall_mem_append.mpr ⟨wsL_in_r20, List.forall_mem_append.mpr ⟨wsL_in_r21, List.forall_mem_append.mpr ⟨wsL_in_r22, List.forall_mem_append.mpr ⟨wsL_in_r23, List.forall_mem_append.mpr ⟨wsL_in_r24, List.forall_mem_append.mpr ⟨wsL_in_r25, List.forall_mem_append.mpr ⟨wsL_in_r26, List.forall_mem_append.mpr ⟨wsL_in_r27, List.forall_mem_append.mpr ⟨wsL_in_r28, List.forall_mem_append.mpr ⟨wsL_in_r29, List.forall_mem_append.mpr ⟨wsL_in_r30, List.forall_mem_append.mpr ⟨wsL_in_r31, List.forall_mem_append.mpr ⟨wsL_in_r32, List.forall_mem_append.mpr ⟨wsL_in_r33, List.forall_mem_append.mpr ⟨wsL_in_r34, List.forall_mem_append.mpr ⟨wsL_in_r35, List.forall_mem_append.mpr ⟨wsL_in_r36, List.forall_mem_append.mpr ⟨wsL_in_r37, List.forall_mem_append.mpr ⟨wsL_in_r38, List.forall_mem_append.mpr ⟨wsL_in_r39, List.forall_mem_append.mpr ⟨wsL_in_r40, List.forall_mem_append.mpr ⟨wsL_in_r41, List.forall_mem_append.mpr ⟨wsL_in_r42, List.forall_mem_append.mpr ⟨wsL_in_r43, wsL_in_r44⟩⟩⟩⟩⟩⟩⟩⟩⟩⟩⟩⟩⟩⟩⟩⟩⟩⟩⟩⟩⟩⟩⟩⟩⟩⟩⟩⟩⟩⟩⟩⟩⟩⟩⟩⟩⟩⟩⟩⟩⟩⟩⟩, wsL_in_wsX100⟩, wsL_in_wsX110⟩, wsL_in_wsX80⟩, wsL_in_wsX50⟩, wsL_in_wsX30⟩, wsL_in_wsX40⟩, wsL_in_wsX10⟩, wsL_in_wsX00⟩, wsL_in_wsX90⟩, wsL_in_wsX20⟩, wsL_in_wsX60⟩, wsL_in_wsX70⟩, fun _ h => absurd h List.not_mem_nil⟩
theorem inlX0 : ∀ w ∈ wsX00, w ∈ wsL_law := fun _ h => List.mem_append_left _ (List.mem_append_left _ (List.mem_append_left _ (List.mem_append_left _ (List.mem_append_left _ (List.mem_append_right _ h)))))
theorem inX0 : ∀ w ∈ wsX00, w ∈ lw_tbl := fun w h => wsL_law_in w (inlX0 w h)
theorem inlX1 : ∀ w ∈ wsX10, w ∈ wsL_law := fun _ h => List.mem_append_left _ (List.mem_append_left _ (List.mem_append_left _ (List.mem_append_left _ (List.mem_append_left _ (List.mem_append_left _ (List.mem_append_right _ h))))))
theorem inX1 : ∀ w ∈ wsX10, w ∈ lw_tbl := fun w h => wsL_law_in w (inlX1 w h)
theorem inlX2 : ∀ w ∈ wsX20, w ∈ wsL_law := fun _ h => List.mem_append_left _ (List.mem_append_left _ (List.mem_append_left _ (List.mem_append_right _ h)))
theorem inX2 : ∀ w ∈ wsX20, w ∈ lw_tbl := fun w h => wsL_law_in w (inlX2 w h)
theorem inlX3 : ∀ w ∈ wsX30, w ∈ wsL_law := fun _ h => List.mem_append_left _ (List.mem_append_left _ (List.mem_append_left _ (List.mem_append_left _ (List.mem_append_left _ (List.mem_append_left _ (List.mem_append_left _ (List.mem_append_left _ (List.mem_append_right _ h))))))))
theorem inX3 : ∀ w ∈ wsX30, w ∈ lw_tbl := fun w h => wsL_law_in w (inlX3 w h)
theorem inlX4 : ∀ w ∈ wsX40, w ∈ wsL_law := fun _ h => List.mem_append_left _ (List.mem_append_left _ (List.mem_append_left _ (List.mem_append_left _ (List.mem_append_left _ (List.mem_append_left _ (List.mem_append_left _ (List.mem_append_right _ h)))))))
theorem inX4 : ∀ w ∈ wsX40, w ∈ lw_tbl := fun w h => wsL_law_in w (inlX4 w h)
theorem inlX5 : ∀ w ∈ wsX50, w ∈ wsL_law := fun _ h => List.mem_append_left _ (List.mem_append_left _ (List.mem_append_left _ (List.mem_append_left _ (List.mem_append_left _ (List.mem_append_left _ (List.mem_append_left _ (List.mem_append_left _ (List.mem_append_left _ (List.mem_append_right _ h)))))))))
theorem inX5 : ∀ w ∈ wsX50, w ∈ lw_tbl := fun w h => wsL_law_in w (inlX5 w h)
theorem inlX6 : ∀ w ∈ wsX60, w ∈ wsL_law := fun _ h => List.mem_append_left _ (List.mem_append_left _ (List.mem_append_right _ h))
theorem inX6 : ∀ w ∈ wsX60, w ∈ lw_tbl := fun w h => wsL_law_in w (inlX6 w h)
theorem inlX7 : ∀ w ∈ wsX70, w ∈ wsL_law := fun _ h => List.mem_append_left _ (List.mem_append_right _ h)
theorem inX7 : ∀ w ∈ wsX70, w ∈ lw_tbl := fun w h => wsL_law_in w (inlX7 w h)
theorem inlX8 : ∀ w ∈ wsX80, w ∈ wsL_law := fun _ h => List.mem_append_left _ (List.mem_append_left _ (List.mem_append_left _ (List.mem_append_left _ (List.mem_append_left _ (List.mem_append_left _ (List.mem_append_left _ (List.mem_append_left _ (List.mem_append_left _ (List.mem_append_left _ (List.mem_append_right _ h))))))))))
theorem inX8 : ∀ w ∈ wsX80, w ∈ lw_tbl := fun w h => wsL_law_in w (inlX8 w h)
theorem inlX9 : ∀ w ∈ wsX90, w ∈ wsL_law := fun _ h => List.mem_append_left _ (List.mem_append_left _ (List.mem_append_left _ (List.mem_append_left _ (List.mem_append_right _ h))))
theorem inX9 : ∀ w ∈ wsX90, w ∈ lw_tbl := fun w h => wsL_law_in w (inlX9 w h)
theorem inlX10 : ∀ w ∈ wsX100, w ∈ wsL_law := fun _ h => List.mem_append_left _ (List.mem_append_left _ (List.mem_append_left _ (List.mem_append_left _ (List.mem_append_left _ (List.mem_append_left _ (List.mem_append_left _ (List.mem_append_left _ (List.mem_append_left _ (List.mem_append_left _ (List.mem_append_left _ (List.mem_append_left _ (List.mem_append_right _ h))))))))))))
theorem inX10 : ∀ w ∈ wsX100, w ∈ lw_tbl := fun w h => wsL_law_in w (inlX10 w h)
theorem inlX11 : ∀ w ∈ wsX110, w ∈ wsL_law := fun _ h => List.mem_append_left _ (List.mem_append_left _ (List.mem_append_left _ (List.mem_append_left _ (List.mem_append_left _ (List.mem_append_left _ (List.mem_append_left _ (List.mem_append_left _ (List.mem_append_left _ (List.mem_append_left _ (List.mem_append_left _ (List.mem_append_right _ h)))))))))))
theorem inX11 : ∀ w ∈ wsX110, w ∈ lw_tbl := fun w h => wsL_law_in w (inlX11 w h)
theorem inJ6 : ∀ w ∈ wsJ60, w ∈ lw_tbl := by decide +kernel
theorem inJ9 : ∀ w ∈ wsJ90, w ∈ lw_tbl := by decide +kernel
theorem inJ0 : ∀ w ∈ wsJ00, w ∈ lw_tbl := by decide +kernel
theorem inJ1 : ∀ w ∈ wsJ10, w ∈ lw_tbl := by decide +kernel
theorem inJ2 : ∀ w ∈ wsJ20, w ∈ lw_tbl := by decide +kernel
theorem inJ3 : ∀ w ∈ wsJ30, w ∈ lw_tbl := by decide +kernel
abbrev vwCl : List vw_C := [(RX0, TX0, 5), (RX1, TX1, 3), (RX2, TX2, 9), (RX3, TX3, 18), (RX4, TX4, 7), (RX5, TX5, 4), (RX6, TX6, 3), (RX7, TX7, 8), (RX8, TX8, 2), (RX9, TX9, 7), (RX10, TX10, 12), (RX11, TX11, 48)]
