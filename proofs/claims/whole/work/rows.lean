section
-- ===== PART A: goes FIRST, ahead of the names: the tables' words, and 'selects' of the private methods out of them =====
/-- a private method of a class that the tables say can be made, by its rows of tables_1 -/
def lw_okq (q : MethodName × Nat) : Prop := (q.1.cls ≠ "java/lang/invoke/MethodHandle" ∧ q.1.cls ≠ "java/lang/invoke/VarHandle") ∧ Cond.instantiable q.1.cls q.2 ∈ tables_1 ∧ Cond.privateMethod q.1 ∈ tables_1 ∧ Cond.instanceMethod q.1 ∈ tables_1
theorem lw_p0 : lw_okq (⟨"HotWeek$Reader", "readsWord", "(LHotWeek$Text;I)Z"⟩, 4) := ⟨⟨by decide +kernel, by decide +kernel⟩, List.mem_of_getElem? (i := 42) (by decide +kernel), List.mem_of_getElem? (i := 377) (by decide +kernel), List.mem_of_getElem? (i := 378) (by decide +kernel)⟩
theorem lw_p1 : lw_okq (⟨"HotWeek$Reader", "readsNumbers", "(LHotWeek$Text;I)Z"⟩, 4) := ⟨⟨by decide +kernel, by decide +kernel⟩, List.mem_of_getElem? (i := 42) (by decide +kernel), List.mem_of_getElem? (i := 464) (by decide +kernel), List.mem_of_getElem? (i := 465) (by decide +kernel)⟩
theorem lw_p2 : lw_okq (⟨"HotWeek$Reader", "isDoorToItself", "(III)Z"⟩, 4) := ⟨⟨by decide +kernel, by decide +kernel⟩, List.mem_of_getElem? (i := 42) (by decide +kernel), List.mem_of_getElem? (i := 475) (by decide +kernel), List.mem_of_getElem? (i := 476) (by decide +kernel)⟩
theorem lw_p3 : lw_okq (⟨"HotWeek$House", "tellRoom", "([I)V"⟩, 18) := ⟨⟨by decide +kernel, by decide +kernel⟩, List.mem_of_getElem? (i := 63) (by decide +kernel), List.mem_of_getElem? (i := 502) (by decide +kernel), List.mem_of_getElem? (i := 503) (by decide +kernel)⟩
theorem lw_p4 : lw_okq (⟨"HotWeek", "courseAsTold", "()LHotWeek$Course;"⟩, 12) := ⟨⟨by decide +kernel, by decide +kernel⟩, List.mem_of_getElem? (i := 20) (by decide +kernel), List.mem_of_getElem? (i := 575) (by decide +kernel), List.mem_of_getElem? (i := 576) (by decide +kernel)⟩
theorem lw_p5 : lw_okq (⟨"HotWeek$Plan", "takeWorksOff", "(ILHotWeek$House;)V"⟩, 7) := ⟨⟨by decide +kernel, by decide +kernel⟩, List.mem_of_getElem? (i := 127) (by decide +kernel), List.mem_of_getElem? (i := 586) (by decide +kernel), List.mem_of_getElem? (i := 587) (by decide +kernel)⟩
theorem lw_p6 : lw_okq (⟨"HotWeek$Course", "goOn", "(IILHotWeek$House;LHotWeek$Plan;)V"⟩, 3) := ⟨⟨by decide +kernel, by decide +kernel⟩, List.mem_of_getElem? (i := 156) (by decide +kernel), List.mem_of_getElem? (i := 624) (by decide +kernel), List.mem_of_getElem? (i := 625) (by decide +kernel)⟩
theorem lw_p7 : lw_okq (⟨"HotWeek$Course", "throughDoors", "(IILHotWeek$House;)I"⟩, 3) := ⟨⟨by decide +kernel, by decide +kernel⟩, List.mem_of_getElem? (i := 156) (by decide +kernel), List.mem_of_getElem? (i := 650) (by decide +kernel), List.mem_of_getElem? (i := 651) (by decide +kernel)⟩
theorem lw_p8 : lw_okq (⟨"HotWeek$BestClock", "keepBetter", "(III)V"⟩, 5) := ⟨⟨by decide +kernel, by decide +kernel⟩, List.mem_of_getElem? (i := 173) (by decide +kernel), List.mem_of_getElem? (i := 733) (by decide +kernel), List.mem_of_getElem? (i := 734) (by decide +kernel)⟩
theorem lw_p9 : lw_okq (⟨"HotWeek$Works", "costOf", "(I)I"⟩, 7) := ⟨⟨by decide +kernel, by decide +kernel⟩, List.mem_of_getElem? (i := 195) (by decide +kernel), List.mem_of_getElem? (i := 775) (by decide +kernel), List.mem_of_getElem? (i := 776) (by decide +kernel)⟩
theorem lw_p10 : lw_okq (⟨"HotWeek$Works", "put", "(ILHotWeek$Plan;)V"⟩, 7) := ⟨⟨by decide +kernel, by decide +kernel⟩, List.mem_of_getElem? (i := 195) (by decide +kernel), List.mem_of_getElem? (i := 784) (by decide +kernel), List.mem_of_getElem? (i := 785) (by decide +kernel)⟩
theorem lw_p11 : lw_okq (⟨"HotWeek$Glasses", "allHold", "(ILHotWeek$House;LHotWeek$Course;)Z"⟩, 9) := ⟨⟨by decide +kernel, by decide +kernel⟩, List.mem_of_getElem? (i := 223) (by decide +kernel), List.mem_of_getElem? (i := 827) (by decide +kernel), List.mem_of_getElem? (i := 828) (by decide +kernel)⟩
theorem lw_p12 : lw_okq (⟨"HotWeek$Glasses", "keep", "(II)V"⟩, 9) := ⟨⟨by decide +kernel, by decide +kernel⟩, List.mem_of_getElem? (i := 223) (by decide +kernel), List.mem_of_getElem? (i := 836) (by decide +kernel), List.mem_of_getElem? (i := 837) (by decide +kernel)⟩
theorem lw_p13 : lw_okq (⟨"HotWeek$Rings", "toldSet", "()I"⟩, 3) := ⟨⟨by decide +kernel, by decide +kernel⟩, List.mem_of_getElem? (i := 257) (by decide +kernel), List.mem_of_getElem? (i := 868) (by decide +kernel), List.mem_of_getElem? (i := 869) (by decide +kernel)⟩
theorem lw_p14 : lw_okq (⟨"HotWeek$Rings", "firstOf", "(II)I"⟩, 3) := ⟨⟨by decide +kernel, by decide +kernel⟩, List.mem_of_getElem? (i := 257) (by decide +kernel), List.mem_of_getElem? (i := 872) (by decide +kernel), List.mem_of_getElem? (i := 873) (by decide +kernel)⟩
theorem lw_p15 : lw_okq (⟨"HotWeek$Rings", "lostBy", "(III)I"⟩, 3) := ⟨⟨by decide +kernel, by decide +kernel⟩, List.mem_of_getElem? (i := 257) (by decide +kernel), List.mem_of_getElem? (i := 877) (by decide +kernel), List.mem_of_getElem? (i := 878) (by decide +kernel)⟩
def lw_privs_1 : List (MethodName × Nat) := [(⟨"HotWeek$Reader", "readsWord", "(LHotWeek$Text;I)Z"⟩, 4), (⟨"HotWeek$Reader", "readsNumbers", "(LHotWeek$Text;I)Z"⟩, 4), (⟨"HotWeek$Reader", "isDoorToItself", "(III)Z"⟩, 4), (⟨"HotWeek$House", "tellRoom", "([I)V"⟩, 18), (⟨"HotWeek", "courseAsTold", "()LHotWeek$Course;"⟩, 12), (⟨"HotWeek$Plan", "takeWorksOff", "(ILHotWeek$House;)V"⟩, 7), (⟨"HotWeek$Course", "goOn", "(IILHotWeek$House;LHotWeek$Plan;)V"⟩, 3), (⟨"HotWeek$Course", "throughDoors", "(IILHotWeek$House;)I"⟩, 3), (⟨"HotWeek$BestClock", "keepBetter", "(III)V"⟩, 5), (⟨"HotWeek$Works", "costOf", "(I)I"⟩, 7), (⟨"HotWeek$Works", "put", "(ILHotWeek$Plan;)V"⟩, 7), (⟨"HotWeek$Glasses", "allHold", "(ILHotWeek$House;LHotWeek$Course;)Z"⟩, 9), (⟨"HotWeek$Glasses", "keep", "(II)V"⟩, 9), (⟨"HotWeek$Rings", "toldSet", "()I"⟩, 3), (⟨"HotWeek$Rings", "firstOf", "(II)I"⟩, 3), (⟨"HotWeek$Rings", "lostBy", "(III)I"⟩, 3)]
theorem lw_r1 : ∀ q ∈ lw_privs_1, lw_okq q := List.forall_mem_cons.mpr ⟨lw_p0, List.forall_mem_cons.mpr ⟨lw_p1, List.forall_mem_cons.mpr ⟨lw_p2, List.forall_mem_cons.mpr ⟨lw_p3, List.forall_mem_cons.mpr ⟨lw_p4, List.forall_mem_cons.mpr ⟨lw_p5, List.forall_mem_cons.mpr ⟨lw_p6, List.forall_mem_cons.mpr ⟨lw_p7, List.forall_mem_cons.mpr ⟨lw_p8, List.forall_mem_cons.mpr ⟨lw_p9, List.forall_mem_cons.mpr ⟨lw_p10, List.forall_mem_cons.mpr ⟨lw_p11, List.forall_mem_cons.mpr ⟨lw_p12, List.forall_mem_cons.mpr ⟨lw_p13, List.forall_mem_cons.mpr ⟨lw_p14, List.forall_mem_cons.mpr ⟨lw_p15, fun _ h => absurd h List.not_mem_nil⟩⟩⟩⟩⟩⟩⟩⟩⟩⟩⟩⟩⟩⟩⟩⟩
theorem lw_p16 : lw_okq (⟨"HotWeek$Street", "allHave", "(I)I"⟩, 8) := ⟨⟨by decide +kernel, by decide +kernel⟩, List.mem_of_getElem? (i := 273) (by decide +kernel), List.mem_of_getElem? (i := 903) (by decide +kernel), List.mem_of_getElem? (i := 904) (by decide +kernel)⟩
theorem lw_p17 : lw_okq (⟨"HotWeek$Street", "has", "(IZI)I"⟩, 8) := ⟨⟨by decide +kernel, by decide +kernel⟩, List.mem_of_getElem? (i := 273) (by decide +kernel), List.mem_of_getElem? (i := 908) (by decide +kernel), List.mem_of_getElem? (i := 909) (by decide +kernel)⟩
theorem lw_p18 : lw_okq (⟨"HotWeek$Street", "isRest", "(I)Z"⟩, 8) := ⟨⟨by decide +kernel, by decide +kernel⟩, List.mem_of_getElem? (i := 273) (by decide +kernel), List.mem_of_getElem? (i := 912) (by decide +kernel), List.mem_of_getElem? (i := 913) (by decide +kernel)⟩
theorem lw_p19 : lw_okq (⟨"HotWeek$Street", "keepRest", "(II)V"⟩, 8) := ⟨⟨by decide +kernel, by decide +kernel⟩, List.mem_of_getElem? (i := 273) (by decide +kernel), List.mem_of_getElem? (i := 916) (by decide +kernel), List.mem_of_getElem? (i := 917) (by decide +kernel)⟩
theorem lw_p20 : lw_okq (⟨"HotWeekModel", "isRead", "()Z"⟩, 48) := ⟨⟨by decide +kernel, by decide +kernel⟩, List.mem_of_getElem? (i := 958) (by decide +kernel), List.mem_of_getElem? (i := 1126) (by decide +kernel), List.mem_of_getElem? (i := 1127) (by decide +kernel)⟩
theorem lw_p21 : lw_okq (⟨"HotWeekModel", "isLine", "(I)Z"⟩, 48) := ⟨⟨by decide +kernel, by decide +kernel⟩, List.mem_of_getElem? (i := 958) (by decide +kernel), List.mem_of_getElem? (i := 1130) (by decide +kernel), List.mem_of_getElem? (i := 1131) (by decide +kernel)⟩
theorem lw_p22 : lw_okq (⟨"HotWeekModel", "nextToken", "()V"⟩, 48) := ⟨⟨by decide +kernel, by decide +kernel⟩, List.mem_of_getElem? (i := 958) (by decide +kernel), List.mem_of_getElem? (i := 1134) (by decide +kernel), List.mem_of_getElem? (i := 1135) (by decide +kernel)⟩
theorem lw_p23 : lw_okq (⟨"HotWeekModel", "isNumber", "(III)Z"⟩, 48) := ⟨⟨by decide +kernel, by decide +kernel⟩, List.mem_of_getElem? (i := 958) (by decide +kernel), List.mem_of_getElem? (i := 1154) (by decide +kernel), List.mem_of_getElem? (i := 1155) (by decide +kernel)⟩
theorem lw_p24 : lw_okq (⟨"HotWeekModel", "fails", "()Z"⟩, 48) := ⟨⟨by decide +kernel, by decide +kernel⟩, List.mem_of_getElem? (i := 958) (by decide +kernel), List.mem_of_getElem? (i := 1158) (by decide +kernel), List.mem_of_getElem? (i := 1159) (by decide +kernel)⟩
theorem lw_p25 : lw_okq (⟨"HotWeekModel", "isDoor", "(I)Z"⟩, 48) := ⟨⟨by decide +kernel, by decide +kernel⟩, List.mem_of_getElem? (i := 958) (by decide +kernel), List.mem_of_getElem? (i := 1162) (by decide +kernel), List.mem_of_getElem? (i := 1163) (by decide +kernel)⟩
theorem lw_p26 : lw_okq (⟨"HotWeekModel", "doLine", "(I)V"⟩, 48) := ⟨⟨by decide +kernel, by decide +kernel⟩, List.mem_of_getElem? (i := 958) (by decide +kernel), List.mem_of_getElem? (i := 1170) (by decide +kernel), List.mem_of_getElem? (i := 1171) (by decide +kernel)⟩
theorem lw_p27 : lw_okq (⟨"HotWeekModel", "doHours", "(III)V"⟩, 48) := ⟨⟨by decide +kernel, by decide +kernel⟩, List.mem_of_getElem? (i := 958) (by decide +kernel), List.mem_of_getElem? (i := 1174) (by decide +kernel), List.mem_of_getElem? (i := 1175) (by decide +kernel)⟩
theorem lw_p28 : lw_okq (⟨"HotWeekModel", "isRoom", "(I)Z"⟩, 48) := ⟨⟨by decide +kernel, by decide +kernel⟩, List.mem_of_getElem? (i := 958) (by decide +kernel), List.mem_of_getElem? (i := 1185) (by decide +kernel), List.mem_of_getElem? (i := 1186) (by decide +kernel)⟩
theorem lw_p29 : lw_okq (⟨"HotWeekModel", "outAt", "(I)I"⟩, 48) := ⟨⟨by decide +kernel, by decide +kernel⟩, List.mem_of_getElem? (i := 958) (by decide +kernel), List.mem_of_getElem? (i := 1200) (by decide +kernel), List.mem_of_getElem? (i := 1201) (by decide +kernel)⟩
theorem lw_p30 : lw_okq (⟨"HotWeekModel", "asTold", "()V"⟩, 48) := ⟨⟨by decide +kernel, by decide +kernel⟩, List.mem_of_getElem? (i := 958) (by decide +kernel), List.mem_of_getElem? (i := 1208) (by decide +kernel), List.mem_of_getElem? (i := 1209) (by decide +kernel)⟩
theorem lw_p31 : lw_okq (⟨"HotWeekModel", "goWeek", "()V"⟩, 48) := ⟨⟨by decide +kernel, by decide +kernel⟩, List.mem_of_getElem? (i := 958) (by decide +kernel), List.mem_of_getElem? (i := 1212) (by decide +kernel), List.mem_of_getElem? (i := 1213) (by decide +kernel)⟩
def lw_privs_2 : List (MethodName × Nat) := [(⟨"HotWeek$Street", "allHave", "(I)I"⟩, 8), (⟨"HotWeek$Street", "has", "(IZI)I"⟩, 8), (⟨"HotWeek$Street", "isRest", "(I)Z"⟩, 8), (⟨"HotWeek$Street", "keepRest", "(II)V"⟩, 8), (⟨"HotWeekModel", "isRead", "()Z"⟩, 48), (⟨"HotWeekModel", "isLine", "(I)Z"⟩, 48), (⟨"HotWeekModel", "nextToken", "()V"⟩, 48), (⟨"HotWeekModel", "isNumber", "(III)Z"⟩, 48), (⟨"HotWeekModel", "fails", "()Z"⟩, 48), (⟨"HotWeekModel", "isDoor", "(I)Z"⟩, 48), (⟨"HotWeekModel", "doLine", "(I)V"⟩, 48), (⟨"HotWeekModel", "doHours", "(III)V"⟩, 48), (⟨"HotWeekModel", "isRoom", "(I)Z"⟩, 48), (⟨"HotWeekModel", "outAt", "(I)I"⟩, 48), (⟨"HotWeekModel", "asTold", "()V"⟩, 48), (⟨"HotWeekModel", "goWeek", "()V"⟩, 48)]
theorem lw_r2 : ∀ q ∈ lw_privs_2, lw_okq q := List.forall_mem_cons.mpr ⟨lw_p16, List.forall_mem_cons.mpr ⟨lw_p17, List.forall_mem_cons.mpr ⟨lw_p18, List.forall_mem_cons.mpr ⟨lw_p19, List.forall_mem_cons.mpr ⟨lw_p20, List.forall_mem_cons.mpr ⟨lw_p21, List.forall_mem_cons.mpr ⟨lw_p22, List.forall_mem_cons.mpr ⟨lw_p23, List.forall_mem_cons.mpr ⟨lw_p24, List.forall_mem_cons.mpr ⟨lw_p25, List.forall_mem_cons.mpr ⟨lw_p26, List.forall_mem_cons.mpr ⟨lw_p27, List.forall_mem_cons.mpr ⟨lw_p28, List.forall_mem_cons.mpr ⟨lw_p29, List.forall_mem_cons.mpr ⟨lw_p30, List.forall_mem_cons.mpr ⟨lw_p31, fun _ h => absurd h List.not_mem_nil⟩⟩⟩⟩⟩⟩⟩⟩⟩⟩⟩⟩⟩⟩⟩⟩
theorem lw_p32 : lw_okq (⟨"HotWeekModel", "goHour", "(I)V"⟩, 48) := ⟨⟨by decide +kernel, by decide +kernel⟩, List.mem_of_getElem? (i := 958) (by decide +kernel), List.mem_of_getElem? (i := 1216) (by decide +kernel), List.mem_of_getElem? (i := 1217) (by decide +kernel)⟩
theorem lw_p33 : lw_okq (⟨"HotWeekModel", "sunAt", "(II)I"⟩, 48) := ⟨⟨by decide +kernel, by decide +kernel⟩, List.mem_of_getElem? (i := 958) (by decide +kernel), List.mem_of_getElem? (i := 1220) (by decide +kernel), List.mem_of_getElem? (i := 1221) (by decide +kernel)⟩
theorem lw_p34 : lw_okq (⟨"HotWeekModel", "isOpenAt", "(II)Z"⟩, 48) := ⟨⟨by decide +kernel, by decide +kernel⟩, List.mem_of_getElem? (i := 958) (by decide +kernel), List.mem_of_getElem? (i := 1224) (by decide +kernel), List.mem_of_getElem? (i := 1225) (by decide +kernel)⟩
theorem lw_p35 : lw_okq (⟨"HotWeekModel", "leaksOf", "(I)I"⟩, 48) := ⟨⟨by decide +kernel, by decide +kernel⟩, List.mem_of_getElem? (i := 958) (by decide +kernel), List.mem_of_getElem? (i := 1228) (by decide +kernel), List.mem_of_getElem? (i := 1229) (by decide +kernel)⟩
theorem lw_p36 : lw_okq (⟨"HotWeekModel", "nightOfAll", "()I"⟩, 48) := ⟨⟨by decide +kernel, by decide +kernel⟩, List.mem_of_getElem? (i := 958) (by decide +kernel), List.mem_of_getElem? (i := 1236) (by decide +kernel), List.mem_of_getElem? (i := 1237) (by decide +kernel)⟩
theorem lw_p37 : lw_okq (⟨"HotWeekModel", "nightOf", "(I)I"⟩, 48) := ⟨⟨by decide +kernel, by decide +kernel⟩, List.mem_of_getElem? (i := 958) (by decide +kernel), List.mem_of_getElem? (i := 1240) (by decide +kernel), List.mem_of_getElem? (i := 1241) (by decide +kernel)⟩
theorem lw_p38 : lw_okq (⟨"HotWeekModel", "nightByClock", "(II)I"⟩, 48) := ⟨⟨by decide +kernel, by decide +kernel⟩, List.mem_of_getElem? (i := 958) (by decide +kernel), List.mem_of_getElem? (i := 1257) (by decide +kernel), List.mem_of_getElem? (i := 1258) (by decide +kernel)⟩
theorem lw_p39 : lw_okq (⟨"HotWeekModel", "nightByGlass", "()I"⟩, 48) := ⟨⟨by decide +kernel, by decide +kernel⟩, List.mem_of_getElem? (i := 958) (by decide +kernel), List.mem_of_getElem? (i := 1261) (by decide +kernel), List.mem_of_getElem? (i := 1262) (by decide +kernel)⟩
theorem lw_p40 : lw_okq (⟨"HotWeekModel", "costOf", "(I)I"⟩, 48) := ⟨⟨by decide +kernel, by decide +kernel⟩, List.mem_of_getElem? (i := 958) (by decide +kernel), List.mem_of_getElem? (i := 1273) (by decide +kernel), List.mem_of_getElem? (i := 1274) (by decide +kernel)⟩
theorem lw_p41 : lw_okq (⟨"HotWeekModel", "doHold", "(I)Z"⟩, 48) := ⟨⟨by decide +kernel, by decide +kernel⟩, List.mem_of_getElem? (i := 958) (by decide +kernel), List.mem_of_getElem? (i := 1285) (by decide +kernel), List.mem_of_getElem? (i := 1286) (by decide +kernel)⟩
theorem lw_p42 : lw_okq (⟨"HotWeekModel", "toldFlats", "()I"⟩, 48) := ⟨⟨by decide +kernel, by decide +kernel⟩, List.mem_of_getElem? (i := 958) (by decide +kernel), List.mem_of_getElem? (i := 1297) (by decide +kernel), List.mem_of_getElem? (i := 1298) (by decide +kernel)⟩
theorem lw_p43 : lw_okq (⟨"HotWeekModel", "layRest", "(I)V"⟩, 48) := ⟨⟨by decide +kernel, by decide +kernel⟩, List.mem_of_getElem? (i := 958) (by decide +kernel), List.mem_of_getElem? (i := 1301) (by decide +kernel), List.mem_of_getElem? (i := 1302) (by decide +kernel)⟩
theorem lw_p44 : lw_okq (⟨"HotWeekModel", "lostBy", "(II)I"⟩, 48) := ⟨⟨by decide +kernel, by decide +kernel⟩, List.mem_of_getElem? (i := 958) (by decide +kernel), List.mem_of_getElem? (i := 1308) (by decide +kernel), List.mem_of_getElem? (i := 1309) (by decide +kernel)⟩
def lw_privs_3 : List (MethodName × Nat) := [(⟨"HotWeekModel", "goHour", "(I)V"⟩, 48), (⟨"HotWeekModel", "sunAt", "(II)I"⟩, 48), (⟨"HotWeekModel", "isOpenAt", "(II)Z"⟩, 48), (⟨"HotWeekModel", "leaksOf", "(I)I"⟩, 48), (⟨"HotWeekModel", "nightOfAll", "()I"⟩, 48), (⟨"HotWeekModel", "nightOf", "(I)I"⟩, 48), (⟨"HotWeekModel", "nightByClock", "(II)I"⟩, 48), (⟨"HotWeekModel", "nightByGlass", "()I"⟩, 48), (⟨"HotWeekModel", "costOf", "(I)I"⟩, 48), (⟨"HotWeekModel", "doHold", "(I)Z"⟩, 48), (⟨"HotWeekModel", "toldFlats", "()I"⟩, 48), (⟨"HotWeekModel", "layRest", "(I)V"⟩, 48), (⟨"HotWeekModel", "lostBy", "(II)I"⟩, 48)]
theorem lw_r3 : ∀ q ∈ lw_privs_3, lw_okq q := List.forall_mem_cons.mpr ⟨lw_p32, List.forall_mem_cons.mpr ⟨lw_p33, List.forall_mem_cons.mpr ⟨lw_p34, List.forall_mem_cons.mpr ⟨lw_p35, List.forall_mem_cons.mpr ⟨lw_p36, List.forall_mem_cons.mpr ⟨lw_p37, List.forall_mem_cons.mpr ⟨lw_p38, List.forall_mem_cons.mpr ⟨lw_p39, List.forall_mem_cons.mpr ⟨lw_p40, List.forall_mem_cons.mpr ⟨lw_p41, List.forall_mem_cons.mpr ⟨lw_p42, List.forall_mem_cons.mpr ⟨lw_p43, List.forall_mem_cons.mpr ⟨lw_p44, fun _ h => absurd h List.not_mem_nil⟩⟩⟩⟩⟩⟩⟩⟩⟩⟩⟩⟩⟩
def lw_privs : List (MethodName × Nat) := lw_privs_1 ++ (lw_privs_2 ++ (lw_privs_3))
def lw_tbl : List Cond := k2_sels lw_privs ++ tables_1
theorem lw_privs_ok : ∀ q ∈ lw_privs, lw_okq q := by
  show ∀ q ∈ lw_privs_1 ++ (lw_privs_2 ++ (lw_privs_3)), lw_okq q
  exact List.forall_mem_append.mpr ⟨lw_r1, List.forall_mem_append.mpr ⟨lw_r2, lw_r3⟩⟩
/-! ===== BEGIN words of one list among another's, by their places ===== -/
theorem goodIn_r {big : List Cond} (ws : List Cond) (ps : List Nat) (hp : ws = ps.filterMap (fun i => big[i]?)) (h : ws.all goodWord = true) : GoodIn big ws := by
  intro w hw
  have h1 := List.all_eq_true.mp h w hw
  rw [hp] at hw
  obtain ⟨i, -, hi⟩ := List.mem_filterMap.mp hw
  have hm : w ∈ big := by first | exact List.mem_of_getElem? hi | exact List.getElem?_mem hi
  exact ⟨hm, good_of_word h1⟩
theorem goodIn_app {big a b : List Cond} (ha : GoodIn big a) (hb : GoodIn big b) : GoodIn big (a ++ b) := fun w h => (List.mem_append.mp h).elim (ha w) (hb w)
theorem goodIn_ca {big a b : List Cond} {c : Cond} (ha : GoodIn big (c :: a)) (hb : GoodIn big b) : GoodIn big (c :: (a ++ b)) := fun w h => (List.mem_cons.mp h).elim (fun e => ha w (List.mem_cons.mpr (Or.inl e))) (fun h => (List.mem_append.mp h).elim (fun h => ha w (List.mem_cons.mpr (Or.inr h))) (hb w))
theorem goodIn_sub {big ws : List Cond} (hm : ∀ w ∈ ws, w ∈ big) (h : ws.all goodWord = true) : GoodIn big ws := fun w hw => ⟨hm w hw, good_of_word (List.all_eq_true.mp h w hw)⟩
def RX0 : String := "HotWeek$BestClock"
def TX0 : u_T := fun k => match k with
  | 0 => ("HotWeek$BestClock", "found", "Z", false)
  | 1 => ("HotWeek$BestClock", "from", "I", false)
  | 2 => ("HotWeek$BestClock", "to", "I", false)
  | 3 => ("HotWeek$BestClock", "nightOfAll", "I", false)
  | _ => ("HotWeek$BestClock", "nightByGlass", "I", false)
def tyX0 : Nat → FieldType := fun k => match k with
  | 0 => .boolean
  | 1 => .int
  | 2 => .int
  | 3 => .int
  | _ => .int
abbrev wsX00 : List Cond := u_ws RX0 TX0 5
theorem nmX0 : ∀ a, a < 5 → ∀ b, b < 5 → a ≠ b → (TX0 a).2.1 ≠ (TX0 b).2.1 := by decide +kernel
theorem tyX0_ok : ∀ k, k < 5 → parseFieldDescriptor (TX0 k).2.2.1 = some (tyX0 k) := by decide +kernel
abbrev cX0_init : ByteArray := prog_2_method_1_code
def yX0_init : MethodName := ⟨RX0, "<init>", "()V"⟩
abbrev cX0_forget : ByteArray := prog_2_method_2_code
def yX0_forget : MethodName := ⟨RX0, "forget", "()V"⟩
abbrev cX0_find : ByteArray := prog_2_method_3_code
def yX0_find : MethodName := ⟨RX0, "find", "(LHotWeek$House;LHotWeek$Plan;LHotWeek$Course;)V"⟩
abbrev cX0_keepBetter : ByteArray := prog_2_method_4_code
def yX0_keepBetter : MethodName := ⟨RX0, "keepBetter", "(III)V"⟩
abbrev cX0_from : ByteArray := prog_2_method_5_code
def yX0_from : MethodName := ⟨RX0, "from", "()I"⟩
abbrev cX0_to : ByteArray := prog_2_method_6_code
def yX0_to : MethodName := ⟨RX0, "to", "()I"⟩
abbrev cX0_nightOfAll : ByteArray := prog_2_method_7_code
def yX0_nightOfAll : MethodName := ⟨RX0, "nightOfAll", "()I"⟩
abbrev cX0_near : ByteArray := prog_2_method_8_code
def yX0_near : MethodName := ⟨RX0, "near", "()I"⟩
def RX1 : String := "HotWeek$Course"
def TX1 : u_T := fun k => match k with
  | 0 => ("HotWeek$Course", "air", "[[I", true)
  | 1 => ("HotWeek$Course", "wall", "[[I", true)
  | _ => ("HotWeek$Course", "open", "[[I", true)
def tyX1 : Nat → FieldType := fun k => match k with
  | 0 => .array (.array .int)
  | 1 => .array (.array .int)
  | _ => .array (.array .int)
abbrev wsX10 : List Cond := u_ws RX1 TX1 3
theorem nmX1 : ∀ a, a < 3 → ∀ b, b < 3 → a ≠ b → (TX1 a).2.1 ≠ (TX1 b).2.1 := by decide +kernel
theorem tyX1_ok : ∀ k, k < 3 → parseFieldDescriptor (TX1 k).2.2.1 = some (tyX1 k) := by decide +kernel
abbrev cX1_init : ByteArray := prog_3_method_1_code
def yX1_init : MethodName := ⟨RX1, "<init>", "()V"⟩
abbrev cX1_run : ByteArray := prog_3_method_2_code
def yX1_run : MethodName := ⟨RX1, "run", "(LHotWeek$House;LHotWeek$Plan;)V"⟩
abbrev cX1_goOn : ByteArray := prog_3_method_3_code
def yX1_goOn : MethodName := ⟨RX1, "goOn", "(IILHotWeek$House;LHotWeek$Plan;)V"⟩
abbrev cX1_throughDoors : ByteArray := prog_3_method_4_code
def yX1_throughDoors : MethodName := ⟨RX1, "throughDoors", "(IILHotWeek$House;)I"⟩
abbrev cX1_airBehind : ByteArray := prog_3_method_5_code
def yX1_airBehind : MethodName := ⟨RX1, "airBehind", "(II)I"⟩
abbrev cX1_wallBehind : ByteArray := prog_3_method_6_code
def yX1_wallBehind : MethodName := ⟨RX1, "wallBehind", "(II)I"⟩
abbrev cX1_openIn : ByteArray := prog_3_method_7_code
def yX1_openIn : MethodName := ⟨RX1, "openIn", "(II)I"⟩
abbrev cX1_nightOf : ByteArray := prog_3_method_8_code
def yX1_nightOf : MethodName := ⟨RX1, "nightOf", "(I)I"⟩
abbrev cX1_nightOfAll : ByteArray := prog_3_method_9_code
def yX1_nightOfAll : MethodName := ⟨RX1, "nightOfAll", "(LHotWeek$House;)I"⟩
abbrev cX1_longestAbove : ByteArray := prog_3_method_10_code
def yX1_longestAbove : MethodName := ⟨RX1, "longestAbove", "(II)I"⟩
def RX2 : String := "HotWeek$Glasses"
def TX2 : u_T := fun k => match k with
  | 0 => ("HotWeek$Glasses", "room", "[I", true)
  | 1 => ("HotWeek$Glasses", "hour", "[I", true)
  | 2 => ("HotWeek$Glasses", "air", "[I", true)
  | 3 => ("HotWeek$Glasses", "size", "I", false)
  | 4 => ("HotWeek$Glasses", "laws", "I", false)
  | 5 => ("HotWeek$Glasses", "leastGives", "I", false)
  | 6 => ("HotWeek$Glasses", "mostGives", "I", false)
  | 7 => ("HotWeek$Glasses", "leastTakes", "I", false)
  | _ => ("HotWeek$Glasses", "mostTakes", "I", false)
def tyX2 : Nat → FieldType := fun k => match k with
  | 0 => .array .int
  | 1 => .array .int
  | 2 => .array .int
  | 3 => .int
  | 4 => .int
  | 5 => .int
  | 6 => .int
  | 7 => .int
  | _ => .int
abbrev wsX20 : List Cond := u_ws RX2 TX2 9
theorem nmX2 : ∀ a, a < 9 → ∀ b, b < 9 → a ≠ b → (TX2 a).2.1 ≠ (TX2 b).2.1 := by decide +kernel
theorem tyX2_ok : ∀ k, k < 9 → parseFieldDescriptor (TX2 k).2.2.1 = some (tyX2 k) := by decide +kernel
abbrev cX2_init : ByteArray := prog_4_method_1_code
def yX2_init : MethodName := ⟨RX2, "<init>", "()V"⟩
abbrev cX2_size : ByteArray := prog_4_method_2_code
def yX2_size : MethodName := ⟨RX2, "size", "()I"⟩
abbrev cX2_isFull : ByteArray := prog_4_method_3_code
def yX2_isFull : MethodName := ⟨RX2, "isFull", "()Z"⟩
abbrev cX2_add : ByteArray := prog_4_method_4_code
def yX2_add : MethodName := ⟨RX2, "add", "(III)I"⟩
abbrev cX2_learn : ByteArray := prog_4_method_5_code
def yX2_learn : MethodName := ⟨RX2, "learn", "(ILHotWeek$House;LHotWeek$Plan;LHotWeek$Course;)V"⟩
abbrev cX2_allHold : ByteArray := prog_4_method_6_code
def yX2_allHold : MethodName := ⟨RX2, "allHold", "(ILHotWeek$House;LHotWeek$Course;)Z"⟩
abbrev cX2_keep : ByteArray := prog_4_method_7_code
def yX2_keep : MethodName := ⟨RX2, "keep", "(II)V"⟩
abbrev cX2_laws : ByteArray := prog_4_method_8_code
def yX2_laws : MethodName := ⟨RX2, "laws", "()I"⟩
abbrev cX2_bound : ByteArray := prog_4_method_9_code
def yX2_bound : MethodName := ⟨RX2, "bound", "(I)I"⟩
def RX3 : String := "HotWeek$House"
def TX3 : u_T := fun k => match k with
  | 0 => ("HotWeek$House", "told", "[Z", true)
  | 1 => ("HotWeek$House", "firstAir", "[I", true)
  | 2 => ("HotWeek$House", "firstWall", "[I", true)
  | 3 => ("HotWeek$House", "side", "[I", true)
  | 4 => ("HotWeek$House", "folk", "[I", true)
  | 5 => ("HotWeek$House", "habit", "[I", true)
  | 6 => ("HotWeek$House", "openHours", "[I", true)
  | 7 => ("HotWeek$House", "shutHours", "[I", true)
  | 8 => ("HotWeek$House", "passes", "[[I", true)
  | 9 => ("HotWeek$House", "homeHours", "I", false)
  | 10 => ("HotWeek$House", "cool", "I", false)
  | 11 => ("HotWeek$House", "hot", "I", false)
  | 12 => ("HotWeek$House", "warmer", "I", false)
  | 13 => ("HotWeek$House", "sun", "I", false)
  | 14 => ("HotWeek$House", "takes", "I", false)
  | 15 => ("HotWeek$House", "gives", "I", false)
  | 16 => ("HotWeek$House", "leaks", "I", false)
  | _ => ("HotWeek$House", "window", "I", false)
def tyX3 : Nat → FieldType := fun k => match k with
  | 0 => .array .boolean
  | 1 => .array .int
  | 2 => .array .int
  | 3 => .array .int
  | 4 => .array .int
  | 5 => .array .int
  | 6 => .array .int
  | 7 => .array .int
  | 8 => .array (.array .int)
  | 9 => .int
  | 10 => .int
  | 11 => .int
  | 12 => .int
  | 13 => .int
  | 14 => .int
  | 15 => .int
  | 16 => .int
  | _ => .int
abbrev wsX30 : List Cond := u_ws RX3 TX3 18
theorem nmX3 : ∀ a, a < 18 → ∀ b, b < 18 → a ≠ b → (TX3 a).2.1 ≠ (TX3 b).2.1 := by decide +kernel
theorem tyX3_ok : ∀ k, k < 18 → parseFieldDescriptor (TX3 k).2.2.1 = some (tyX3 k) := by decide +kernel
abbrev cX3_init : ByteArray := prog_5_method_1_code
def yX3_init : MethodName := ⟨RX3, "<init>", "()V"⟩
abbrev cX3_wordOf : ByteArray := prog_5_method_2_code
def yX3_wordOf : MethodName := ⟨RX3, "wordOf", "(I)Ljava/lang/String;"⟩
abbrev cX3_tell : ByteArray := prog_5_method_3_code
def yX3_tell : MethodName := ⟨RX3, "tell", "(I[I)V"⟩
abbrev cX3_tellRoom : ByteArray := prog_5_method_4_code
def yX3_tellRoom : MethodName := ⟨RX3, "tellRoom", "([I)V"⟩
abbrev cX3_isTold : ByteArray := prog_5_method_5_code
def yX3_isTold : MethodName := ⟨RX3, "isTold", "(I)Z"⟩
abbrev cX3_toldRooms : ByteArray := prog_5_method_6_code
def yX3_toldRooms : MethodName := ⟨RX3, "toldRooms", "()I"⟩
abbrev cX3_firstAir : ByteArray := prog_5_method_7_code
def yX3_firstAir : MethodName := ⟨RX3, "firstAir", "(I)I"⟩
abbrev cX3_firstWall : ByteArray := prog_5_method_8_code
def yX3_firstWall : MethodName := ⟨RX3, "firstWall", "(I)I"⟩
abbrev cX3_side : ByteArray := prog_5_method_9_code
def yX3_side : MethodName := ⟨RX3, "side", "(I)I"⟩
abbrev cX3_folk : ByteArray := prog_5_method_10_code
def yX3_folk : MethodName := ⟨RX3, "folk", "(I)I"⟩
abbrev cX3_habit : ByteArray := prog_5_method_11_code
def yX3_habit : MethodName := ⟨RX3, "habit", "(I)I"⟩
abbrev cX3_openHours : ByteArray := prog_5_method_12_code
def yX3_openHours : MethodName := ⟨RX3, "openHours", "(I)I"⟩
abbrev cX3_shutHours : ByteArray := prog_5_method_13_code
def yX3_shutHours : MethodName := ⟨RX3, "shutHours", "(I)I"⟩
abbrev cX3_passes : ByteArray := prog_5_method_14_code
def yX3_passes : MethodName := ⟨RX3, "passes", "(II)I"⟩
abbrev cX3_homeHours : ByteArray := prog_5_method_15_code
def yX3_homeHours : MethodName := ⟨RX3, "homeHours", "()I"⟩
abbrev cX3_takes : ByteArray := prog_5_method_16_code
def yX3_takes : MethodName := ⟨RX3, "takes", "()I"⟩
abbrev cX3_gives : ByteArray := prog_5_method_17_code
def yX3_gives : MethodName := ⟨RX3, "gives", "()I"⟩
abbrev cX3_leaks : ByteArray := prog_5_method_18_code
def yX3_leaks : MethodName := ⟨RX3, "leaks", "()I"⟩
abbrev cX3_window : ByteArray := prog_5_method_19_code
def yX3_window : MethodName := ⟨RX3, "window", "()I"⟩
abbrev cX3_skyAt : ByteArray := prog_5_method_20_code
def yX3_skyAt : MethodName := ⟨RX3, "skyAt", "(I)I"⟩
abbrev cX3_sunIn : ByteArray := prog_5_method_21_code
def yX3_sunIn : MethodName := ⟨RX3, "sunIn", "(II)I"⟩
abbrev cX3_shinesOn : ByteArray := prog_5_method_22_code
def yX3_shinesOn : MethodName := ⟨RX3, "shinesOn", "(II)Z"⟩
def RX4 : String := "HotWeek$Plan"
def TX4 : u_T := fun k => match k with
  | 0 => ("HotWeek$Plan", "habit", "[I", true)
  | 1 => ("HotWeek$Plan", "openHours", "[I", true)
  | 2 => ("HotWeek$Plan", "leaks", "[I", true)
  | 3 => ("HotWeek$Plan", "sun", "[[I", true)
  | 4 => ("HotWeek$Plan", "sky", "[I", true)
  | 5 => ("HotWeek$Plan", "takes", "I", false)
  | _ => ("HotWeek$Plan", "gives", "I", false)
def tyX4 : Nat → FieldType := fun k => match k with
  | 0 => .array .int
  | 1 => .array .int
  | 2 => .array .int
  | 3 => .array (.array .int)
  | 4 => .array .int
  | 5 => .int
  | _ => .int
abbrev wsX40 : List Cond := u_ws RX4 TX4 7
theorem nmX4 : ∀ a, a < 7 → ∀ b, b < 7 → a ≠ b → (TX4 a).2.1 ≠ (TX4 b).2.1 := by decide +kernel
theorem tyX4_ok : ∀ k, k < 7 → parseFieldDescriptor (TX4 k).2.2.1 = some (tyX4 k) := by decide +kernel
abbrev cX4_init : ByteArray := prog_6_method_1_code
def yX4_init : MethodName := ⟨RX4, "<init>", "()V"⟩
abbrev cX4_takeFrom : ByteArray := prog_6_method_2_code
def yX4_takeFrom : MethodName := ⟨RX4, "takeFrom", "(LHotWeek$House;)V"⟩
abbrev cX4_takeWorksOff : ByteArray := prog_6_method_3_code
def yX4_takeWorksOff : MethodName := ⟨RX4, "takeWorksOff", "(ILHotWeek$House;)V"⟩
abbrev cX4_takeAllWorksOff : ByteArray := prog_6_method_4_code
def yX4_takeAllWorksOff : MethodName := ⟨RX4, "takeAllWorksOff", "(LHotWeek$House;)V"⟩
abbrev cX4_putWork : ByteArray := prog_6_method_5_code
def yX4_putWork : MethodName := ⟨RX4, "putWork", "(III)V"⟩
abbrev cX4_putHabit : ByteArray := prog_6_method_6_code
def yX4_putHabit : MethodName := ⟨RX4, "putHabit", "(II)V"⟩
abbrev cX4_putAllByGlass : ByteArray := prog_6_method_7_code
def yX4_putAllByGlass : MethodName := ⟨RX4, "putAllByGlass", "()V"⟩
abbrev cX4_putAllByClock : ByteArray := prog_6_method_8_code
def yX4_putAllByClock : MethodName := ⟨RX4, "putAllByClock", "(I)V"⟩
abbrev cX4_putLaw : ByteArray := prog_6_method_9_code
def yX4_putLaw : MethodName := ⟨RX4, "putLaw", "(II)V"⟩
abbrev cX4_skyAt : ByteArray := prog_6_method_10_code
def yX4_skyAt : MethodName := ⟨RX4, "skyAt", "(I)I"⟩
abbrev cX4_sunIn : ByteArray := prog_6_method_11_code
def yX4_sunIn : MethodName := ⟨RX4, "sunIn", "(II)I"⟩
abbrev cX4_leaks : ByteArray := prog_6_method_12_code
def yX4_leaks : MethodName := ⟨RX4, "leaks", "(I)I"⟩
abbrev cX4_takes : ByteArray := prog_6_method_13_code
def yX4_takes : MethodName := ⟨RX4, "takes", "()I"⟩
abbrev cX4_gives : ByteArray := prog_6_method_14_code
def yX4_gives : MethodName := ⟨RX4, "gives", "()I"⟩
abbrev cX4_wouldOpen : ByteArray := prog_6_method_15_code
def yX4_wouldOpen : MethodName := ⟨RX4, "wouldOpen", "(III)Z"⟩
def RX5 : String := "HotWeek$Reader"
def TX5 : u_T := fun k => match k with
  | 0 => ("HotWeek$Reader", "kinds", "[I", true)
  | 1 => ("HotWeek$Reader", "numbers", "[[I", true)
  | 2 => ("HotWeek$Reader", "lines", "I", false)
  | _ => ("HotWeek$Reader", "place", "I", false)
def tyX5 : Nat → FieldType := fun k => match k with
  | 0 => .array .int
  | 1 => .array (.array .int)
  | 2 => .int
  | _ => .int
abbrev wsX50 : List Cond := u_ws RX5 TX5 4
theorem nmX5 : ∀ a, a < 4 → ∀ b, b < 4 → a ≠ b → (TX5 a).2.1 ≠ (TX5 b).2.1 := by decide +kernel
theorem tyX5_ok : ∀ k, k < 4 → parseFieldDescriptor (TX5 k).2.2.1 = some (tyX5 k) := by decide +kernel
abbrev cX5_init : ByteArray := prog_7_method_1_code
def yX5_init : MethodName := ⟨RX5, "<init>", "()V"⟩
abbrev cX5_lines : ByteArray := prog_7_method_2_code
def yX5_lines : MethodName := ⟨RX5, "lines", "()I"⟩
abbrev cX5_kindOf : ByteArray := prog_7_method_3_code
def yX5_kindOf : MethodName := ⟨RX5, "kindOf", "(I)I"⟩
abbrev cX5_numbersOf : ByteArray := prog_7_method_4_code
def yX5_numbersOf : MethodName := ⟨RX5, "numbersOf", "(I)[I"⟩
abbrev cX5_faultOf : ByteArray := prog_7_method_5_code
def yX5_faultOf : MethodName := ⟨RX5, "faultOf", "(LHotWeek$Text;)I"⟩
abbrev cX5_readsWord : ByteArray := prog_7_method_6_code
def yX5_readsWord : MethodName := ⟨RX5, "readsWord", "(LHotWeek$Text;I)Z"⟩
abbrev cX5_readsNumbers : ByteArray := prog_7_method_7_code
def yX5_readsNumbers : MethodName := ⟨RX5, "readsNumbers", "(LHotWeek$Text;I)Z"⟩
abbrev cX5_isDoorToItself : ByteArray := prog_7_method_8_code
def yX5_isDoorToItself : MethodName := ⟨RX5, "isDoorToItself", "(III)Z"⟩
def RX6 : String := "HotWeek$Rings"
def TX6 : u_T := fun k => match k with
  | 0 => ("HotWeek$Rings", "weight", "[I", true)
  | 1 => ("HotWeek$Rings", "due", "[I", true)
  | _ => ("HotWeek$Rings", "leastLost", "[I", true)
def tyX6 : Nat → FieldType := fun k => match k with
  | 0 => .array .int
  | 1 => .array .int
  | _ => .array .int
abbrev wsX60 : List Cond := u_ws RX6 TX6 3
theorem nmX6 : ∀ a, a < 3 → ∀ b, b < 3 → a ≠ b → (TX6 a).2.1 ≠ (TX6 b).2.1 := by decide +kernel
theorem tyX6_ok : ∀ k, k < 3 → parseFieldDescriptor (TX6 k).2.2.1 = some (tyX6 k) := by decide +kernel
abbrev cX6_init : ByteArray := prog_8_method_1_code
def yX6_init : MethodName := ⟨RX6, "<init>", "()V"⟩
abbrev cX6_tell : ByteArray := prog_8_method_2_code
def yX6_tell : MethodName := ⟨RX6, "tell", "(III)V"⟩
abbrev cX6_toldSet : ByteArray := prog_8_method_3_code
def yX6_toldSet : MethodName := ⟨RX6, "toldSet", "()I"⟩
abbrev cX6_toldFlats : ByteArray := prog_8_method_4_code
def yX6_toldFlats : MethodName := ⟨RX6, "toldFlats", "()I"⟩
abbrev cX6_weigh : ByteArray := prog_8_method_5_code
def yX6_weigh : MethodName := ⟨RX6, "weigh", "()V"⟩
abbrev cX6_lost : ByteArray := prog_8_method_6_code
def yX6_lost : MethodName := ⟨RX6, "lost", "()I"⟩
abbrev cX6_flatAt : ByteArray := prog_8_method_7_code
def yX6_flatAt : MethodName := ⟨RX6, "flatAt", "(I)I"⟩
abbrev cX6_firstOf : ByteArray := prog_8_method_8_code
def yX6_firstOf : MethodName := ⟨RX6, "firstOf", "(II)I"⟩
abbrev cX6_lostBy : ByteArray := prog_8_method_9_code
def yX6_lostBy : MethodName := ⟨RX6, "lostBy", "(III)I"⟩
def RX7 : String := "HotWeek$Street"
def TX7 : u_T := fun k => match k with
  | 0 => ("HotWeek$Street", "houses", "I", false)
  | 1 => ("HotWeek$Street", "better", "I", false)
  | 2 => ("HotWeek$Street", "worse", "I", false)
  | 3 => ("HotWeek$Street", "price", "I", false)
  | 4 => ("HotWeek$Street", "rests", "I", false)
  | 5 => ("HotWeek$Street", "bestRest", "I", false)
  | 6 => ("HotWeek$Street", "mostByRest", "I", false)
  | _ => ("HotWeek$Street", "mostByAny", "I", false)
def tyX7 : Nat → FieldType := fun k => match k with
  | 0 => .int
  | 1 => .int
  | 2 => .int
  | 3 => .int
  | 4 => .int
  | 5 => .int
  | 6 => .int
  | _ => .int
abbrev wsX70 : List Cond := u_ws RX7 TX7 8
theorem nmX7 : ∀ a, a < 8 → ∀ b, b < 8 → a ≠ b → (TX7 a).2.1 ≠ (TX7 b).2.1 := by decide +kernel
theorem tyX7_ok : ∀ k, k < 8 → parseFieldDescriptor (TX7 k).2.2.1 = some (tyX7 k) := by decide +kernel
abbrev cX7_init : ByteArray := prog_9_method_1_code
def yX7_init : MethodName := ⟨RX7, "<init>", "()V"⟩
abbrev cX7_look : ByteArray := prog_9_method_2_code
def yX7_look : MethodName := ⟨RX7, "look", "(IIII)V"⟩
abbrev cX7_keepRest : ByteArray := prog_9_method_3_code
def yX7_keepRest : MethodName := ⟨RX7, "keepRest", "(II)V"⟩
abbrev cX7_allHave : ByteArray := prog_9_method_4_code
def yX7_allHave : MethodName := ⟨RX7, "allHave", "(I)I"⟩
abbrev cX7_isRest : ByteArray := prog_9_method_5_code
def yX7_isRest : MethodName := ⟨RX7, "isRest", "(I)Z"⟩
abbrev cX7_has : ByteArray := prog_9_method_6_code
def yX7_has : MethodName := ⟨RX7, "has", "(IZI)I"⟩
abbrev cX7_rests : ByteArray := prog_9_method_7_code
def yX7_rests : MethodName := ⟨RX7, "rests", "()I"⟩
abbrev cX7_bestRest : ByteArray := prog_9_method_8_code
def yX7_bestRest : MethodName := ⟨RX7, "bestRest", "()I"⟩
abbrev cX7_mostByRest : ByteArray := prog_9_method_9_code
def yX7_mostByRest : MethodName := ⟨RX7, "mostByRest", "()I"⟩
abbrev cX7_mostByAny : ByteArray := prog_9_method_10_code
def yX7_mostByAny : MethodName := ⟨RX7, "mostByAny", "()I"⟩
def RX8 : String := "HotWeek$Text"
def TX8 : u_T := fun k => match k with
  | 0 => ("HotWeek$Text", "bytes", "[I", true)
  | _ => ("HotWeek$Text", "length", "I", false)
def tyX8 : Nat → FieldType := fun k => match k with
  | 0 => .array .int
  | _ => .int
abbrev wsX80 : List Cond := u_ws RX8 TX8 2
theorem nmX8 : ∀ a, a < 2 → ∀ b, b < 2 → a ≠ b → (TX8 a).2.1 ≠ (TX8 b).2.1 := by decide +kernel
theorem tyX8_ok : ∀ k, k < 2 → parseFieldDescriptor (TX8 k).2.2.1 = some (tyX8 k) := by decide +kernel
abbrev cX8_init : ByteArray := prog_10_method_1_code
def yX8_init : MethodName := ⟨RX8, "<init>", "()V"⟩
abbrev cX8_length : ByteArray := prog_10_method_2_code
def yX8_length : MethodName := ⟨RX8, "length", "()I"⟩
abbrev cX8_hasSpaceFor : ByteArray := prog_10_method_3_code
def yX8_hasSpaceFor : MethodName := ⟨RX8, "hasSpaceFor", "(I)Z"⟩
abbrev cX8_add : ByteArray := prog_10_method_4_code
def yX8_add : MethodName := ⟨RX8, "add", "(I)V"⟩
abbrev cX8_clear : ByteArray := prog_10_method_5_code
def yX8_clear : MethodName := ⟨RX8, "clear", "()V"⟩
abbrev cX8_at : ByteArray := prog_10_method_6_code
def yX8_at : MethodName := ⟨RX8, "at", "(I)I"⟩
abbrev cX8_behindBlanks : ByteArray := prog_10_method_7_code
def yX8_behindBlanks : MethodName := ⟨RX8, "behindBlanks", "(I)I"⟩
abbrev cX8_endOfToken : ByteArray := prog_10_method_8_code
def yX8_endOfToken : MethodName := ⟨RX8, "endOfToken", "(I)I"⟩
abbrev cX8_spells : ByteArray := prog_10_method_9_code
def yX8_spells : MethodName := ⟨RX8, "spells", "(IILjava/lang/String;)Z"⟩
abbrev cX8_numberIn : ByteArray := prog_10_method_10_code
def yX8_numberIn : MethodName := ⟨RX8, "numberIn", "(II)I"⟩
abbrev cX8_isLetter : ByteArray := prog_10_method_11_code
def yX8_isLetter : MethodName := ⟨RX8, "isLetter", "(I)Z"⟩
abbrev cX8_isDigit : ByteArray := prog_10_method_12_code
def yX8_isDigit : MethodName := ⟨RX8, "isDigit", "(I)Z"⟩
def RX9 : String := "HotWeek$Works"
def TX9 : u_T := fun k => match k with
  | 0 => ("HotWeek$Works", "room", "[I", true)
  | 1 => ("HotWeek$Works", "cost", "[I", true)
  | 2 => ("HotWeek$Works", "sun", "[I", true)
  | 3 => ("HotWeek$Works", "leak", "[I", true)
  | 4 => ("HotWeek$Works", "size", "I", false)
  | 5 => ("HotWeek$Works", "bestSet", "I", false)
  | _ => ("HotWeek$Works", "bestNight", "I", false)
def tyX9 : Nat → FieldType := fun k => match k with
  | 0 => .array .int
  | 1 => .array .int
  | 2 => .array .int
  | 3 => .array .int
  | 4 => .int
  | 5 => .int
  | _ => .int
abbrev wsX90 : List Cond := u_ws RX9 TX9 7
theorem nmX9 : ∀ a, a < 7 → ∀ b, b < 7 → a ≠ b → (TX9 a).2.1 ≠ (TX9 b).2.1 := by decide +kernel
theorem tyX9_ok : ∀ k, k < 7 → parseFieldDescriptor (TX9 k).2.2.1 = some (tyX9 k) := by decide +kernel
abbrev cX9_init : ByteArray := prog_11_method_1_code
def yX9_init : MethodName := ⟨RX9, "<init>", "()V"⟩
abbrev cX9_size : ByteArray := prog_11_method_2_code
def yX9_size : MethodName := ⟨RX9, "size", "()I"⟩
abbrev cX9_isFull : ByteArray := prog_11_method_3_code
def yX9_isFull : MethodName := ⟨RX9, "isFull", "()Z"⟩
abbrev cX9_add : ByteArray := prog_11_method_4_code
def yX9_add : MethodName := ⟨RX9, "add", "(IIII)I"⟩
abbrev cX9_findFor : ByteArray := prog_11_method_5_code
def yX9_findFor : MethodName := ⟨RX9, "findFor", "(ILHotWeek$House;LHotWeek$Plan;LHotWeek$Course;)V"⟩
abbrev cX9_costOf : ByteArray := prog_11_method_6_code
def yX9_costOf : MethodName := ⟨RX9, "costOf", "(I)I"⟩
abbrev cX9_put : ByteArray := prog_11_method_7_code
def yX9_put : MethodName := ⟨RX9, "put", "(ILHotWeek$Plan;)V"⟩
abbrev cX9_bestSet : ByteArray := prog_11_method_8_code
def yX9_bestSet : MethodName := ⟨RX9, "bestSet", "()I"⟩
abbrev cX9_bestNight : ByteArray := prog_11_method_9_code
def yX9_bestNight : MethodName := ⟨RX9, "bestNight", "()I"⟩
def RX10 : String := "HotWeek"
def TX10 : u_T := fun k => match k with
  | 0 => ("HotWeek", "text", "LHotWeek$Text;", true)
  | 1 => ("HotWeek", "reader", "LHotWeek$Reader;", true)
  | 2 => ("HotWeek", "house", "LHotWeek$House;", true)
  | 3 => ("HotWeek", "plan", "LHotWeek$Plan;", true)
  | 4 => ("HotWeek", "told", "LHotWeek$Course;", true)
  | 5 => ("HotWeek", "tried", "LHotWeek$Course;", true)
  | 6 => ("HotWeek", "bestClock", "LHotWeek$BestClock;", true)
  | 7 => ("HotWeek", "works", "LHotWeek$Works;", true)
  | 8 => ("HotWeek", "glasses", "LHotWeek$Glasses;", true)
  | 9 => ("HotWeek", "rings", "LHotWeek$Rings;", true)
  | 10 => ("HotWeek", "street", "LHotWeek$Street;", true)
  | _ => ("HotWeek", "toldStands", "Z", false)
def tyX10 : Nat → FieldType := fun k => match k with
  | 0 => .object "HotWeek$Text"
  | 1 => .object "HotWeek$Reader"
  | 2 => .object "HotWeek$House"
  | 3 => .object "HotWeek$Plan"
  | 4 => .object "HotWeek$Course"
  | 5 => .object "HotWeek$Course"
  | 6 => .object "HotWeek$BestClock"
  | 7 => .object "HotWeek$Works"
  | 8 => .object "HotWeek$Glasses"
  | 9 => .object "HotWeek$Rings"
  | 10 => .object "HotWeek$Street"
  | _ => .boolean
abbrev wsX100 : List Cond := u_ws RX10 TX10 12
theorem nmX10 : ∀ a, a < 12 → ∀ b, b < 12 → a ≠ b → (TX10 a).2.1 ≠ (TX10 b).2.1 := by decide +kernel
theorem tyX10_ok : ∀ k, k < 12 → parseFieldDescriptor (TX10 k).2.2.1 = some (tyX10 k) := by decide +kernel
abbrev cX10_init : ByteArray := prog_1_method_1_code
def yX10_init : MethodName := ⟨RX10, "<init>", "()V"⟩
abbrev cX10_write : ByteArray := prog_1_method_2_code
def yX10_write : MethodName := ⟨RX10, "write", "(JI)I"⟩
abbrev cX10_erase : ByteArray := prog_1_method_3_code
def yX10_erase : MethodName := ⟨RX10, "erase", "()I"⟩
abbrev cX10_fault : ByteArray := prog_1_method_4_code
def yX10_fault : MethodName := ⟨RX10, "fault", "()I"⟩
abbrev cX10_week : ByteArray := prog_1_method_5_code
def yX10_week : MethodName := ⟨RX10, "week", "()I"⟩
abbrev cX10_room : ByteArray := prog_1_method_6_code
def yX10_room : MethodName := ⟨RX10, "room", "(II)I"⟩
abbrev cX10_door : ByteArray := prog_1_method_7_code
def yX10_door : MethodName := ⟨RX10, "door", "(II)I"⟩
abbrev cX10_out : ByteArray := prog_1_method_8_code
def yX10_out : MethodName := ⟨RX10, "out", "(I)I"⟩
abbrev cX10_warm : ByteArray := prog_1_method_9_code
def yX10_warm : MethodName := ⟨RX10, "warm", "(III)I"⟩
abbrev cX10_night : ByteArray := prog_1_method_10_code
def yX10_night : MethodName := ⟨RX10, "night", "(I)I"⟩
abbrev cX10_above : ByteArray := prog_1_method_11_code
def yX10_above : MethodName := ⟨RX10, "above", "(II)I"⟩
abbrev cX10_costs : ByteArray := prog_1_method_12_code
def yX10_costs : MethodName := ⟨RX10, "costs", "(I)I"⟩
abbrev cX10_clock : ByteArray := prog_1_method_13_code
def yX10_clock : MethodName := ⟨RX10, "clock", "(I)I"⟩
abbrev cX10_work : ByteArray := prog_1_method_14_code
def yX10_work : MethodName := ⟨RX10, "work", "(IIII)I"⟩
abbrev cX10_works : ByteArray := prog_1_method_15_code
def yX10_works : MethodName := ⟨RX10, "works", "(II)I"⟩
abbrev cX10_read : ByteArray := prog_1_method_16_code
def yX10_read : MethodName := ⟨RX10, "read", "(III)I"⟩
abbrev cX10_learnt : ByteArray := prog_1_method_17_code
def yX10_learnt : MethodName := ⟨RX10, "learnt", "(II)I"⟩
abbrev cX10_flat : ByteArray := prog_1_method_18_code
def yX10_flat : MethodName := ⟨RX10, "flat", "(III)I"⟩
abbrev cX10_ring : ByteArray := prog_1_method_19_code
def yX10_ring : MethodName := ⟨RX10, "ring", "(I)I"⟩
abbrev cX10_street : ByteArray := prog_1_method_20_code
def yX10_street : MethodName := ⟨RX10, "street", "(IIIII)I"⟩
abbrev cX10_count : ByteArray := prog_1_method_21_code
def yX10_count : MethodName := ⟨RX10, "count", "(I)I"⟩
abbrev cX10_courseAsTold : ByteArray := prog_1_method_22_code
def yX10_courseAsTold : MethodName := ⟨RX10, "courseAsTold", "()LHotWeek$Course;"⟩
abbrev cX10_isWithin : ByteArray := prog_1_method_23_code
def yX10_isWithin : MethodName := ⟨RX10, "isWithin", "(III)Z"⟩
abbrev cX10_isRoom : ByteArray := prog_1_method_24_code
def yX10_isRoom : MethodName := ⟨RX10, "isRoom", "(I)Z"⟩
abbrev cX10_isHour : ByteArray := prog_1_method_25_code
def yX10_isHour : MethodName := ⟨RX10, "isHour", "(I)Z"⟩
abbrev cX10_hasBit : ByteArray := prog_1_method_26_code
def yX10_hasBit : MethodName := ⟨RX10, "hasBit", "(II)Z"⟩
abbrev cX10_hoursFrom : ByteArray := prog_1_method_27_code
def yX10_hoursFrom : MethodName := ⟨RX10, "hoursFrom", "(II)I"⟩
def RX11 : String := "HotWeekModel"
def TX11 : u_T := fun k => match k with
  | 0 => ("HotWeekModel", "told", "I", false)
  | 1 => ("HotWeekModel", "room", "[I", true)
  | 2 => ("HotWeekModel", "habit", "[I", true)
  | 3 => ("HotWeekModel", "open", "[I", true)
  | 4 => ("HotWeekModel", "shut", "[I", true)
  | 5 => ("HotWeekModel", "door", "[I", true)
  | 6 => ("HotWeekModel", "cool", "I", false)
  | 7 => ("HotWeekModel", "hot", "I", false)
  | 8 => ("HotWeekModel", "more", "I", false)
  | 9 => ("HotWeekModel", "sun", "I", false)
  | 10 => ("HotWeekModel", "takes", "I", false)
  | 11 => ("HotWeekModel", "gives", "I", false)
  | 12 => ("HotWeekModel", "leaks", "I", false)
  | 13 => ("HotWeekModel", "window", "I", false)
  | 14 => ("HotWeekModel", "home", "I", false)
  | 15 => ("HotWeekModel", "bytes", "I", false)
  | 16 => ("HotWeekModel", "text", "[I", true)
  | 17 => ("HotWeekModel", "position", "I", false)
  | 18 => ("HotWeekModel", "tokenAt", "I", false)
  | 19 => ("HotWeekModel", "token", "J", false)
  | 20 => ("HotWeekModel", "digits", "I", false)
  | 21 => ("HotWeekModel", "number", "I", false)
  | 22 => ("HotWeekModel", "faultAt", "I", false)
  | 23 => ("HotWeekModel", "readMany", "I", false)
  | 24 => ("HotWeekModel", "read", "[I", true)
  | 25 => ("HotWeekModel", "air", "[I", true)
  | 26 => ("HotWeekModel", "wall", "[I", true)
  | 27 => ("HotWeekModel", "isOpen", "[I", true)
  | 28 => ("HotWeekModel", "airNow", "[I", true)
  | 29 => ("HotWeekModel", "wallNow", "[I", true)
  | 30 => ("HotWeekModel", "airThen", "[I", true)
  | 31 => ("HotWeekModel", "wallThen", "[I", true)
  | 32 => ("HotWeekModel", "worksNow", "I", false)
  | 33 => ("HotWeekModel", "habitNow", "[I", true)
  | 34 => ("HotWeekModel", "openNow", "[I", true)
  | 35 => ("HotWeekModel", "works", "I", false)
  | 36 => ("HotWeekModel", "workRoom", "[I", true)
  | 37 => ("HotWeekModel", "workCost", "[I", true)
  | 38 => ("HotWeekModel", "workSun", "[I", true)
  | 39 => ("HotWeekModel", "workLeak", "[I", true)
  | 40 => ("HotWeekModel", "rows", "I", false)
  | 41 => ("HotWeekModel", "rowRoom", "[I", true)
  | 42 => ("HotWeekModel", "rowHour", "[I", true)
  | 43 => ("HotWeekModel", "rowAir", "[I", true)
  | 44 => ("HotWeekModel", "weight", "[I", true)
  | 45 => ("HotWeekModel", "due", "[I", true)
  | 46 => ("HotWeekModel", "rest", "[I", true)
  | _ => ("HotWeekModel", "learnt", "[I", true)
def tyX11 : Nat → FieldType := fun k => match k with
  | 0 => .int
  | 1 => .array .int
  | 2 => .array .int
  | 3 => .array .int
  | 4 => .array .int
  | 5 => .array .int
  | 6 => .int
  | 7 => .int
  | 8 => .int
  | 9 => .int
  | 10 => .int
  | 11 => .int
  | 12 => .int
  | 13 => .int
  | 14 => .int
  | 15 => .int
  | 16 => .array .int
  | 17 => .int
  | 18 => .int
  | 19 => .long
  | 20 => .int
  | 21 => .int
  | 22 => .int
  | 23 => .int
  | 24 => .array .int
  | 25 => .array .int
  | 26 => .array .int
  | 27 => .array .int
  | 28 => .array .int
  | 29 => .array .int
  | 30 => .array .int
  | 31 => .array .int
  | 32 => .int
  | 33 => .array .int
  | 34 => .array .int
  | 35 => .int
  | 36 => .array .int
  | 37 => .array .int
  | 38 => .array .int
  | 39 => .array .int
  | 40 => .int
  | 41 => .array .int
  | 42 => .array .int
  | 43 => .array .int
  | 44 => .array .int
  | 45 => .array .int
  | 46 => .array .int
  | _ => .array .int
abbrev wsX110 : List Cond := u_ws RX11 TX11 48
theorem nmX11 : ∀ a, a < 48 → ∀ b, b < 48 → a ≠ b → (TX11 a).2.1 ≠ (TX11 b).2.1 := by decide +kernel
theorem tyX11_ok : ∀ k, k < 48 → parseFieldDescriptor (TX11 k).2.2.1 = some (tyX11 k) := by decide +kernel
abbrev cX11_init : ByteArray := prog_13_method_1_code
def yX11_init : MethodName := ⟨RX11, "<init>", "()V"⟩
abbrev cX11_in : ByteArray := prog_13_method_2_code
def yX11_in : MethodName := ⟨RX11, "in", "(III)Z"⟩
abbrev cX11_has : ByteArray := prog_13_method_3_code
def yX11_has : MethodName := ⟨RX11, "has", "(II)Z"⟩
abbrev cX11_bits : ByteArray := prog_13_method_4_code
def yX11_bits : MethodName := ⟨RX11, "bits", "(I)I"⟩
abbrev cX11_isRoom : ByteArray := prog_13_method_5_code
def yX11_isRoom : MethodName := ⟨RX11, "isRoom", "(I)Z"⟩
abbrev cX11_write : ByteArray := prog_13_method_6_code
def yX11_write : MethodName := ⟨RX11, "write", "(JI)I"⟩
abbrev cX11_erase : ByteArray := prog_13_method_7_code
def yX11_erase : MethodName := ⟨RX11, "erase", "()I"⟩
abbrev cX11_nextToken : ByteArray := prog_13_method_8_code
def yX11_nextToken : MethodName := ⟨RX11, "nextToken", "()V"⟩
abbrev cX11_fails : ByteArray := prog_13_method_9_code
def yX11_fails : MethodName := ⟨RX11, "fails", "()Z"⟩
abbrev cX11_isNumber : ByteArray := prog_13_method_10_code
def yX11_isNumber : MethodName := ⟨RX11, "isNumber", "(III)Z"⟩
abbrev cX11_isDoor : ByteArray := prog_13_method_11_code
def yX11_isDoor : MethodName := ⟨RX11, "isDoor", "(I)Z"⟩
abbrev cX11_isLine : ByteArray := prog_13_method_12_code
def yX11_isLine : MethodName := ⟨RX11, "isLine", "(I)Z"⟩
abbrev cX11_isRead : ByteArray := prog_13_method_13_code
def yX11_isRead : MethodName := ⟨RX11, "isRead", "()Z"⟩
abbrev cX11_fault : ByteArray := prog_13_method_14_code
def yX11_fault : MethodName := ⟨RX11, "fault", "()I"⟩
abbrev cX11_hoursOf : ByteArray := prog_13_method_15_code
def yX11_hoursOf : MethodName := ⟨RX11, "hoursOf", "(II)I"⟩
abbrev cX11_doLine : ByteArray := prog_13_method_16_code
def yX11_doLine : MethodName := ⟨RX11, "doLine", "(I)V"⟩
abbrev cX11_doHours : ByteArray := prog_13_method_17_code
def yX11_doHours : MethodName := ⟨RX11, "doHours", "(III)V"⟩
abbrev cX11_week : ByteArray := prog_13_method_18_code
def yX11_week : MethodName := ⟨RX11, "week", "()I"⟩
abbrev cX11_room : ByteArray := prog_13_method_19_code
def yX11_room : MethodName := ⟨RX11, "room", "(II)I"⟩
abbrev cX11_door : ByteArray := prog_13_method_20_code
def yX11_door : MethodName := ⟨RX11, "door", "(II)I"⟩
abbrev cX11_outAt : ByteArray := prog_13_method_21_code
def yX11_outAt : MethodName := ⟨RX11, "outAt", "(I)I"⟩
abbrev cX11_out : ByteArray := prog_13_method_22_code
def yX11_out : MethodName := ⟨RX11, "out", "(I)I"⟩
abbrev cX11_sunAt : ByteArray := prog_13_method_23_code
def yX11_sunAt : MethodName := ⟨RX11, "sunAt", "(II)I"⟩
abbrev cX11_leaksOf : ByteArray := prog_13_method_24_code
def yX11_leaksOf : MethodName := ⟨RX11, "leaksOf", "(I)I"⟩
abbrev cX11_isOpenAt : ByteArray := prog_13_method_25_code
def yX11_isOpenAt : MethodName := ⟨RX11, "isOpenAt", "(II)Z"⟩
abbrev cX11_goHour : ByteArray := prog_13_method_26_code
def yX11_goHour : MethodName := ⟨RX11, "goHour", "(I)V"⟩
abbrev cX11_asTold : ByteArray := prog_13_method_27_code
def yX11_asTold : MethodName := ⟨RX11, "asTold", "()V"⟩
abbrev cX11_goWeek : ByteArray := prog_13_method_28_code
def yX11_goWeek : MethodName := ⟨RX11, "goWeek", "()V"⟩
abbrev cX11_nightOf : ByteArray := prog_13_method_29_code
def yX11_nightOf : MethodName := ⟨RX11, "nightOf", "(I)I"⟩
abbrev cX11_nightOfAll : ByteArray := prog_13_method_30_code
def yX11_nightOfAll : MethodName := ⟨RX11, "nightOfAll", "()I"⟩
abbrev cX11_warm : ByteArray := prog_13_method_31_code
def yX11_warm : MethodName := ⟨RX11, "warm", "(III)I"⟩
abbrev cX11_night : ByteArray := prog_13_method_32_code
def yX11_night : MethodName := ⟨RX11, "night", "(I)I"⟩
abbrev cX11_above : ByteArray := prog_13_method_33_code
def yX11_above : MethodName := ⟨RX11, "above", "(II)I"⟩
abbrev cX11_costs : ByteArray := prog_13_method_34_code
def yX11_costs : MethodName := ⟨RX11, "costs", "(I)I"⟩
abbrev cX11_nightByClock : ByteArray := prog_13_method_35_code
def yX11_nightByClock : MethodName := ⟨RX11, "nightByClock", "(II)I"⟩
abbrev cX11_nightByGlass : ByteArray := prog_13_method_36_code
def yX11_nightByGlass : MethodName := ⟨RX11, "nightByGlass", "()I"⟩
abbrev cX11_clock : ByteArray := prog_13_method_37_code
def yX11_clock : MethodName := ⟨RX11, "clock", "(I)I"⟩
abbrev cX11_work : ByteArray := prog_13_method_38_code
def yX11_work : MethodName := ⟨RX11, "work", "(IIII)I"⟩
abbrev cX11_costOf : ByteArray := prog_13_method_39_code
def yX11_costOf : MethodName := ⟨RX11, "costOf", "(I)I"⟩
abbrev cX11_works : ByteArray := prog_13_method_40_code
def yX11_works : MethodName := ⟨RX11, "works", "(II)I"⟩
abbrev cX11_read : ByteArray := prog_13_method_41_code
def yX11_read : MethodName := ⟨RX11, "read", "(III)I"⟩
abbrev cX11_doHold : ByteArray := prog_13_method_42_code
def yX11_doHold : MethodName := ⟨RX11, "doHold", "(I)Z"⟩
abbrev cX11_learnt : ByteArray := prog_13_method_43_code
def yX11_learnt : MethodName := ⟨RX11, "learnt", "(II)I"⟩
abbrev cX11_flat : ByteArray := prog_13_method_44_code
def yX11_flat : MethodName := ⟨RX11, "flat", "(III)I"⟩
abbrev cX11_toldFlats : ByteArray := prog_13_method_45_code
def yX11_toldFlats : MethodName := ⟨RX11, "toldFlats", "()I"⟩
abbrev cX11_lostBy : ByteArray := prog_13_method_46_code
def yX11_lostBy : MethodName := ⟨RX11, "lostBy", "(II)I"⟩
abbrev cX11_layRest : ByteArray := prog_13_method_47_code
def yX11_layRest : MethodName := ⟨RX11, "layRest", "(I)V"⟩
abbrev cX11_ring : ByteArray := prog_13_method_48_code
def yX11_ring : MethodName := ⟨RX11, "ring", "(I)I"⟩
abbrev cX11_hasBy : ByteArray := prog_13_method_49_code
def yX11_hasBy : MethodName := ⟨RX11, "hasBy", "(IIIIII)I"⟩
abbrev cX11_street : ByteArray := prog_13_method_50_code
def yX11_street : MethodName := ⟨RX11, "street", "(IIIII)I"⟩
abbrev cX11_count : ByteArray := prog_13_method_51_code
def yX11_count : MethodName := ⟨RX11, "count", "(I)I"⟩
def RJ6 : String := "java/lang/Integer"
def TJ6 : u_T := fun k => match k with
  | _ => ("", "", "", false)
def tyJ6 : Nat → FieldType := fun k => match k with
  | _ => .int
abbrev wsJ60 : List Cond := u_ws RJ6 TJ6 0
theorem nmJ6 : ∀ a, a < 0 → ∀ b, b < 0 → a ≠ b → (TJ6 a).2.1 ≠ (TJ6 b).2.1 := by decide +kernel
theorem tyJ6_ok : ∀ k, k < 0 → parseFieldDescriptor (TJ6 k).2.2.1 = some (tyJ6 k) := by decide +kernel
abbrev cJ6_bitCount_0f7a4 : ByteArray := prog_14_method_49_code
def yJ6_bitCount_0f7a4 : MethodName := ⟨RJ6, "bitCount", "(I)I"⟩
def RJ9 : String := "java/lang/Math"
def TJ9 : u_T := fun k => match k with
  | _ => ("", "", "", false)
def tyJ9 : Nat → FieldType := fun k => match k with
  | _ => .int
abbrev wsJ90 : List Cond := u_ws RJ9 TJ9 0
theorem nmJ9 : ∀ a, a < 0 → ∀ b, b < 0 → a ≠ b → (TJ9 a).2.1 ≠ (TJ9 b).2.1 := by decide +kernel
theorem tyJ9_ok : ∀ k, k < 0 → parseFieldDescriptor (TJ9 k).2.2.1 = some (tyJ9 k) := by decide +kernel
abbrev cJ9_abs_0f7a4 : ByteArray := prog_15_method_59_code
def yJ9_abs_0f7a4 : MethodName := ⟨RJ9, "abs", "(I)I"⟩
abbrev cJ9_max_7cf53 : ByteArray := prog_15_method_65_code
def yJ9_max_7cf53 : MethodName := ⟨RJ9, "max", "(II)I"⟩
abbrev cJ9_min_7cf53 : ByteArray := prog_15_method_69_code
def yJ9_min_7cf53 : MethodName := ⟨RJ9, "min", "(II)I"⟩
def RJ0 : String := "java/lang/String"
def TJ0 : u_T := fun k => match k with
  | _ => ("", "", "", false)
def tyJ0 : Nat → FieldType := fun k => match k with
  | _ => .int
abbrev wsJ00 : List Cond := u_ws RJ0 TJ0 0
theorem nmJ0 : ∀ a, a < 0 → ∀ b, b < 0 → a ≠ b → (TJ0 a).2.1 ≠ (TJ0 b).2.1 := by decide +kernel
theorem tyJ0_ok : ∀ k, k < 0 → parseFieldDescriptor (TJ0 k).2.2.1 = some (tyJ0 k) := by decide +kernel
abbrev cJ0_length_8abf5 : ByteArray := prog_16_method_54_code
def yJ0_length_8abf5 : MethodName := ⟨RJ0, "length", "()I"⟩
abbrev cJ0_charAt_5068e : ByteArray := prog_16_method_56_code
def yJ0_charAt_5068e : MethodName := ⟨RJ0, "charAt", "(I)C"⟩
abbrev cJ0_coder_7d493 : ByteArray := prog_16_method_152_code
def yJ0_coder_7d493 : MethodName := ⟨RJ0, "coder", "()B"⟩
abbrev cJ0_isLatin1_aae02 : ByteArray := prog_16_method_154_code
def yJ0_isLatin1_aae02 : MethodName := ⟨RJ0, "isLatin1", "()Z"⟩
abbrev cJ0_checkIndex_df160 : ByteArray := prog_16_method_155_code
def yJ0_checkIndex_df160 : MethodName := ⟨RJ0, "checkIndex", "(II)V"⟩
def RJ1 : String := "java/lang/StringLatin1"
def TJ1 : u_T := fun k => match k with
  | _ => ("", "", "", false)
def tyJ1 : Nat → FieldType := fun k => match k with
  | _ => .int
abbrev wsJ10 : List Cond := u_ws RJ1 TJ1 0
theorem nmJ1 : ∀ a, a < 0 → ∀ b, b < 0 → a ≠ b → (TJ1 a).2.1 ≠ (TJ1 b).2.1 := by decide +kernel
theorem tyJ1_ok : ∀ k, k < 0 → parseFieldDescriptor (TJ1 k).2.2.1 = some (tyJ1 k) := by decide +kernel
abbrev cJ1_charAt_3b067 : ByteArray := prog_17_method_2_code
def yJ1_charAt_3b067 : MethodName := ⟨RJ1, "charAt", "([BI)C"⟩
def RJ2 : String := "java/lang/StringUTF16"
def TJ2 : u_T := fun k => match k with
  | _ => ("", "", "", false)
def tyJ2 : Nat → FieldType := fun k => match k with
  | _ => .int
abbrev wsJ20 : List Cond := u_ws RJ2 TJ2 0
theorem nmJ2 : ∀ a, a < 0 → ∀ b, b < 0 → a ≠ b → (TJ2 a).2.1 ≠ (TJ2 b).2.1 := by decide +kernel
theorem tyJ2_ok : ∀ k, k < 0 → parseFieldDescriptor (TJ2 k).2.2.1 = some (tyJ2 k) := by decide +kernel
abbrev cJ2_getChar_3b067 : ByteArray := prog_18_method_5_code
def yJ2_getChar_3b067 : MethodName := ⟨RJ2, "getChar", "([BI)C"⟩
abbrev cJ2_length_9d52b : ByteArray := prog_18_method_6_code
def yJ2_length_9d52b : MethodName := ⟨RJ2, "length", "([B)I"⟩
abbrev cJ2_charAt_3b067 : ByteArray := prog_18_method_83_code
def yJ2_charAt_3b067 : MethodName := ⟨RJ2, "charAt", "([BI)C"⟩
abbrev cJ2_checkIndex_2214a : ByteArray := prog_18_method_91_code
def yJ2_checkIndex_2214a : MethodName := ⟨RJ2, "checkIndex", "(I[B)V"⟩
def RJ3 : String := "jdk/internal/util/Preconditions"
def TJ3 : u_T := fun k => match k with
  | _ => ("", "", "", false)
def tyJ3 : Nat → FieldType := fun k => match k with
  | _ => .int
abbrev wsJ30 : List Cond := u_ws RJ3 TJ3 0
theorem nmJ3 : ∀ a, a < 0 → ∀ b, b < 0 → a ≠ b → (TJ3 a).2.1 ≠ (TJ3 b).2.1 := by decide +kernel
theorem tyJ3_ok : ∀ k, k < 0 → parseFieldDescriptor (TJ3 k).2.2.1 = some (tyJ3 k) := by decide +kernel
abbrev cJ3_checkIndex_8e157 : ByteArray := prog_19_method_11_code
def yJ3_checkIndex_8e157 : MethodName := ⟨RJ3, "checkIndex", "(IILjava/util/function/BiFunction;)I"⟩
def RL : String := "HotWeekLaw"
abbrev cL_law : ByteArray := code
def yL_law : MethodName := ⟨RL, "law", "([I)Z"⟩
def wsL_law_r1 : List Cond := [Cond.classLink RL 7 RX10, Cond.instantiable RX10 12, Cond.initialized RX10, Cond.classLink RL 10 RX11, Cond.instantiable RX11 48, Cond.initialized RX11, Cond.constantLong RL 13 (4294967295), Cond.methodLink RL 9 yX10_init, Cond.instanceMethod yX10_init, Cond.code yX10_init cX10_init 1 none, Cond.methodLink RX10 3 objectInit, Cond.instanceMethod objectInit, Cond.code objectInit ⟨#[0xb1]⟩ 1 none, Cond.classLink RX10 9 RX8, Cond.instantiable RX8 2, Cond.initialized RX8, Cond.fieldLink RX10 12 "HotWeek" "text" "LHotWeek$Text;", Cond.classLink RX10 16 RX5, Cond.instantiable RX5 4, Cond.initialized RX5, Cond.fieldLink RX10 19 "HotWeek" "reader" "LHotWeek$Reader;", Cond.classLink RX10 23 RX3, Cond.instantiable RX3 18, Cond.initialized RX3]
def wsL_law_r2 : List Cond := [Cond.fieldLink RX10 26 "HotWeek" "house" "LHotWeek$House;", Cond.classLink RX10 30 RX4, Cond.instantiable RX4 7, Cond.initialized RX4, Cond.fieldLink RX10 33 "HotWeek" "plan" "LHotWeek$Plan;", Cond.classLink RX10 37 RX1, Cond.instantiable RX1 3, Cond.initialized RX1, Cond.fieldLink RX10 40 "HotWeek" "told" "LHotWeek$Course;", Cond.fieldLink RX10 44 "HotWeek" "tried" "LHotWeek$Course;", Cond.classLink RX10 47 RX0, Cond.instantiable RX0 5, Cond.initialized RX0, Cond.fieldLink RX10 50 "HotWeek" "bestClock" "LHotWeek$BestClock;", Cond.classLink RX10 54 RX9, Cond.instantiable RX9 7, Cond.initialized RX9, Cond.fieldLink RX10 57 "HotWeek" "works" "LHotWeek$Works;", Cond.classLink RX10 61 RX2, Cond.instantiable RX2 9, Cond.initialized RX2, Cond.fieldLink RX10 64 "HotWeek" "glasses" "LHotWeek$Glasses;", Cond.classLink RX10 68 RX6, Cond.instantiable RX6 3]
def wsL_law_r3 : List Cond := [Cond.initialized RX6, Cond.fieldLink RX10 71 "HotWeek" "rings" "LHotWeek$Rings;", Cond.classLink RX10 75 RX7, Cond.instantiable RX7 8, Cond.initialized RX7, Cond.fieldLink RX10 78 "HotWeek" "street" "LHotWeek$Street;", Cond.fieldLink RX10 82 "HotWeek" "toldStands" "Z", Cond.methodLink RX10 11 yX8_init, Cond.instanceMethod yX8_init, Cond.code yX8_init cX8_init 1 none, Cond.methodLink RX8 3 objectInit, Cond.arrayClass .int, Cond.fieldLink RX8 11 "HotWeek$Text" "bytes" "[I", Cond.fieldLink RX8 15 "HotWeek$Text" "length" "I", Cond.methodLink RX10 18 yX5_init, Cond.instanceMethod yX5_init, Cond.code yX5_init cX5_init 1 none, Cond.methodLink RX5 3 objectInit, Cond.fieldLink RX5 11 "HotWeek$Reader" "kinds" "[I", Cond.classLink RX5 15 "[[I", Cond.fieldLink RX5 17 "HotWeek$Reader" "numbers" "[[I", Cond.fieldLink RX5 20 "HotWeek$Reader" "lines" "I", Cond.fieldLink RX5 24 "HotWeek$Reader" "place" "I", Cond.methodLink RX10 25 yX3_init]
def wsL_law_r4 : List Cond := [Cond.instanceMethod yX3_init, Cond.code yX3_init cX3_init 1 none, Cond.methodLink RX3 3 objectInit, Cond.arrayClass .boolean, Cond.fieldLink RX3 9 "HotWeek$House" "told" "[Z", Cond.fieldLink RX3 15 "HotWeek$House" "firstAir" "[I", Cond.fieldLink RX3 19 "HotWeek$House" "firstWall" "[I", Cond.fieldLink RX3 22 "HotWeek$House" "side" "[I", Cond.fieldLink RX3 25 "HotWeek$House" "folk" "[I", Cond.fieldLink RX3 28 "HotWeek$House" "habit" "[I", Cond.fieldLink RX3 31 "HotWeek$House" "openHours" "[I", Cond.fieldLink RX3 34 "HotWeek$House" "shutHours" "[I", Cond.classLink RX3 37 "[[I", Cond.fieldLink RX3 39 "HotWeek$House" "passes" "[[I", Cond.constant RX3 42 (16777215), Cond.fieldLink RX3 43 "HotWeek$House" "homeHours" "I", Cond.fieldLink RX3 47 "HotWeek$House" "cool" "I", Cond.fieldLink RX3 50 "HotWeek$House" "hot" "I", Cond.fieldLink RX3 53 "HotWeek$House" "warmer" "I", Cond.fieldLink RX3 56 "HotWeek$House" "sun" "I", Cond.fieldLink RX3 59 "HotWeek$House" "takes" "I", Cond.fieldLink RX3 62 "HotWeek$House" "gives" "I", Cond.fieldLink RX3 65 "HotWeek$House" "leaks" "I", Cond.fieldLink RX3 68 "HotWeek$House" "window" "I"]
def wsL_law_r5 : List Cond := [Cond.methodLink RX10 32 yX4_init, Cond.instanceMethod yX4_init, Cond.code yX4_init cX4_init 1 none, Cond.methodLink RX4 3 objectInit, Cond.fieldLink RX4 9 "HotWeek$Plan" "habit" "[I", Cond.fieldLink RX4 15 "HotWeek$Plan" "openHours" "[I", Cond.fieldLink RX4 18 "HotWeek$Plan" "leaks" "[I", Cond.classLink RX4 21 "[[I", Cond.fieldLink RX4 23 "HotWeek$Plan" "sun" "[[I", Cond.fieldLink RX4 26 "HotWeek$Plan" "sky" "[I", Cond.fieldLink RX4 29 "HotWeek$Plan" "takes" "I", Cond.fieldLink RX4 33 "HotWeek$Plan" "gives" "I", Cond.methodLink RX10 39 yX1_init, Cond.instanceMethod yX1_init, Cond.code yX1_init cX1_init 1 none, Cond.methodLink RX1 3 objectInit, Cond.classLink RX1 9 "[[I", Cond.fieldLink RX1 11 "HotWeek$Course" "air" "[[I", Cond.fieldLink RX1 16 "HotWeek$Course" "wall" "[[I", Cond.fieldLink RX1 19 "HotWeek$Course" "open" "[[I", Cond.methodLink RX10 49 yX0_init, Cond.instanceMethod yX0_init, Cond.code yX0_init cX0_init 1 none, Cond.methodLink RX0 3 objectInit]
def wsL_law_r6 : List Cond := [Cond.fieldLink RX0 9 "HotWeek$BestClock" "found" "Z", Cond.methodLink RX10 56 yX9_init, Cond.instanceMethod yX9_init, Cond.code yX9_init cX9_init 1 none, Cond.methodLink RX9 3 objectInit, Cond.fieldLink RX9 11 "HotWeek$Works" "room" "[I", Cond.fieldLink RX9 15 "HotWeek$Works" "cost" "[I", Cond.fieldLink RX9 18 "HotWeek$Works" "sun" "[I", Cond.fieldLink RX9 21 "HotWeek$Works" "leak" "[I", Cond.fieldLink RX9 24 "HotWeek$Works" "size" "I", Cond.methodLink RX10 63 yX2_init, Cond.instanceMethod yX2_init, Cond.code yX2_init cX2_init 1 none, Cond.methodLink RX2 3 objectInit, Cond.fieldLink RX2 11 "HotWeek$Glasses" "room" "[I", Cond.fieldLink RX2 15 "HotWeek$Glasses" "hour" "[I", Cond.fieldLink RX2 18 "HotWeek$Glasses" "air" "[I", Cond.fieldLink RX2 21 "HotWeek$Glasses" "size" "I", Cond.fieldLink RX2 25 "HotWeek$Glasses" "laws" "I", Cond.methodLink RX10 70 yX6_init, Cond.instanceMethod yX6_init, Cond.code yX6_init cX6_init 1 none, Cond.methodLink RX6 5 objectInit, Cond.fieldLink RX6 11 "HotWeek$Rings" "weight" "[I"]
def wsL_law_r7 : List Cond := [Cond.fieldLink RX6 15 "HotWeek$Rings" "due" "[I", Cond.fieldLink RX6 18 "HotWeek$Rings" "leastLost" "[I", Cond.methodLink RX10 77 yX7_init, Cond.instanceMethod yX7_init, Cond.code yX7_init cX7_init 1 none, Cond.methodLink RX7 3 objectInit, Cond.fieldLink RX7 9 "HotWeek$Street" "houses" "I", Cond.methodLink RL 12 yX11_init, Cond.instanceMethod yX11_init, Cond.code yX11_init cX11_init 1 none, Cond.methodLink RX11 1 objectInit, Cond.fieldLink RX11 7 "HotWeekModel" "room" "[I", Cond.fieldLink RX11 13 "HotWeekModel" "habit" "[I", Cond.fieldLink RX11 16 "HotWeekModel" "open" "[I", Cond.fieldLink RX11 19 "HotWeekModel" "shut" "[I", Cond.fieldLink RX11 22 "HotWeekModel" "door" "[I", Cond.fieldLink RX11 25 "HotWeekModel" "cool" "I", Cond.fieldLink RX11 29 "HotWeekModel" "hot" "I", Cond.fieldLink RX11 32 "HotWeekModel" "more" "I", Cond.fieldLink RX11 35 "HotWeekModel" "sun" "I", Cond.fieldLink RX11 38 "HotWeekModel" "takes" "I", Cond.fieldLink RX11 41 "HotWeekModel" "gives" "I", Cond.fieldLink RX11 44 "HotWeekModel" "leaks" "I", Cond.fieldLink RX11 47 "HotWeekModel" "window" "I"]
def wsL_law_r8 : List Cond := [Cond.constant RX11 50 (16777215), Cond.fieldLink RX11 51 "HotWeekModel" "home" "I", Cond.fieldLink RX11 54 "HotWeekModel" "text" "[I", Cond.fieldLink RX11 57 "HotWeekModel" "read" "[I", Cond.fieldLink RX11 60 "HotWeekModel" "air" "[I", Cond.fieldLink RX11 63 "HotWeekModel" "wall" "[I", Cond.fieldLink RX11 66 "HotWeekModel" "isOpen" "[I", Cond.fieldLink RX11 69 "HotWeekModel" "airNow" "[I", Cond.fieldLink RX11 72 "HotWeekModel" "wallNow" "[I", Cond.fieldLink RX11 75 "HotWeekModel" "airThen" "[I", Cond.fieldLink RX11 78 "HotWeekModel" "wallThen" "[I", Cond.fieldLink RX11 81 "HotWeekModel" "habitNow" "[I", Cond.fieldLink RX11 84 "HotWeekModel" "openNow" "[I", Cond.fieldLink RX11 87 "HotWeekModel" "workRoom" "[I", Cond.fieldLink RX11 90 "HotWeekModel" "workCost" "[I", Cond.fieldLink RX11 93 "HotWeekModel" "workSun" "[I", Cond.fieldLink RX11 96 "HotWeekModel" "workLeak" "[I", Cond.fieldLink RX11 99 "HotWeekModel" "rowRoom" "[I", Cond.fieldLink RX11 102 "HotWeekModel" "rowHour" "[I", Cond.fieldLink RX11 105 "HotWeekModel" "rowAir" "[I", Cond.fieldLink RX11 108 "HotWeekModel" "weight" "[I", Cond.fieldLink RX11 111 "HotWeekModel" "due" "[I", Cond.fieldLink RX11 114 "HotWeekModel" "rest" "[I", Cond.fieldLink RX11 117 "HotWeekModel" "learnt" "[I"]
def wsL_law_r9 : List Cond := [Cond.methodLink RL 15 yX10_write, Cond.instanceMethod yX10_write, Cond.selects RX10 yX10_write yX10_write, Cond.code yX10_write cX10_write 5 (some .int), Cond.constantLong RX10 94 (255), Cond.methodLink RX10 86 yX10_isWithin, Cond.static yX10_isWithin, Cond.code yX10_isWithin cX10_isWithin 3 (some .boolean), Cond.methodLink RX10 90 yX8_hasSpaceFor, Cond.instanceMethod yX8_hasSpaceFor, Cond.selects RX8 yX8_hasSpaceFor yX8_hasSpaceFor, Cond.code yX8_hasSpaceFor cX8_hasSpaceFor 2 (some .boolean), Cond.methodLink RX10 96 yX8_add, Cond.instanceMethod yX8_add, Cond.selects RX8 yX8_add yX8_add, Cond.code yX8_add cX8_add 2 none, Cond.methodLink RX10 100 yX8_length, Cond.instanceMethod yX8_length, Cond.selects RX8 yX8_length yX8_length, Cond.code yX8_length cX8_length 1 (some .int), Cond.methodLink RL 19 yX11_write, Cond.instanceMethod yX11_write, Cond.selects RX11 yX11_write yX11_write, Cond.code yX11_write cX11_write 5 (some .int)]
def wsL_law_r10 : List Cond := [Cond.fieldLink RX11 131 "HotWeekModel" "bytes" "I", Cond.constantLong RX11 134 (255), Cond.methodLink RX11 120 yX11_in, Cond.static yX11_in, Cond.code yX11_in cX11_in 3 (some .boolean), Cond.methodLink RL 20 yX10_erase, Cond.instanceMethod yX10_erase, Cond.selects RX10 yX10_erase yX10_erase, Cond.code yX10_erase cX10_erase 2 (some .int), Cond.methodLink RX10 104 yX8_clear, Cond.instanceMethod yX8_clear, Cond.selects RX8 yX8_clear yX8_clear, Cond.code yX8_clear cX8_clear 1 none, Cond.methodLink RL 24 yX11_erase, Cond.instanceMethod yX11_erase, Cond.selects RX11 yX11_erase yX11_erase, Cond.code yX11_erase cX11_erase 2 (some .int), Cond.methodLink RL 25 yX10_fault, Cond.instanceMethod yX10_fault, Cond.selects RX10 yX10_fault yX10_fault, Cond.code yX10_fault cX10_fault 1 (some .int), Cond.methodLink RX10 107 yX5_faultOf, Cond.instanceMethod yX5_faultOf, Cond.selects RX5 yX5_faultOf yX5_faultOf]
def wsL_law_r11 : List Cond := [Cond.code yX5_faultOf cX5_faultOf 3 (some .int), Cond.methodLink RX5 27 yX5_readsWord, Cond.instanceMethod yX5_readsWord, Cond.selects RX5 yX5_readsWord yX5_readsWord, Cond.code yX5_readsWord cX5_readsWord 5 (some .boolean), Cond.methodLink RX5 34 yX8_behindBlanks, Cond.instanceMethod yX8_behindBlanks, Cond.selects RX8 yX8_behindBlanks yX8_behindBlanks, Cond.code yX8_behindBlanks cX8_behindBlanks 3 (some .int), Cond.methodLink RX8 19 yX8_at, Cond.instanceMethod yX8_at, Cond.selects RX8 yX8_at yX8_at, Cond.code yX8_at cX8_at 2 (some .int), Cond.methodLink RX5 47 yX8_endOfToken, Cond.instanceMethod yX8_endOfToken, Cond.selects RX8 yX8_endOfToken yX8_endOfToken, Cond.code yX8_endOfToken cX8_endOfToken 3 (some .int), Cond.methodLink RX8 23 yX8_isLetter, Cond.static yX8_isLetter, Cond.code yX8_isLetter cX8_isLetter 1 (some .boolean), Cond.methodLink RX8 27 yX8_isDigit, Cond.static yX8_isDigit, Cond.code yX8_isDigit cX8_isDigit 1 (some .boolean), Cond.methodLink RX5 52 yX3_wordOf]
def wsL_law_r12 : List Cond := [Cond.static yX3_wordOf, Cond.code yX3_wordOf cX3_wordOf 1 (some (.object "java/lang/String")), Cond.methodLink RX5 56 yX8_spells, Cond.instanceMethod yX8_spells, Cond.selects RX8 yX8_spells yX8_spells, Cond.code yX8_spells cX8_spells 5 (some .boolean), Cond.methodLink RX8 30 yJ0_length_8abf5, Cond.instanceMethod yJ0_length_8abf5, Cond.selects RJ0 yJ0_length_8abf5 yJ0_length_8abf5, Cond.initialized RJ0, Cond.code yJ0_length_8abf5 cJ0_length_8abf5 1 (some .int), Cond.fieldLink RJ0 9 "java/lang/String" "value" "[B", Cond.methodLink RJ0 335 yJ0_coder_7d493, Cond.instanceMethod yJ0_coder_7d493, Cond.selects RJ0 yJ0_coder_7d493 yJ0_coder_7d493, Cond.code yJ0_coder_7d493 cJ0_coder_7d493 1 (some .byte), Cond.fieldLink RJ0 38 "java/lang/String" "COMPACT_STRINGS" "Z", Cond.fieldLink RJ0 15 "java/lang/String" "coder" "B", Cond.methodLink RX8 35 yJ0_charAt_5068e, Cond.instanceMethod yJ0_charAt_5068e, Cond.selects RJ0 yJ0_charAt_5068e yJ0_charAt_5068e, Cond.code yJ0_charAt_5068e cJ0_charAt_5068e 2 (some .char), Cond.methodLink RJ0 492 yJ0_isLatin1_aae02, Cond.instanceMethod yJ0_isLatin1_aae02]
def wsL_law_r13 : List Cond := [Cond.selects RJ0 yJ0_isLatin1_aae02 yJ0_isLatin1_aae02, Cond.code yJ0_isLatin1_aae02 cJ0_isLatin1_aae02 1 (some .boolean), Cond.methodLink RJ0 495 yJ1_charAt_3b067, Cond.static yJ1_charAt_3b067, Cond.initialized RJ1, Cond.code yJ1_charAt_3b067 cJ1_charAt_3b067 2 (some .char), Cond.methodLink RJ1 9 yJ0_checkIndex_df160, Cond.static yJ0_checkIndex_df160, Cond.code yJ0_checkIndex_df160 cJ0_checkIndex_df160 2 none, Cond.fieldLink RJ0 1053 "jdk/internal/util/Preconditions" "SIOOBE_FORMATTER" "Ljava/util/function/BiFunction;", Cond.methodLink RJ0 1059 yJ3_checkIndex_8e157, Cond.static yJ3_checkIndex_8e157, Cond.initialized RJ3, Cond.code yJ3_checkIndex_8e157 cJ3_checkIndex_8e157 3 (some .int), Cond.methodLink RJ0 498 yJ2_charAt_3b067, Cond.static yJ2_charAt_3b067, Cond.initialized RJ2, Cond.code yJ2_charAt_3b067 cJ2_charAt_3b067 2 (some .char), Cond.methodLink RJ2 67 yJ2_checkIndex_2214a, Cond.static yJ2_checkIndex_2214a, Cond.code yJ2_checkIndex_2214a cJ2_checkIndex_2214a 2 none, Cond.methodLink RJ2 48 yJ2_length_9d52b, Cond.static yJ2_length_9d52b, Cond.code yJ2_length_9d52b cJ2_length_9d52b 1 (some .int)]
def wsL_law_r14 : List Cond := [Cond.methodLink RJ2 414 yJ0_checkIndex_df160, Cond.methodLink RJ2 71 yJ2_getChar_3b067, Cond.static yJ2_getChar_3b067, Cond.code yJ2_getChar_3b067 cJ2_getChar_3b067 2 (some .char), Cond.fieldLink RJ2 44 "java/lang/StringUTF16" "$assertionsDisabled" "Z", Cond.fieldLink RJ2 59 "java/lang/StringUTF16" "HI_BYTE_SHIFT" "I", Cond.fieldLink RJ2 63 "java/lang/StringUTF16" "LO_BYTE_SHIFT" "I", Cond.methodLink RX5 31 yX5_readsNumbers, Cond.instanceMethod yX5_readsNumbers, Cond.selects RX5 yX5_readsNumbers yX5_readsNumbers, Cond.code yX5_readsNumbers cX5_readsNumbers 7 (some .boolean), Cond.fieldLink RX5 60 "HotWeek$Reader" "BOUNDS" "[I", Cond.methodLink RX5 63 yX8_numberIn, Cond.instanceMethod yX8_numberIn, Cond.selects RX8 yX8_numberIn yX8_numberIn, Cond.code yX8_numberIn cX8_numberIn 5 (some .int), Cond.methodLink RX5 71 yX5_isDoorToItself, Cond.instanceMethod yX5_isDoorToItself, Cond.selects RX5 yX5_isDoorToItself yX5_isDoorToItself, Cond.code yX5_isDoorToItself cX5_isDoorToItself 4 (some .boolean), Cond.methodLink RX5 40 yX8_length, Cond.methodLink RX5 44 yX8_at, Cond.methodLink RL 28 yX11_fault, Cond.instanceMethod yX11_fault]
def wsL_law_r15 : List Cond := [Cond.selects RX11 yX11_fault yX11_fault, Cond.code yX11_fault cX11_fault 1 (some .int), Cond.fieldLink RX11 164 "HotWeekModel" "faultAt" "I", Cond.methodLink RX11 207 yX11_isRead, Cond.instanceMethod yX11_isRead, Cond.selects RX11 yX11_isRead yX11_isRead, Cond.code yX11_isRead cX11_isRead 2 (some .boolean), Cond.fieldLink RX11 136 "HotWeekModel" "position" "I", Cond.fieldLink RX11 201 "HotWeekModel" "readMany" "I", Cond.fieldLink RX11 150 "HotWeekModel" "token" "J", Cond.constantLong RX11 162 (-3), Cond.constantLong RX11 148 (-2), Cond.methodLink RX11 204 yX11_isLine, Cond.instanceMethod yX11_isLine, Cond.selects RX11 yX11_isLine yX11_isLine, Cond.code yX11_isLine cX11_isLine 4 (some .boolean), Cond.constantLong RX11 177 (365647), Cond.constantLong RX11 179 (90090), Cond.constantLong RX11 181 (14173), Cond.constantLong RX11 183 (14432), Cond.constantLong RX11 185 (4562600), Cond.constantLong RX11 187 (4272932), Cond.constantLong RX11 189 (307058), Cond.constantLong RX11 191 (380396)]
def wsL_law_r16 : List Cond := [Cond.constantLong RX11 193 (168755), Cond.constantLong RX11 195 (40586), Cond.methodLink RX11 167 yX11_nextToken, Cond.instanceMethod yX11_nextToken, Cond.selects RX11 yX11_nextToken yX11_nextToken, Cond.code yX11_nextToken cX11_nextToken 1 none, Cond.fieldLink RX11 139 "HotWeekModel" "tokenAt" "I", Cond.fieldLink RX11 142 "HotWeekModel" "digits" "I", Cond.fieldLink RX11 145 "HotWeekModel" "number" "I", Cond.constantLong RX11 154 (27), Cond.constantLong RX11 156 (96), Cond.constantLong RX11 158 (-4), Cond.constantLong RX11 160 (-1), Cond.methodLink RX11 174 yX11_isNumber, Cond.instanceMethod yX11_isNumber, Cond.selects RX11 yX11_isNumber yX11_isNumber, Cond.code yX11_isNumber cX11_isNumber 4 (some .boolean), Cond.methodLink RX11 170 yX11_fails, Cond.instanceMethod yX11_fails, Cond.selects RX11 yX11_fails yX11_fails, Cond.code yX11_fails cX11_fails 1 (some .boolean), Cond.methodLink RX11 197 yX11_isDoor, Cond.instanceMethod yX11_isDoor, Cond.selects RX11 yX11_isDoor yX11_isDoor]
def wsL_law_r17 : List Cond := [Cond.code yX11_isDoor cX11_isDoor 2 (some .boolean), Cond.methodLink RL 29 yX10_week, Cond.instanceMethod yX10_week, Cond.selects RX10 yX10_week yX10_week, Cond.code yX10_week cX10_week 3 (some .int), Cond.methodLink RX10 111 yX5_lines, Cond.instanceMethod yX5_lines, Cond.selects RX5 yX5_lines yX5_lines, Cond.code yX5_lines cX5_lines 1 (some .int), Cond.methodLink RX10 114 yX5_kindOf, Cond.instanceMethod yX5_kindOf, Cond.selects RX5 yX5_kindOf yX5_kindOf, Cond.code yX5_kindOf cX5_kindOf 2 (some .int), Cond.methodLink RX10 118 yX5_numbersOf, Cond.instanceMethod yX5_numbersOf, Cond.selects RX5 yX5_numbersOf yX5_numbersOf, Cond.code yX5_numbersOf cX5_numbersOf 2 (some (.array .int)), Cond.methodLink RX10 122 yX3_tell, Cond.instanceMethod yX3_tell, Cond.selects RX3 yX3_tell yX3_tell, Cond.code yX3_tell cX3_tell 3 none, Cond.methodLink RX3 89 yX3_tellRoom, Cond.instanceMethod yX3_tellRoom, Cond.selects RX3 yX3_tellRoom yX3_tellRoom]
def wsL_law_r18 : List Cond := [Cond.code yX3_tellRoom cX3_tellRoom 3 none, Cond.static yX10_hoursFrom, Cond.code yX10_hoursFrom cX10_hoursFrom 5 (some .int), Cond.methodLink RX10 126 yX0_forget, Cond.instanceMethod yX0_forget, Cond.selects RX0 yX0_forget yX0_forget, Cond.code yX0_forget cX0_forget 1 none, Cond.methodLink RL 32 yX11_week, Cond.instanceMethod yX11_week, Cond.selects RX11 yX11_week yX11_week, Cond.code yX11_week cX11_week 2 (some .int), Cond.methodLink RX11 218 yX11_doLine, Cond.instanceMethod yX11_doLine, Cond.selects RX11 yX11_doLine yX11_doLine, Cond.code yX11_doLine cX11_doLine 5 none, Cond.fieldLink RX11 124 "HotWeekModel" "told" "I", Cond.methodLink RX11 210 yX11_doHours, Cond.instanceMethod yX11_doHours, Cond.selects RX11 yX11_doHours yX11_doHours, Cond.code yX11_doHours cX11_doHours 4 none, Cond.methodLink RX11 214 yX11_hoursOf, Cond.static yX11_hoursOf, Cond.code yX11_hoursOf cX11_hoursOf 4 (some .int), Cond.methodLink RL 33 yX10_room]
def wsL_law_r19 : List Cond := [Cond.instanceMethod yX10_room, Cond.selects RX10 yX10_room yX10_room, Cond.code yX10_room cX10_room 3 (some .int), Cond.methodLink RX10 129 yX3_isTold, Cond.instanceMethod yX3_isTold, Cond.selects RX3 yX3_isTold yX3_isTold, Cond.code yX3_isTold cX3_isTold 2 (some .boolean), Cond.methodLink RX10 132 yX3_firstAir, Cond.instanceMethod yX3_firstAir, Cond.selects RX3 yX3_firstAir yX3_firstAir, Cond.code yX3_firstAir cX3_firstAir 2 (some .int), Cond.methodLink RX10 135 yX3_firstWall, Cond.instanceMethod yX3_firstWall, Cond.selects RX3 yX3_firstWall yX3_firstWall, Cond.code yX3_firstWall cX3_firstWall 2 (some .int), Cond.methodLink RX10 138 yX3_side, Cond.instanceMethod yX3_side, Cond.selects RX3 yX3_side yX3_side, Cond.code yX3_side cX3_side 2 (some .int), Cond.methodLink RX10 141 yX3_folk, Cond.instanceMethod yX3_folk, Cond.selects RX3 yX3_folk yX3_folk, Cond.code yX3_folk cX3_folk 2 (some .int), Cond.methodLink RX10 144 yX3_habit]
def wsL_law_r20 : List Cond := [Cond.instanceMethod yX3_habit, Cond.selects RX3 yX3_habit yX3_habit, Cond.code yX3_habit cX3_habit 2 (some .int), Cond.methodLink RX10 147 yX3_openHours, Cond.instanceMethod yX3_openHours, Cond.selects RX3 yX3_openHours yX3_openHours, Cond.code yX3_openHours cX3_openHours 2 (some .int), Cond.methodLink RX10 150 yX3_shutHours, Cond.instanceMethod yX3_shutHours, Cond.selects RX3 yX3_shutHours yX3_shutHours, Cond.code yX3_shutHours cX3_shutHours 2 (some .int), Cond.methodLink RL 37 yX11_room, Cond.instanceMethod yX11_room, Cond.selects RX11 yX11_room yX11_room, Cond.code yX11_room cX11_room 3 (some .int), Cond.methodLink RX11 222 yX11_isRoom, Cond.instanceMethod yX11_isRoom, Cond.selects RX11 yX11_isRoom yX11_isRoom, Cond.code yX11_isRoom cX11_isRoom 2 (some .boolean), Cond.methodLink RX11 127 yX11_has, Cond.static yX11_has, Cond.code yX11_has cX11_has 2 (some .boolean), Cond.methodLink RL 38 yX10_door, Cond.instanceMethod yX10_door]
def wsL_law_r21 : List Cond := [Cond.selects RX10 yX10_door yX10_door, Cond.code yX10_door cX10_door 3 (some .int), Cond.methodLink RX10 153 yX10_isRoom, Cond.static yX10_isRoom, Cond.code yX10_isRoom cX10_isRoom 1 (some .boolean), Cond.methodLink RX10 156 yX3_passes, Cond.instanceMethod yX3_passes, Cond.selects RX3 yX3_passes yX3_passes, Cond.code yX3_passes cX3_passes 3 (some .int), Cond.methodLink RL 41 yX11_door, Cond.instanceMethod yX11_door, Cond.selects RX11 yX11_door yX11_door, Cond.code yX11_door cX11_door 3 (some .int), Cond.methodLink RL 42 yX10_out, Cond.instanceMethod yX10_out, Cond.selects RX10 yX10_out yX10_out, Cond.code yX10_out cX10_out 2 (some .int), Cond.methodLink RX10 160 yX10_isHour, Cond.static yX10_isHour, Cond.code yX10_isHour cX10_isHour 1 (some .boolean), Cond.methodLink RX10 163 yX3_skyAt, Cond.instanceMethod yX3_skyAt, Cond.selects RX3 yX3_skyAt yX3_skyAt, Cond.code yX3_skyAt cX3_skyAt 5 (some .int)]
def wsL_law_r22 : List Cond := [Cond.methodLink RL 46 yX11_out, Cond.instanceMethod yX11_out, Cond.selects RX11 yX11_out yX11_out, Cond.code yX11_out cX11_out 2 (some .int), Cond.methodLink RX11 225 yX11_outAt, Cond.instanceMethod yX11_outAt, Cond.selects RX11 yX11_outAt yX11_outAt, Cond.code yX11_outAt cX11_outAt 7 (some .int), Cond.methodLink RL 47 yX10_warm, Cond.instanceMethod yX10_warm, Cond.selects RX10 yX10_warm yX10_warm, Cond.code yX10_warm cX10_warm 4 (some .int), Cond.methodLink RX10 166 yX10_courseAsTold, Cond.instanceMethod yX10_courseAsTold, Cond.selects RX10 yX10_courseAsTold yX10_courseAsTold, Cond.code yX10_courseAsTold cX10_courseAsTold 1 (some (.object "HotWeek$Course")), Cond.methodLink RX10 189 yX4_takeFrom, Cond.instanceMethod yX4_takeFrom, Cond.selects RX4 yX4_takeFrom yX4_takeFrom, Cond.code yX4_takeFrom cX4_takeFrom 3 none, Cond.methodLink RX4 36 yX3_skyAt, Cond.methodLink RX4 42 yX3_habit, Cond.methodLink RX4 44 yX3_openHours, Cond.methodLink RX4 46 yX4_takeWorksOff]
def wsL_law_r23 : List Cond := [Cond.instanceMethod yX4_takeWorksOff, Cond.selects RX4 yX4_takeWorksOff yX4_takeWorksOff, Cond.code yX4_takeWorksOff cX4_takeWorksOff 4 none, Cond.methodLink RX4 59 yX3_leaks, Cond.instanceMethod yX3_leaks, Cond.selects RX3 yX3_leaks yX3_leaks, Cond.code yX3_leaks cX3_leaks 1 (some .int), Cond.methodLink RX4 61 yX3_sunIn, Cond.instanceMethod yX3_sunIn, Cond.selects RX3 yX3_sunIn yX3_sunIn, Cond.code yX3_sunIn cX3_sunIn 3 (some .int), Cond.methodLink RX3 97 yX3_shinesOn, Cond.static yX3_shinesOn, Cond.code yX3_shinesOn cX3_shinesOn 2 (some .boolean), Cond.static yX10_hasBit, Cond.code yX10_hasBit cX10_hasBit 2 (some .boolean), Cond.methodLink RX4 50 yX3_gives, Cond.instanceMethod yX3_gives, Cond.selects RX3 yX3_gives yX3_gives, Cond.code yX3_gives cX3_gives 1 (some .int), Cond.methodLink RX4 53 yX3_takes, Cond.instanceMethod yX3_takes, Cond.selects RX3 yX3_takes yX3_takes, Cond.code yX3_takes cX3_takes 1 (some .int)]
def wsL_law_r24 : List Cond := [Cond.methodLink RX4 55 yX4_putLaw, Cond.instanceMethod yX4_putLaw, Cond.selects RX4 yX4_putLaw yX4_putLaw, Cond.code yX4_putLaw cX4_putLaw 3 none, Cond.methodLink RX10 197 yX1_run, Cond.instanceMethod yX1_run, Cond.selects RX1 yX1_run yX1_run, Cond.code yX1_run cX1_run 5 none, Cond.methodLink RX1 22 yX3_firstAir, Cond.methodLink RX1 28 yX3_firstWall, Cond.methodLink RX1 31 yX3_isTold, Cond.methodLink RX1 35 yX1_goOn, Cond.instanceMethod yX1_goOn, Cond.selects RX1 yX1_goOn yX1_goOn, Cond.code yX1_goOn cX1_goOn 11 none, Cond.methodLink RX1 39 yX4_skyAt, Cond.instanceMethod yX4_skyAt, Cond.selects RX4 yX4_skyAt yX4_skyAt, Cond.code yX4_skyAt cX4_skyAt 2 (some .int), Cond.methodLink RX1 44 yX3_homeHours, Cond.instanceMethod yX3_homeHours, Cond.selects RX3 yX3_homeHours yX3_homeHours, Cond.code yX3_homeHours cX3_homeHours 1 (some .int), Cond.methodLink RX1 52 yX4_wouldOpen]
def wsL_law_r25 : List Cond := [Cond.instanceMethod yX4_wouldOpen, Cond.selects RX4 yX4_wouldOpen yX4_wouldOpen, Cond.code yX4_wouldOpen cX4_wouldOpen 4 (some .boolean), Cond.methodLink RX1 56 yX4_sunIn, Cond.instanceMethod yX4_sunIn, Cond.selects RX4 yX4_sunIn yX4_sunIn, Cond.code yX4_sunIn cX4_sunIn 3 (some .int), Cond.methodLink RX1 60 yX4_gives, Cond.instanceMethod yX4_gives, Cond.selects RX4 yX4_gives yX4_gives, Cond.code yX4_gives cX4_gives 1 (some .int), Cond.methodLink RX1 63 yX1_throughDoors, Cond.instanceMethod yX1_throughDoors, Cond.selects RX1 yX1_throughDoors yX1_throughDoors, Cond.code yX1_throughDoors cX1_throughDoors 7 (some .int), Cond.methodLink RX1 79 yX3_passes, Cond.methodLink RX1 67 yX3_folk, Cond.methodLink RX1 70 yX3_window, Cond.instanceMethod yX3_window, Cond.selects RX3 yX3_window yX3_window, Cond.code yX3_window cX3_window 1 (some .int), Cond.methodLink RX1 73 yX4_takes, Cond.instanceMethod yX4_takes, Cond.selects RX4 yX4_takes yX4_takes]
def wsL_law_r26 : List Cond := [Cond.code yX4_takes cX4_takes 1 (some .int), Cond.methodLink RX1 76 yX4_leaks, Cond.instanceMethod yX4_leaks, Cond.selects RX4 yX4_leaks yX4_leaks, Cond.code yX4_leaks cX4_leaks 2 (some .int), Cond.methodLink RX10 170 yX1_airBehind, Cond.instanceMethod yX1_airBehind, Cond.selects RX1 yX1_airBehind yX1_airBehind, Cond.code yX1_airBehind cX1_airBehind 3 (some .int), Cond.methodLink RX10 173 yX1_wallBehind, Cond.instanceMethod yX1_wallBehind, Cond.selects RX1 yX1_wallBehind yX1_wallBehind, Cond.code yX1_wallBehind cX1_wallBehind 3 (some .int), Cond.methodLink RX10 176 yX1_openIn, Cond.instanceMethod yX1_openIn, Cond.selects RX1 yX1_openIn yX1_openIn, Cond.code yX1_openIn cX1_openIn 3 (some .int), Cond.methodLink RL 51 yX11_warm, Cond.instanceMethod yX11_warm, Cond.selects RX11 yX11_warm yX11_warm, Cond.code yX11_warm cX11_warm 5 (some .int), Cond.methodLink RX11 253 yX11_asTold, Cond.instanceMethod yX11_asTold, Cond.selects RX11 yX11_asTold yX11_asTold]
def wsL_law_r27 : List Cond := [Cond.code yX11_asTold cX11_asTold 2 none, Cond.fieldLink RX11 232 "HotWeekModel" "worksNow" "I", Cond.methodLink RX11 247 yX11_goWeek, Cond.instanceMethod yX11_goWeek, Cond.selects RX11 yX11_goWeek yX11_goWeek, Cond.code yX11_goWeek cX11_goWeek 2 none, Cond.methodLink RX11 244 yX11_goHour, Cond.instanceMethod yX11_goHour, Cond.selects RX11 yX11_goHour yX11_goHour, Cond.code yX11_goHour cX11_goHour 9 none, Cond.methodLink RX11 235 yX11_sunAt, Cond.instanceMethod yX11_sunAt, Cond.selects RX11 yX11_sunAt yX11_sunAt, Cond.code yX11_sunAt cX11_sunAt 7 (some .int), Cond.fieldLink RX11 229 "HotWeekModel" "works" "I", Cond.methodLink RX11 238 yX11_isOpenAt, Cond.instanceMethod yX11_isOpenAt, Cond.selects RX11 yX11_isOpenAt yX11_isOpenAt, Cond.code yX11_isOpenAt cX11_isOpenAt 4 (some .boolean), Cond.methodLink RX11 241 yX11_leaksOf, Cond.instanceMethod yX11_leaksOf, Cond.selects RX11 yX11_leaksOf yX11_leaksOf, Cond.code yX11_leaksOf cX11_leaksOf 4 (some .int), Cond.methodLink RL 52 yX10_night]
def wsL_law_r28 : List Cond := [Cond.instanceMethod yX10_night, Cond.selects RX10 yX10_night yX10_night, Cond.code yX10_night cX10_night 2 (some .int), Cond.methodLink RX10 179 yX1_nightOfAll, Cond.instanceMethod yX1_nightOfAll, Cond.selects RX1 yX1_nightOfAll yX1_nightOfAll, Cond.code yX1_nightOfAll cX1_nightOfAll 4 (some .int), Cond.methodLink RX1 82 yX1_nightOf, Cond.instanceMethod yX1_nightOf, Cond.selects RX1 yX1_nightOf yX1_nightOf, Cond.code yX1_nightOf cX1_nightOf 5 (some .int), Cond.methodLink RX10 183 yX1_nightOf, Cond.methodLink RL 55 yX11_night, Cond.instanceMethod yX11_night, Cond.selects RX11 yX11_night yX11_night, Cond.code yX11_night cX11_night 3 (some .int), Cond.methodLink RX11 256 yX11_nightOfAll, Cond.instanceMethod yX11_nightOfAll, Cond.selects RX11 yX11_nightOfAll yX11_nightOfAll, Cond.code yX11_nightOfAll cX11_nightOfAll 3 (some .int), Cond.methodLink RX11 250 yX11_nightOf, Cond.instanceMethod yX11_nightOf, Cond.selects RX11 yX11_nightOf yX11_nightOf, Cond.code yX11_nightOf cX11_nightOf 5 (some .int)]
def wsL_law_r29 : List Cond := [Cond.methodLink RL 56 yX10_above, Cond.instanceMethod yX10_above, Cond.selects RX10 yX10_above yX10_above, Cond.code yX10_above cX10_above 3 (some .int), Cond.methodLink RX10 186 yX1_longestAbove, Cond.instanceMethod yX1_longestAbove, Cond.selects RX1 yX1_longestAbove yX1_longestAbove, Cond.code yX1_longestAbove cX1_longestAbove 6 (some .int), Cond.methodLink RX1 85 Lib.Math.max.name, Cond.static Lib.Math.max.name, Cond.initialized "java/lang/Math", Cond.code Lib.Math.max.name Lib.Math.max.code 2 (some .int), Cond.methodLink RL 59 yX11_above, Cond.instanceMethod yX11_above, Cond.selects RX11 yX11_above yX11_above, Cond.code yX11_above cX11_above 6 (some .int), Cond.methodLink RL 60 yX10_costs, Cond.instanceMethod yX10_costs, Cond.selects RX10 yX10_costs yX10_costs, Cond.code yX10_costs cX10_costs 2 (some .int), Cond.constant RX10 201 (10000000), Cond.methodLink RX10 193 yX4_putHabit, Cond.instanceMethod yX4_putHabit, Cond.selects RX4 yX4_putHabit yX4_putHabit]
def wsL_law_r30 : List Cond := [Cond.code yX4_putHabit cX4_putHabit 3 none, Cond.methodLink RL 63 yX11_costs, Cond.instanceMethod yX11_costs, Cond.selects RX11 yX11_costs yX11_costs, Cond.code yX11_costs cX11_costs 3 (some .int), Cond.constant RX11 260 (10000000), Cond.methodLink RL 64 yX10_clock, Cond.instanceMethod yX10_clock, Cond.selects RX10 yX10_clock yX10_clock, Cond.code yX10_clock cX10_clock 2 (some .int), Cond.methodLink RX10 202 yX0_find, Cond.instanceMethod yX0_find, Cond.selects RX0 yX0_find yX0_find, Cond.code yX0_find cX0_find 6 none, Cond.fieldLink RX0 34 "HotWeek$BestClock" "nightByGlass" "I", Cond.methodLink RX0 15 yX4_takeFrom, Cond.methodLink RX0 21 yX4_putAllByGlass, Cond.instanceMethod yX4_putAllByGlass, Cond.selects RX4 yX4_putAllByGlass yX4_putAllByGlass, Cond.code yX4_putAllByGlass cX4_putAllByGlass 2 none, Cond.methodLink RX0 24 yX1_run, Cond.methodLink RX0 30 yX1_nightOfAll, Cond.methodLink RX0 42 yX4_putAllByClock, Cond.instanceMethod yX4_putAllByClock]
def wsL_law_r31 : List Cond := [Cond.selects RX4 yX4_putAllByClock yX4_putAllByClock, Cond.code yX4_putAllByClock cX4_putAllByClock 3 none, Cond.methodLink RX0 46 yX0_keepBetter, Cond.instanceMethod yX0_keepBetter, Cond.selects RX0 yX0_keepBetter yX0_keepBetter, Cond.code yX0_keepBetter cX0_keepBetter 5 none, Cond.fieldLink RX0 50 "HotWeek$BestClock" "nightOfAll" "I", Cond.fieldLink RX0 52 "HotWeek$BestClock" "from" "I", Cond.fieldLink RX0 55 "HotWeek$BestClock" "to" "I", Cond.methodLink RX10 206 yX0_from, Cond.instanceMethod yX0_from, Cond.selects RX0 yX0_from yX0_from, Cond.code yX0_from cX0_from 1 (some .int), Cond.methodLink RX10 209 yX0_to, Cond.instanceMethod yX0_to, Cond.selects RX0 yX0_to yX0_to, Cond.code yX0_to cX0_to 1 (some .int), Cond.methodLink RX10 212 yX0_nightOfAll, Cond.instanceMethod yX0_nightOfAll, Cond.selects RX0 yX0_nightOfAll yX0_nightOfAll, Cond.code yX0_nightOfAll cX0_nightOfAll 1 (some .int), Cond.methodLink RX10 214 yX0_near, Cond.instanceMethod yX0_near, Cond.selects RX0 yX0_near yX0_near]
def wsL_law_r32 : List Cond := [Cond.code yX0_near cX0_near 1 (some .int), Cond.methodLink RL 67 yX11_clock, Cond.instanceMethod yX11_clock, Cond.selects RX11 yX11_clock yX11_clock, Cond.code yX11_clock cX11_clock 6 (some .int), Cond.methodLink RX11 261 yX11_nightByClock, Cond.instanceMethod yX11_nightByClock, Cond.selects RX11 yX11_nightByClock yX11_nightByClock, Cond.code yX11_nightByClock cX11_nightByClock 4 (some .int), Cond.methodLink RX11 264 yX11_nightByGlass, Cond.instanceMethod yX11_nightByGlass, Cond.selects RX11 yX11_nightByGlass yX11_nightByGlass, Cond.code yX11_nightByGlass cX11_nightByGlass 2 (some .int), Cond.methodLink RL 68 yX10_work, Cond.instanceMethod yX10_work, Cond.selects RX10 yX10_work yX10_work, Cond.code yX10_work cX10_work 5 (some .int), Cond.methodLink RX10 217 yX9_isFull, Cond.instanceMethod yX9_isFull, Cond.selects RX9 yX9_isFull yX9_isFull, Cond.code yX9_isFull cX9_isFull 1 (some .boolean), Cond.methodLink RX10 221 yX9_add, Cond.instanceMethod yX9_add, Cond.selects RX9 yX9_add yX9_add]
def wsL_law_r33 : List Cond := [Cond.code yX9_add cX9_add 5 (some .int), Cond.methodLink RX9 28 yX9_isFull, Cond.methodLink RL 72 yX11_work, Cond.instanceMethod yX11_work, Cond.selects RX11 yX11_work yX11_work, Cond.code yX11_work cX11_work 5 (some .int), Cond.methodLink RL 73 yX10_works, Cond.instanceMethod yX10_works, Cond.selects RX10 yX10_works yX10_works, Cond.code yX10_works cX10_works 3 (some .int), Cond.methodLink RX10 224 yX9_findFor, Cond.instanceMethod yX9_findFor, Cond.selects RX9 yX9_findFor yX9_findFor, Cond.code yX9_findFor cX9_findFor 7 none, Cond.fieldLink RX9 59 "HotWeek$Works" "bestNight" "I", Cond.fieldLink RX9 62 "HotWeek$Works" "bestSet" "I", Cond.methodLink RX9 32 yX4_takeFrom, Cond.methodLink RX9 38 yX9_costOf, Cond.instanceMethod yX9_costOf, Cond.selects RX9 yX9_costOf yX9_costOf, Cond.code yX9_costOf cX9_costOf 4 (some .int), Cond.methodLink RX9 42 yX4_takeAllWorksOff, Cond.instanceMethod yX4_takeAllWorksOff, Cond.selects RX4 yX4_takeAllWorksOff yX4_takeAllWorksOff]
def wsL_law_r34 : List Cond := [Cond.code yX4_takeAllWorksOff cX4_takeAllWorksOff 3 none, Cond.methodLink RX9 45 yX9_put, Cond.instanceMethod yX9_put, Cond.selects RX9 yX9_put yX9_put, Cond.code yX9_put cX9_put 4 none, Cond.methodLink RX9 69 yX4_putWork, Cond.instanceMethod yX4_putWork, Cond.selects RX4 yX4_putWork yX4_putWork, Cond.code yX4_putWork cX4_putWork 5 none, Cond.methodLink RX4 65 Lib.Math.max.name, Cond.methodLink RX9 49 yX1_run, Cond.methodLink RX9 55 yX1_nightOfAll, Cond.methodLink RX10 228 yX9_bestSet, Cond.instanceMethod yX9_bestSet, Cond.selects RX9 yX9_bestSet yX9_bestSet, Cond.code yX9_bestSet cX9_bestSet 1 (some .int), Cond.methodLink RX10 231 yX9_bestNight, Cond.instanceMethod yX9_bestNight, Cond.selects RX9 yX9_bestNight yX9_bestNight, Cond.code yX9_bestNight cX9_bestNight 1 (some .int), Cond.methodLink RL 76 yX11_works, Cond.instanceMethod yX11_works, Cond.selects RX11 yX11_works yX11_works, Cond.code yX11_works cX11_works 7 (some .int)]
def wsL_law_r35 : List Cond := [Cond.methodLink RX11 267 yX11_costOf, Cond.instanceMethod yX11_costOf, Cond.selects RX11 yX11_costOf yX11_costOf, Cond.code yX11_costOf cX11_costOf 4 (some .int), Cond.methodLink RL 77 yX10_read, Cond.instanceMethod yX10_read, Cond.selects RX10 yX10_read yX10_read, Cond.code yX10_read cX10_read 4 (some .int), Cond.methodLink RX10 234 yX2_isFull, Cond.instanceMethod yX2_isFull, Cond.selects RX2 yX2_isFull yX2_isFull, Cond.code yX2_isFull cX2_isFull 1 (some .boolean), Cond.methodLink RX10 235 yX2_add, Cond.instanceMethod yX2_add, Cond.selects RX2 yX2_add yX2_add, Cond.code yX2_add cX2_add 4 (some .int), Cond.methodLink RX2 28 yX2_isFull, Cond.methodLink RL 80 yX11_read, Cond.instanceMethod yX11_read, Cond.selects RX11 yX11_read yX11_read, Cond.code yX11_read cX11_read 4 (some .int), Cond.fieldLink RX11 270 "HotWeekModel" "rows" "I", Cond.methodLink RL 81 yX10_learnt, Cond.instanceMethod yX10_learnt]
def wsL_law_r36 : List Cond := [Cond.selects RX10 yX10_learnt yX10_learnt, Cond.code yX10_learnt cX10_learnt 3 (some .int), Cond.methodLink RX10 238 yX2_learn, Cond.instanceMethod yX2_learn, Cond.selects RX2 yX2_learn yX2_learn, Cond.code yX2_learn cX2_learn 7 none, Cond.methodLink RX2 32 yX4_takeFrom, Cond.methodLink RX2 38 yX4_putLaw, Cond.methodLink RX2 42 yX1_run, Cond.methodLink RX2 48 yX2_allHold, Cond.instanceMethod yX2_allHold, Cond.selects RX2 yX2_allHold yX2_allHold, Cond.code yX2_allHold cX2_allHold 5 (some .boolean), Cond.methodLink RX2 65 Lib.Math.abs.name, Cond.static Lib.Math.abs.name, Cond.code Lib.Math.abs.name Lib.Math.abs.code 1 (some .int), Cond.methodLink RX2 55 yX3_isTold, Cond.methodLink RX2 61 yX1_airBehind, Cond.methodLink RX2 52 yX2_keep, Cond.instanceMethod yX2_keep, Cond.selects RX2 yX2_keep yX2_keep, Cond.code yX2_keep cX2_keep 4 none, Cond.fieldLink RX2 71 "HotWeek$Glasses" "leastGives" "I", Cond.methodLink RX2 74 Lib.Math.min.name]
def wsL_law_r37 : List Cond := [Cond.static Lib.Math.min.name, Cond.code Lib.Math.min.name Lib.Math.min.code 2 (some .int), Cond.fieldLink RX2 77 "HotWeek$Glasses" "mostGives" "I", Cond.methodLink RX2 80 Lib.Math.max.name, Cond.fieldLink RX2 83 "HotWeek$Glasses" "leastTakes" "I", Cond.fieldLink RX2 86 "HotWeek$Glasses" "mostTakes" "I", Cond.methodLink RX10 241 yX2_laws, Cond.instanceMethod yX2_laws, Cond.selects RX2 yX2_laws yX2_laws, Cond.code yX2_laws cX2_laws 1 (some .int), Cond.methodLink RX10 244 yX2_bound, Cond.instanceMethod yX2_bound, Cond.selects RX2 yX2_bound yX2_bound, Cond.code yX2_bound cX2_bound 2 (some .int), Cond.methodLink RL 84 yX11_learnt, Cond.instanceMethod yX11_learnt, Cond.selects RX11 yX11_learnt yX11_learnt, Cond.code yX11_learnt cX11_learnt 7 (some .int), Cond.methodLink RX11 273 yX11_doHold, Cond.instanceMethod yX11_doHold, Cond.selects RX11 yX11_doHold yX11_doHold, Cond.code yX11_doHold cX11_doHold 4 (some .boolean), Cond.methodLink RL 85 yX10_flat, Cond.instanceMethod yX10_flat]
def wsL_law_r38 : List Cond := [Cond.selects RX10 yX10_flat yX10_flat, Cond.code yX10_flat cX10_flat 4 (some .int), Cond.methodLink RX10 247 yX6_tell, Cond.instanceMethod yX6_tell, Cond.selects RX6 yX6_tell yX6_tell, Cond.code yX6_tell cX6_tell 4 none, Cond.methodLink RL 88 yX11_flat, Cond.instanceMethod yX11_flat, Cond.selects RX11 yX11_flat yX11_flat, Cond.code yX11_flat cX11_flat 4 (some .int), Cond.methodLink RL 89 yX10_ring, Cond.instanceMethod yX10_ring, Cond.selects RX10 yX10_ring yX10_ring, Cond.code yX10_ring cX10_ring 2 (some .int), Cond.methodLink RX10 250 yX6_weigh, Cond.instanceMethod yX6_weigh, Cond.selects RX6 yX6_weigh yX6_weigh, Cond.code yX6_weigh cX6_weigh 3 none, Cond.methodLink RX6 21 yX6_toldSet, Cond.instanceMethod yX6_toldSet, Cond.selects RX6 yX6_toldSet yX6_toldSet, Cond.code yX6_toldSet cX6_toldSet 3 (some .int), Cond.methodLink RX6 31 yX6_firstOf, Cond.instanceMethod yX6_firstOf]
def wsL_law_r39 : List Cond := [Cond.selects RX6 yX6_firstOf yX6_firstOf, Cond.code yX6_firstOf cX6_firstOf 5 (some .int), Cond.methodLink RX6 35 yX6_lostBy, Cond.instanceMethod yX6_lostBy, Cond.selects RX6 yX6_lostBy yX6_lostBy, Cond.code yX6_lostBy cX6_lostBy 6 (some .int), Cond.methodLink RX6 25 yJ6_bitCount_0f7a4, Cond.static yJ6_bitCount_0f7a4, Cond.initialized RJ6, Cond.code yJ6_bitCount_0f7a4 cJ6_bitCount_0f7a4 1 (some .int), Cond.constant RJ6 265 (1431655765), Cond.constant RJ6 266 (858993459), Cond.constant RJ6 267 (252645135), Cond.methodLink RX10 253 yX6_lost, Cond.instanceMethod yX6_lost, Cond.selects RX6 yX6_lost yX6_lost, Cond.code yX6_lost cX6_lost 1 (some .int), Cond.methodLink RX10 256 yX6_flatAt, Cond.instanceMethod yX6_flatAt, Cond.selects RX6 yX6_flatAt yX6_flatAt, Cond.code yX6_flatAt cX6_flatAt 6 (some .int), Cond.methodLink RL 92 yX11_ring, Cond.instanceMethod yX11_ring, Cond.selects RX11 yX11_ring yX11_ring]
def wsL_law_r40 : List Cond := [Cond.code yX11_ring cX11_ring 7 (some .int), Cond.methodLink RX11 282 yX11_toldFlats, Cond.instanceMethod yX11_toldFlats, Cond.selects RX11 yX11_toldFlats yX11_toldFlats, Cond.code yX11_toldFlats cX11_toldFlats 3 (some .int), Cond.methodLink RX11 285 yX11_layRest, Cond.instanceMethod yX11_layRest, Cond.selects RX11 yX11_layRest yX11_layRest, Cond.code yX11_layRest cX11_layRest 6 none, Cond.methodLink RX11 276 yX11_bits, Cond.static yX11_bits, Cond.code yX11_bits cX11_bits 3 (some .int), Cond.methodLink RX11 279 yX11_lostBy, Cond.instanceMethod yX11_lostBy, Cond.selects RX11 yX11_lostBy yX11_lostBy, Cond.code yX11_lostBy cX11_lostBy 3 (some .int), Cond.methodLink RL 93 yX10_street, Cond.instanceMethod yX10_street, Cond.selects RX10 yX10_street yX10_street, Cond.code yX10_street cX10_street 6 (some .int), Cond.constant RX10 269 (100000), Cond.methodLink RX10 259 yX7_look, Cond.instanceMethod yX7_look, Cond.selects RX7 yX7_look yX7_look]
def wsL_law_r41 : List Cond := [Cond.code yX7_look cX7_look 7 none, Cond.fieldLink RX7 15 "HotWeek$Street" "better" "I", Cond.fieldLink RX7 18 "HotWeek$Street" "worse" "I", Cond.fieldLink RX7 21 "HotWeek$Street" "price" "I", Cond.fieldLink RX7 24 "HotWeek$Street" "rests" "I", Cond.fieldLink RX7 27 "HotWeek$Street" "bestRest" "I", Cond.fieldLink RX7 34 "HotWeek$Street" "mostByAny" "I", Cond.methodLink RX7 30 yX7_allHave, Cond.instanceMethod yX7_allHave, Cond.selects RX7 yX7_allHave yX7_allHave, Cond.code yX7_allHave cX7_allHave 4 (some .int), Cond.methodLink RX7 52 yX7_has, Cond.instanceMethod yX7_has, Cond.selects RX7 yX7_has yX7_has, Cond.code yX7_has cX7_has 5 (some .int), Cond.methodLink RX7 37 yX7_isRest, Cond.instanceMethod yX7_isRest, Cond.selects RX7 yX7_isRest yX7_isRest, Cond.code yX7_isRest cX7_isRest 4 (some .boolean), Cond.methodLink RX7 41 yX7_keepRest, Cond.instanceMethod yX7_keepRest, Cond.selects RX7 yX7_keepRest yX7_keepRest, Cond.code yX7_keepRest cX7_keepRest 3 none, Cond.fieldLink RX7 45 "HotWeek$Street" "mostByRest" "I"]
def wsL_law_r42 : List Cond := [Cond.methodLink RX10 263 yX7_rests, Cond.instanceMethod yX7_rests, Cond.selects RX7 yX7_rests yX7_rests, Cond.code yX7_rests cX7_rests 1 (some .int), Cond.methodLink RX10 266 yX7_bestRest, Cond.instanceMethod yX7_bestRest, Cond.selects RX7 yX7_bestRest yX7_bestRest, Cond.code yX7_bestRest cX7_bestRest 1 (some .int), Cond.methodLink RX10 270 yX7_mostByRest, Cond.instanceMethod yX7_mostByRest, Cond.selects RX7 yX7_mostByRest yX7_mostByRest, Cond.code yX7_mostByRest cX7_mostByRest 1 (some .int), Cond.methodLink RX10 273 yX7_mostByAny, Cond.instanceMethod yX7_mostByAny, Cond.selects RX7 yX7_mostByAny yX7_mostByAny, Cond.code yX7_mostByAny cX7_mostByAny 1 (some .int), Cond.methodLink RL 97 yX11_street, Cond.instanceMethod yX11_street, Cond.selects RX11 yX11_street yX11_street, Cond.code yX11_street cX11_street 16 (some .int), Cond.constant RX11 292 (100000), Cond.methodLink RX11 288 yX11_hasBy, Cond.static yX11_hasBy, Cond.code yX11_hasBy cX11_hasBy 8 (some .int)]
def wsL_law_r43 : List Cond := [Cond.methodLink RL 98 yX10_count, Cond.instanceMethod yX10_count, Cond.selects RX10 yX10_count yX10_count, Cond.code yX10_count cX10_count 2 (some .int), Cond.methodLink RX10 276 yX3_toldRooms, Cond.instanceMethod yX3_toldRooms, Cond.selects RX3 yX3_toldRooms yX3_toldRooms, Cond.code yX3_toldRooms cX3_toldRooms 3 (some .int), Cond.methodLink RX10 279 yX9_size, Cond.instanceMethod yX9_size, Cond.selects RX9 yX9_size yX9_size, Cond.code yX9_size cX9_size 1 (some .int), Cond.methodLink RX10 282 yX2_size, Cond.instanceMethod yX2_size, Cond.selects RX2 yX2_size yX2_size, Cond.code yX2_size cX2_size 1 (some .int), Cond.methodLink RX10 283 yX6_toldFlats, Cond.instanceMethod yX6_toldFlats, Cond.selects RX6 yX6_toldFlats yX6_toldFlats, Cond.code yX6_toldFlats cX6_toldFlats 1 (some .int), Cond.methodLink RX10 286 yX3_homeHours, Cond.methodLink RL 101 yX11_count, Cond.instanceMethod yX11_count, Cond.selects RX11 yX11_count yX11_count]
def wsL_law_r44 : List Cond := [Cond.code yX11_count cX11_count 2 (some .int)]
def wsL_law : List Cond := (wsL_law_r1 ++ (wsL_law_r2 ++ (wsL_law_r3 ++ (wsL_law_r4 ++ (wsL_law_r5 ++ (wsL_law_r6 ++ (wsL_law_r7 ++ (wsL_law_r8 ++ (wsL_law_r9 ++ (wsL_law_r10 ++ (wsL_law_r11 ++ (wsL_law_r12 ++ (wsL_law_r13 ++ (wsL_law_r14 ++ (wsL_law_r15 ++ (wsL_law_r16 ++ (wsL_law_r17 ++ (wsL_law_r18 ++ (wsL_law_r19 ++ (wsL_law_r20 ++ (wsL_law_r21 ++ (wsL_law_r22 ++ (wsL_law_r23 ++ (wsL_law_r24 ++ (wsL_law_r25 ++ (wsL_law_r26 ++ (wsL_law_r27 ++ (wsL_law_r28 ++ (wsL_law_r29 ++ (wsL_law_r30 ++ (wsL_law_r31 ++ (wsL_law_r32 ++ (wsL_law_r33 ++ (wsL_law_r34 ++ (wsL_law_r35 ++ (wsL_law_r36 ++ (wsL_law_r37 ++ (wsL_law_r38 ++ (wsL_law_r39 ++ (wsL_law_r40 ++ (wsL_law_r41 ++ (wsL_law_r42 ++ (wsL_law_r43 ++ wsL_law_r44))))))))))))))))))))))))))))))))))))))))))) ++ wsX100 ++ wsX110 ++ wsX80 ++ wsX50 ++ wsX30 ++ wsX40 ++ wsX10 ++ wsX00 ++ wsX90 ++ wsX20 ++ wsX60 ++ wsX70 ++ ([] : List Cond)
theorem in_p {big : List Cond} (ws : List Cond) (ps : List Nat) (h : ps.map (fun i => big[i]?) = ws.map some) : ∀ w ∈ ws, w ∈ big := by
  intro w hw
  have h1 : some w ∈ ws.map some := List.mem_map.mpr ⟨w, hw, rfl⟩
  rw [← h] at h1
  obtain ⟨i, -, hi⟩ := List.mem_map.mp h1
  exact List.mem_of_getElem? hi
theorem wsL_in_r1 : ∀ w ∈ wsL_law_r1, w ∈ lw_tbl := in_p _ [64, 65, 46, 1002, 1003, 57, 1368, 66, 67, 68, 69, 70, 71, 72, 73, 47, 348, 86, 87, 48, 349, 107, 108, 49] (by decide +kernel)
theorem wsL_in_r2 : ∀ w ∈ wsL_law_r2, w ∈ lw_tbl := in_p _ [350, 171, 172, 50, 351, 200, 201, 51, 352, 353, 217, 218, 52, 354, 239, 240, 53, 355, 267, 268, 54, 356, 301, 302] (by decide +kernel)
theorem wsL_in_r3 : ∀ w ∈ wsL_law_r3, w ∈ lw_tbl := in_p _ [55, 357, 317, 318, 56, 358, 359, 74, 75, 76, 77, 85, 78, 79, 88, 89, 90, 91, 94, 92, 95, 96, 97, 109] (by decide +kernel)
theorem wsL_in_r4 : ∀ w ∈ wsL_law_r4, w ∈ lw_tbl := in_p _ [110, 111, 112, 170, 115, 116, 117, 118, 119, 120, 121, 122, 113, 123, 114, 124, 125, 126, 127, 128, 129, 130, 131, 132] (by decide +kernel)
theorem wsL_in_r5 : ∀ w ∈ wsL_law_r5, w ∈ lw_tbl := in_p _ [173, 174, 175, 176, 178, 179, 180, 177, 181, 182, 183, 184, 202, 203, 204, 205, 206, 207, 208, 209, 219, 220, 221, 222] (by decide +kernel)
theorem wsL_in_r6 : ∀ w ∈ wsL_law_r6, w ∈ lw_tbl := in_p _ [223, 241, 242, 243, 244, 245, 246, 247, 248, 249, 269, 270, 271, 272, 273, 274, 275, 276, 277, 303, 304, 305, 306, 307] (by decide +kernel)
theorem wsL_in_r7 : ∀ w ∈ wsL_law_r7, w ∈ lw_tbl := in_p _ [308, 309, 319, 320, 321, 322, 323, 1004, 1005, 1006, 1007, 1010, 1011, 1012, 1013, 1014, 1015, 1016, 1017, 1018, 1019, 1020, 1021, 1022] (by decide +kernel)
theorem wsL_in_r8 : ∀ w ∈ wsL_law_r8, w ∈ lw_tbl := in_p _ [1008, 1023, 1025, 1033, 1034, 1035, 1036, 1037, 1038, 1039, 1040, 1042, 1043, 1045, 1046, 1047, 1048, 1050, 1051, 1052, 1053, 1054, 1055, 1056] (by decide +kernel)
theorem wsL_in_r9 : ∀ w ∈ wsL_law_r9, w ∈ lw_tbl := in_p _ [385, 386, 387, 388, 396, 389, 390, 391, 392, 393, 394, 395, 397, 398, 399, 400, 401, 402, 403, 404, 1154, 1155, 1156, 1157] (by decide +kernel)
theorem wsL_in_r10 : ∀ w ∈ wsL_law_r10, w ∈ lw_tbl := in_p _ [1024, 1161, 1158, 1159, 1160, 405, 406, 407, 408, 409, 410, 411, 412, 1162, 1163, 1164, 1165, 413, 414, 415, 416, 417, 418, 419] (by decide +kernel)
theorem wsL_in_r11 : ∀ w ∈ wsL_law_r11, w ∈ lw_tbl := in_p _ [420, 421, 423, 0, 424, 425, 426, 427, 428, 429, 430, 431, 432, 433, 434, 435, 436, 437, 438, 439, 440, 441, 442, 443] (by decide +kernel)
theorem wsL_in_r12 : ∀ w ∈ wsL_law_r12, w ∈ lw_tbl := in_p _ [444, 445, 456, 457, 458, 459, 460, 461, 462, 58, 463, 1369, 464, 465, 466, 467, 468, 1370, 470, 471, 472, 473, 474, 475] (by decide +kernel)
theorem wsL_in_r13 : ∀ w ∈ wsL_law_r13, w ∈ lw_tbl := in_p _ [476, 477, 478, 479, 59, 480, 481, 482, 483, 484, 486, 487, 60, 488, 489, 490, 61, 491, 492, 493, 494, 495, 496, 497] (by decide +kernel)
theorem wsL_in_r14 : ∀ w ∈ wsL_law_r14, w ∈ lw_tbl := in_p _ [498, 499, 500, 501, 502, 504, 506, 508, 510, 1, 511, 512, 514, 515, 516, 517, 519, 521, 2, 522, 523, 524, 1166, 1167] (by decide +kernel)
theorem wsL_in_r15 : ∀ w ∈ wsL_law_r15, w ∈ lw_tbl := in_p _ [1168, 1169, 1031, 1170, 1172, 20, 1173, 1026, 1032, 1028, 1187, 1182, 1174, 1176, 21, 1177, 1188, 1189, 1190, 1191, 1192, 1193, 1194, 1195] (by decide +kernel)
theorem wsL_in_r16 : ∀ w ∈ wsL_law_r16, w ∈ lw_tbl := in_p _ [1196, 1197, 1178, 1180, 22, 1181, 1027, 1029, 1030, 1183, 1184, 1185, 1186, 1198, 1200, 23, 1201, 1202, 1204, 24, 1205, 1206, 1208, 25] (by decide +kernel)
theorem wsL_in_r17 : ∀ w ∈ wsL_law_r17, w ∈ lw_tbl := in_p _ [1209, 526, 527, 528, 529, 530, 531, 532, 533, 534, 535, 536, 537, 538, 539, 540, 541, 542, 543, 544, 545, 546, 548, 3] (by decide +kernel)
theorem wsL_in_r18 : ∀ w ∈ wsL_law_r18, w ∈ lw_tbl := in_p _ [549, 551, 552, 553, 554, 555, 556, 1210, 1211, 1212, 1213, 1214, 1216, 26, 1217, 1009, 1218, 1220, 27, 1221, 1222, 1223, 1224, 557] (by decide +kernel)
theorem wsL_in_r19 : ∀ w ∈ wsL_law_r19, w ∈ lw_tbl := in_p _ [558, 559, 560, 561, 562, 563, 564, 565, 566, 567, 568, 569, 570, 571, 572, 573, 574, 575, 576, 577, 578, 579, 580, 581] (by decide +kernel)
theorem wsL_in_r20 : ∀ w ∈ wsL_law_r20, w ∈ lw_tbl := in_p _ [582, 583, 584, 585, 586, 587, 588, 589, 590, 591, 592, 1225, 1226, 1227, 1228, 1229, 1231, 28, 1232, 1233, 1234, 1235, 593, 594] (by decide +kernel)
theorem wsL_in_r21 : ∀ w ∈ wsL_law_r21, w ∈ lw_tbl := in_p _ [595, 596, 597, 598, 599, 600, 601, 602, 603, 1236, 1237, 1238, 1239, 604, 605, 606, 607, 608, 609, 610, 611, 612, 613, 614] (by decide +kernel)
theorem wsL_in_r22 : ∀ w ∈ wsL_law_r22, w ∈ lw_tbl := in_p _ [1240, 1241, 1242, 1243, 1244, 1246, 29, 1247, 615, 616, 617, 618, 619, 621, 4, 622, 623, 624, 625, 626, 627, 628, 629, 630] (by decide +kernel)
theorem wsL_in_r23 : ∀ w ∈ wsL_law_r23, w ∈ lw_tbl := in_p _ [632, 5, 633, 634, 635, 636, 637, 638, 639, 640, 641, 642, 643, 644, 647, 648, 649, 650, 651, 652, 653, 654, 655, 656] (by decide +kernel)
theorem wsL_in_r24 : ∀ w ∈ wsL_law_r24, w ∈ lw_tbl := in_p _ [657, 658, 659, 660, 661, 662, 663, 664, 665, 666, 667, 668, 670, 6, 671, 672, 673, 674, 675, 676, 677, 678, 679, 681] (by decide +kernel)
theorem wsL_in_r25 : ∀ w ∈ wsL_law_r25, w ∈ lw_tbl := in_p _ [682, 683, 684, 686, 687, 688, 689, 690, 691, 692, 693, 694, 696, 7, 697, 698, 699, 700, 701, 702, 703, 704, 705, 706] (by decide +kernel)
theorem wsL_in_r26 : ∀ w ∈ wsL_law_r26, w ∈ lw_tbl := in_p _ [707, 708, 709, 710, 711, 712, 713, 714, 715, 716, 717, 718, 719, 720, 721, 722, 723, 1248, 1249, 1250, 1251, 1252, 1254, 30] (by decide +kernel)
theorem wsL_in_r27 : ∀ w ∈ wsL_law_r27, w ∈ lw_tbl := in_p _ [1255, 1041, 1256, 1258, 31, 1259, 1260, 1262, 32, 1263, 1264, 1266, 33, 1267, 1044, 1268, 1270, 34, 1271, 1272, 1274, 35, 1275, 724] (by decide +kernel)
theorem wsL_in_r28 : ∀ w ∈ wsL_law_r28, w ∈ lw_tbl := in_p _ [725, 726, 727, 728, 729, 730, 731, 732, 733, 734, 735, 736, 1276, 1277, 1278, 1279, 1280, 1282, 36, 1283, 1284, 1286, 37, 1287] (by decide +kernel)
theorem wsL_in_r29 : ∀ w ∈ wsL_law_r29, w ∈ lw_tbl := in_p _ [737, 738, 739, 740, 741, 742, 743, 744, 745, 746, 62, 747, 1288, 1289, 1290, 1291, 748, 749, 750, 751, 756, 752, 753, 754] (by decide +kernel)
theorem wsL_in_r30 : ∀ w ∈ wsL_law_r30, w ∈ lw_tbl := in_p _ [755, 1292, 1293, 1294, 1295, 1296, 757, 758, 759, 760, 761, 762, 763, 764, 227, 765, 766, 767, 768, 769, 770, 771, 773, 774] (by decide +kernel)
theorem wsL_in_r31 : ∀ w ∈ wsL_law_r31, w ∈ lw_tbl := in_p _ [775, 776, 777, 779, 8, 780, 226, 224, 225, 781, 782, 783, 784, 785, 786, 787, 788, 789, 790, 791, 792, 793, 794, 795] (by decide +kernel)
theorem wsL_in_r32 : ∀ w ∈ wsL_law_r32, w ∈ lw_tbl := in_p _ [796, 1297, 1298, 1299, 1300, 1301, 1303, 38, 1304, 1305, 1307, 39, 1308, 797, 798, 799, 800, 801, 802, 803, 804, 805, 806, 807] (by decide +kernel)
theorem wsL_in_r33 : ∀ w ∈ wsL_law_r33, w ∈ lw_tbl := in_p _ [808, 809, 1309, 1310, 1311, 1312, 810, 811, 812, 813, 814, 815, 816, 817, 251, 250, 818, 819, 821, 9, 822, 824, 825, 826] (by decide +kernel)
theorem wsL_in_r34 : ∀ w ∈ wsL_law_r34, w ∈ lw_tbl := in_p _ [827, 828, 830, 10, 831, 832, 833, 834, 835, 836, 837, 838, 839, 840, 841, 842, 843, 844, 845, 846, 1313, 1314, 1315, 1316] (by decide +kernel)
theorem wsL_in_r35 : ∀ w ∈ wsL_law_r35, w ∈ lw_tbl := in_p _ [1317, 1319, 40, 1320, 847, 848, 849, 850, 851, 852, 853, 854, 855, 856, 857, 858, 859, 1321, 1322, 1323, 1324, 1049, 860, 861] (by decide +kernel)
theorem wsL_in_r36 : ∀ w ∈ wsL_law_r36, w ∈ lw_tbl := in_p _ [862, 863, 864, 865, 866, 867, 868, 869, 870, 871, 873, 11, 874, 877, 878, 879, 875, 876, 880, 882, 12, 883, 278, 884] (by decide +kernel)
theorem wsL_in_r37 : ∀ w ∈ wsL_law_r37, w ∈ lw_tbl := in_p _ [885, 886, 279, 887, 280, 281, 888, 889, 890, 891, 892, 893, 894, 895, 1325, 1326, 1327, 1328, 1329, 1331, 41, 1332, 896, 897] (by decide +kernel)
theorem wsL_in_r38 : ∀ w ∈ wsL_law_r38, w ∈ lw_tbl := in_p _ [898, 899, 900, 901, 902, 903, 1333, 1334, 1335, 1336, 904, 905, 906, 907, 908, 909, 910, 911, 912, 914, 13, 915, 916, 918] (by decide +kernel)
theorem wsL_in_r39 : ∀ w ∈ wsL_law_r39, w ∈ lw_tbl := in_p _ [14, 919, 921, 923, 15, 924, 925, 926, 63, 927, 928, 929, 930, 931, 932, 933, 934, 935, 936, 937, 938, 1337, 1338, 1339] (by decide +kernel)
theorem wsL_in_r40 : ∀ w ∈ wsL_law_r40, w ∈ lw_tbl := in_p _ [1340, 1341, 1343, 42, 1344, 1345, 1347, 43, 1348, 1349, 1350, 1351, 1352, 1354, 44, 1355, 939, 940, 941, 942, 972, 943, 944, 945] (by decide +kernel)
theorem wsL_in_r41 : ∀ w ∈ wsL_law_r41, w ∈ lw_tbl := in_p _ [946, 324, 325, 326, 327, 328, 330, 947, 949, 16, 950, 952, 954, 17, 955, 956, 958, 18, 959, 960, 962, 19, 963, 329] (by decide +kernel)
theorem wsL_in_r42 : ∀ w ∈ wsL_law_r42, w ∈ lw_tbl := in_p _ [964, 965, 966, 967, 968, 969, 970, 971, 973, 974, 975, 976, 977, 978, 979, 980, 1356, 1357, 1358, 1359, 1363, 1360, 1361, 1362] (by decide +kernel)
theorem wsL_in_r43 : ∀ w ∈ wsL_law_r43, w ∈ lw_tbl := in_p _ [981, 982, 983, 984, 985, 986, 987, 988, 989, 990, 991, 992, 993, 994, 995, 996, 997, 998, 999, 1000, 1001, 1364, 1365, 1366] (by decide +kernel)
theorem wsL_in_r44 : ∀ w ∈ wsL_law_r44, w ∈ lw_tbl := in_p _ [1367] (by decide +kernel)
theorem wsL_in_wsX100 : ∀ w ∈ wsX100, w ∈ lw_tbl := in_p _ [360, 362, 364, 366, 368, 370, 372, 374, 376, 378, 380, 382] (by decide +kernel)
theorem wsL_in_wsX110 : ∀ w ∈ wsX110, w ∈ lw_tbl := in_p _ [1057, 1059, 1061, 1063, 1065, 1067, 1069, 1071, 1073, 1075, 1077, 1079, 1081, 1083, 1085, 1087, 1089, 1091, 1093, 1095, 1097, 1099, 1101, 1103, 1105, 1107, 1109, 1111, 1113, 1115, 1117, 1119, 1121, 1123, 1125, 1127, 1129, 1131, 1133, 1135, 1137, 1139, 1141, 1143, 1145, 1147, 1149, 1151] (by decide +kernel)
theorem wsL_in_wsX80 : ∀ w ∈ wsX80, w ∈ lw_tbl := in_p _ [80, 82] (by decide +kernel)
theorem wsL_in_wsX50 : ∀ w ∈ wsX50, w ∈ lw_tbl := in_p _ [98, 100, 102, 104] (by decide +kernel)
theorem wsL_in_wsX30 : ∀ w ∈ wsX30, w ∈ lw_tbl := in_p _ [133, 135, 137, 139, 141, 143, 145, 147, 149, 151, 153, 155, 157, 159, 161, 163, 165, 167] (by decide +kernel)
theorem wsL_in_wsX40 : ∀ w ∈ wsX40, w ∈ lw_tbl := in_p _ [185, 187, 189, 191, 193, 195, 197] (by decide +kernel)
theorem wsL_in_wsX10 : ∀ w ∈ wsX10, w ∈ lw_tbl := in_p _ [210, 212, 214] (by decide +kernel)
theorem wsL_in_wsX00 : ∀ w ∈ wsX00, w ∈ lw_tbl := in_p _ [228, 230, 232, 234, 236] (by decide +kernel)
theorem wsL_in_wsX90 : ∀ w ∈ wsX90, w ∈ lw_tbl := in_p _ [252, 254, 256, 258, 260, 262, 264] (by decide +kernel)
theorem wsL_in_wsX20 : ∀ w ∈ wsX20, w ∈ lw_tbl := in_p _ [282, 284, 286, 288, 290, 292, 294, 296, 298] (by decide +kernel)
theorem wsL_in_wsX60 : ∀ w ∈ wsX60, w ∈ lw_tbl := in_p _ [310, 312, 314] (by decide +kernel)
theorem wsL_in_wsX70 : ∀ w ∈ wsX70, w ∈ lw_tbl := in_p _ [331, 333, 335, 337, 339, 341, 343, 345] (by decide +kernel)
theorem wsL_law_in : ∀ w ∈ wsL_law, w ∈ lw_tbl := List.forall_mem_append.mpr ⟨List.forall_mem_append.mpr ⟨List.forall_mem_append.mpr ⟨List.forall_mem_append.mpr ⟨List.forall_mem_append.mpr ⟨List.forall_mem_append.mpr ⟨List.forall_mem_append.mpr ⟨List.forall_mem_append.mpr ⟨List.forall_mem_append.mpr ⟨List.forall_mem_append.mpr ⟨List.forall_mem_append.mpr ⟨List.forall_mem_append.mpr ⟨List.forall_mem_append.mpr ⟨List.forall_mem_append.mpr ⟨wsL_in_r1, List.forall_mem_append.mpr ⟨wsL_in_r2, List.forall_mem_append.mpr ⟨wsL_in_r3, List.forall_mem_append.mpr ⟨wsL_in_r4, List.forall_mem_append.mpr ⟨wsL_in_r5, List.forall_mem_append.mpr ⟨wsL_in_r6, List.forall_mem_append.mpr ⟨wsL_in_r7, List.forall_mem_append.mpr ⟨wsL_in_r8, List.forall_mem_append.mpr ⟨wsL_in_r9, List.forall_mem_append.mpr ⟨wsL_in_r10, List.forall_mem_append.mpr ⟨wsL_in_r11, List.forall_mem_append.mpr ⟨wsL_in_r12, List.forall_mem_append.mpr ⟨wsL_in_r13, List.forall_mem_append.mpr ⟨wsL_in_r14, List.forall_mem_append.mpr ⟨wsL_in_r15, List.forall_mem_append.mpr ⟨wsL_in_r16, List.forall_mem_append.mpr ⟨wsL_in_r17, List.forall_mem_append.mpr ⟨wsL_in_r18, List.forall_mem_append.mpr ⟨wsL_in_r19, List.forall_mem_append.mpr ⟨wsL_in_r20, List.forall_mem_append.mpr ⟨wsL_in_r21, List.forall_mem_append.mpr ⟨wsL_in_r22, List.forall_mem_append.mpr ⟨wsL_in_r23, List.forall_mem_append.mpr ⟨wsL_in_r24, List.forall_mem_append.mpr ⟨wsL_in_r25, List.forall_mem_append.mpr ⟨wsL_in_r26, List.forall_mem_append.mpr ⟨wsL_in_r27, List.forall_mem_append.mpr ⟨wsL_in_r28, List.forall_mem_append.mpr ⟨wsL_in_r29, List.forall_mem_append.mpr ⟨wsL_in_r30, List.forall_mem_append.mpr ⟨wsL_in_r31, List.forall_mem_append.mpr ⟨wsL_in_r32, List.forall_mem_append.mpr ⟨wsL_in_r33, List.forall_mem_append.mpr ⟨wsL_in_r34, List.forall_mem_append.mpr ⟨wsL_in_r35, List.forall_mem_append.mpr ⟨wsL_in_r36, List.forall_mem_append.mpr ⟨wsL_in_r37, List.forall_mem_append.mpr ⟨wsL_in_r38, List.forall_mem_append.mpr ⟨wsL_in_r39, List.forall_mem_append.mpr ⟨wsL_in_r40, List.forall_mem_append.mpr ⟨wsL_in_r41, List.forall_mem_append.mpr ⟨wsL_in_r42, List.forall_mem_append.mpr ⟨wsL_in_r43, wsL_in_r44⟩⟩⟩⟩⟩⟩⟩⟩⟩⟩⟩⟩⟩⟩⟩⟩⟩⟩⟩⟩⟩⟩⟩⟩⟩⟩⟩⟩⟩⟩⟩⟩⟩⟩⟩⟩⟩⟩⟩⟩⟩⟩⟩, wsL_in_wsX100⟩, wsL_in_wsX110⟩, wsL_in_wsX80⟩, wsL_in_wsX50⟩, wsL_in_wsX30⟩, wsL_in_wsX40⟩, wsL_in_wsX10⟩, wsL_in_wsX00⟩, wsL_in_wsX90⟩, wsL_in_wsX20⟩, wsL_in_wsX60⟩, wsL_in_wsX70⟩, fun _ h => absurd h List.not_mem_nil⟩
theorem inlX0 : ∀ w ∈ wsX00, w ∈ wsL_law := fun _ h => List.mem_append_left _ (List.mem_append_left _ (List.mem_append_left _ (List.mem_append_left _ (List.mem_append_left _ (List.mem_append_right _ h)))))
theorem inX0 : ∀ w ∈ wsX00, w ∈ lw_tbl := fun w h => wsL_law_in w (inlX0 w h)
theorem inlX1 : ∀ w ∈ wsX10, w ∈ wsL_law := fun _ h => List.mem_append_left _ (List.mem_append_left _ (List.mem_append_left _ (List.mem_append_left _ (List.mem_append_left _ (List.mem_append_left _ (List.mem_append_right _ h))))))
theorem inX1 : ∀ w ∈ wsX10, w ∈ lw_tbl := fun w h => wsL_law_in w (inlX1 w h)
theorem inlX2 : ∀ w ∈ wsX20, w ∈ wsL_law := fun _ h => List.mem_append_left _ (List.mem_append_left _ (List.mem_append_left _ (List.mem_append_right _ h)))
theorem inX2 : ∀ w ∈ wsX20, w ∈ lw_tbl := fun w h => wsL_law_in w (inlX2 w h)
theorem inlX3 : ∀ w ∈ wsX30, w ∈ wsL_law := fun _ h => List.mem_append_left _ (List.mem_append_left _ (List.mem_append_left _ (List.mem_append_left _ (List.mem_append_left _ (List.mem_append_left _ (List.mem_append_left _ (List.mem_append_left _ (List.mem_append_right _ h))))))))
theorem inX3 : ∀ w ∈ wsX30, w ∈ lw_tbl := fun w h => wsL_law_in w (inlX3 w h)
theorem inlX4 : ∀ w ∈ wsX40, w ∈ wsL_law := fun _ h => List.mem_append_left _ (List.mem_append_left _ (List.mem_append_left _ (List.mem_append_left _ (List.mem_append_left _ (List.mem_append_left _ (List.mem_append_left _ (List.mem_append_right _ h)))))))
theorem inX4 : ∀ w ∈ wsX40, w ∈ lw_tbl := fun w h => wsL_law_in w (inlX4 w h)
theorem inlX5 : ∀ w ∈ wsX50, w ∈ wsL_law := fun _ h => List.mem_append_left _ (List.mem_append_left _ (List.mem_append_left _ (List.mem_append_left _ (List.mem_append_left _ (List.mem_append_left _ (List.mem_append_left _ (List.mem_append_left _ (List.mem_append_left _ (List.mem_append_right _ h)))))))))
theorem inX5 : ∀ w ∈ wsX50, w ∈ lw_tbl := fun w h => wsL_law_in w (inlX5 w h)
theorem inlX6 : ∀ w ∈ wsX60, w ∈ wsL_law := fun _ h => List.mem_append_left _ (List.mem_append_left _ (List.mem_append_right _ h))
theorem inX6 : ∀ w ∈ wsX60, w ∈ lw_tbl := fun w h => wsL_law_in w (inlX6 w h)
theorem inlX7 : ∀ w ∈ wsX70, w ∈ wsL_law := fun _ h => List.mem_append_left _ (List.mem_append_right _ h)
theorem inX7 : ∀ w ∈ wsX70, w ∈ lw_tbl := fun w h => wsL_law_in w (inlX7 w h)
theorem inlX8 : ∀ w ∈ wsX80, w ∈ wsL_law := fun _ h => List.mem_append_left _ (List.mem_append_left _ (List.mem_append_left _ (List.mem_append_left _ (List.mem_append_left _ (List.mem_append_left _ (List.mem_append_left _ (List.mem_append_left _ (List.mem_append_left _ (List.mem_append_left _ (List.mem_append_right _ h))))))))))
theorem inX8 : ∀ w ∈ wsX80, w ∈ lw_tbl := fun w h => wsL_law_in w (inlX8 w h)
theorem inlX9 : ∀ w ∈ wsX90, w ∈ wsL_law := fun _ h => List.mem_append_left _ (List.mem_append_left _ (List.mem_append_left _ (List.mem_append_left _ (List.mem_append_right _ h))))
theorem inX9 : ∀ w ∈ wsX90, w ∈ lw_tbl := fun w h => wsL_law_in w (inlX9 w h)
theorem inlX10 : ∀ w ∈ wsX100, w ∈ wsL_law := fun _ h => List.mem_append_left _ (List.mem_append_left _ (List.mem_append_left _ (List.mem_append_left _ (List.mem_append_left _ (List.mem_append_left _ (List.mem_append_left _ (List.mem_append_left _ (List.mem_append_left _ (List.mem_append_left _ (List.mem_append_left _ (List.mem_append_left _ (List.mem_append_right _ h))))))))))))
theorem inX10 : ∀ w ∈ wsX100, w ∈ lw_tbl := fun w h => wsL_law_in w (inlX10 w h)
theorem inlX11 : ∀ w ∈ wsX110, w ∈ wsL_law := fun _ h => List.mem_append_left _ (List.mem_append_left _ (List.mem_append_left _ (List.mem_append_left _ (List.mem_append_left _ (List.mem_append_left _ (List.mem_append_left _ (List.mem_append_left _ (List.mem_append_left _ (List.mem_append_left _ (List.mem_append_left _ (List.mem_append_right _ h)))))))))))
theorem inX11 : ∀ w ∈ wsX110, w ∈ lw_tbl := fun w h => wsL_law_in w (inlX11 w h)
theorem inJ6 : ∀ w ∈ wsJ60, w ∈ lw_tbl := by decide +kernel
theorem inJ9 : ∀ w ∈ wsJ90, w ∈ lw_tbl := by decide +kernel
theorem inJ0 : ∀ w ∈ wsJ00, w ∈ lw_tbl := by decide +kernel
theorem inJ1 : ∀ w ∈ wsJ10, w ∈ lw_tbl := by decide +kernel
theorem inJ2 : ∀ w ∈ wsJ20, w ∈ lw_tbl := by decide +kernel
theorem inJ3 : ∀ w ∈ wsJ30, w ∈ lw_tbl := by decide +kernel
abbrev vwCl : List vw_C := [(RX0, TX0, 5), (RX1, TX1, 3), (RX2, TX2, 9), (RX3, TX3, 18), (RX4, TX4, 7), (RX5, TX5, 4), (RX6, TX6, 3), (RX7, TX7, 8), (RX8, TX8, 2), (RX9, TX9, 7), (RX10, TX10, 12), (RX11, TX11, 48)]
end
section
theorem dX0_init_0 : decode cX0_init 0 = .ok (.aload_n 0, 1) := by decide +kernel
theorem dX0_init_1 : decode cX0_init 1 = .ok (.invokespecial 3, 3) := by decide +kernel
theorem dX0_init_4 : decode cX0_init 4 = .ok (.aload_n 0, 1) := by decide +kernel
theorem dX0_init_5 : decode cX0_init 5 = .ok (.iconst 0, 1) := by decide +kernel
theorem dX0_init_6 : decode cX0_init 6 = .ok (.putfield 9, 3) := by decide +kernel
theorem dX0_init_9 : decode cX0_init 9 = .ok (.return_, 1) := by decide +kernel
theorem dX0_forget_0 : decode cX0_forget 0 = .ok (.aload_n 0, 1) := by decide +kernel
theorem dX0_forget_1 : decode cX0_forget 1 = .ok (.iconst 0, 1) := by decide +kernel
theorem dX0_forget_2 : decode cX0_forget 2 = .ok (.putfield 9, 3) := by decide +kernel
theorem dX0_forget_5 : decode cX0_forget 5 = .ok (.return_, 1) := by decide +kernel
theorem dX0_find_0 : decode cX0_find 0 = .ok (.aload_n 0, 1) := by decide +kernel
theorem dX0_find_1 : decode cX0_find 1 = .ok (.getfield 9, 3) := by decide +kernel
theorem dX0_find_4 : decode cX0_find 4 = .ok (.ifCond .eq 4, 3) := by decide +kernel
theorem dX0_find_7 : decode cX0_find 7 = .ok (.return_, 1) := by decide +kernel
theorem dX0_find_8 : decode cX0_find 8 = .ok (.aload_n 2, 1) := by decide +kernel
theorem dX0_find_9 : decode cX0_find 9 = .ok (.aload_n 1, 1) := by decide +kernel
theorem dX0_find_10 : decode cX0_find 10 = .ok (.invokevirtual 15, 3) := by decide +kernel
theorem dX0_find_13 : decode cX0_find 13 = .ok (.aload_n 2, 1) := by decide +kernel
theorem dX0_find_14 : decode cX0_find 14 = .ok (.invokevirtual 21, 3) := by decide +kernel
theorem dX0_find_17 : decode cX0_find 17 = .ok (.aload_n 3, 1) := by decide +kernel
theorem dX0_find_18 : decode cX0_find 18 = .ok (.aload_n 1, 1) := by decide +kernel
theorem dX0_find_19 : decode cX0_find 19 = .ok (.aload_n 2, 1) := by decide +kernel
theorem dX0_find_20 : decode cX0_find 20 = .ok (.invokevirtual 24, 3) := by decide +kernel
theorem dX0_find_23 : decode cX0_find 23 = .ok (.aload_n 0, 1) := by decide +kernel
theorem dX0_find_24 : decode cX0_find 24 = .ok (.aload_n 3, 1) := by decide +kernel
theorem dX0_find_25 : decode cX0_find 25 = .ok (.aload_n 1, 1) := by decide +kernel
theorem dX0_find_26 : decode cX0_find 26 = .ok (.invokevirtual 30, 3) := by decide +kernel
theorem dX0_find_29 : decode cX0_find 29 = .ok (.putfield 34, 3) := by decide +kernel
theorem dX0_find_32 : decode cX0_find 32 = .ok (.iconst 0, 1) := by decide +kernel
theorem dX0_find_33 : decode cX0_find 33 = .ok (.istore 4, 2) := by decide +kernel
theorem dX0_find_35 : decode cX0_find 35 = .ok (.iload 4, 2) := by decide +kernel
theorem dX0_find_37 : decode cX0_find 37 = .ok (.bipush 24, 2) := by decide +kernel
theorem dX0_find_39 : decode cX0_find 39 = .ok (.if_icmp .ge 55, 3) := by decide +kernel
theorem dX0_find_42 : decode cX0_find 42 = .ok (.iconst 0, 1) := by decide +kernel
theorem dX0_find_43 : decode cX0_find 43 = .ok (.istore 5, 2) := by decide +kernel
theorem dX0_find_45 : decode cX0_find 45 = .ok (.iload 5, 2) := by decide +kernel
theorem dX0_find_47 : decode cX0_find 47 = .ok (.bipush 24, 2) := by decide +kernel
theorem dX0_find_49 : decode cX0_find 49 = .ok (.if_icmp .ge 39, 3) := by decide +kernel
theorem dX0_find_52 : decode cX0_find 52 = .ok (.aload_n 2, 1) := by decide +kernel
theorem dX0_find_53 : decode cX0_find 53 = .ok (.iload 4, 2) := by decide +kernel
theorem dX0_find_55 : decode cX0_find 55 = .ok (.iload 5, 2) := by decide +kernel
theorem dX0_find_57 : decode cX0_find 57 = .ok (.invokestatic 38, 3) := by decide +kernel
theorem dX0_find_60 : decode cX0_find 60 = .ok (.invokevirtual 42, 3) := by decide +kernel
theorem dX0_find_63 : decode cX0_find 63 = .ok (.aload_n 3, 1) := by decide +kernel
theorem dX0_find_64 : decode cX0_find 64 = .ok (.aload_n 1, 1) := by decide +kernel
theorem dX0_find_65 : decode cX0_find 65 = .ok (.aload_n 2, 1) := by decide +kernel
theorem dX0_find_66 : decode cX0_find 66 = .ok (.invokevirtual 24, 3) := by decide +kernel
theorem dX0_find_69 : decode cX0_find 69 = .ok (.aload_n 0, 1) := by decide +kernel
theorem dX0_find_70 : decode cX0_find 70 = .ok (.iload 4, 2) := by decide +kernel
theorem dX0_find_72 : decode cX0_find 72 = .ok (.iload 5, 2) := by decide +kernel
theorem dX0_find_74 : decode cX0_find 74 = .ok (.aload_n 3, 1) := by decide +kernel
theorem dX0_find_75 : decode cX0_find 75 = .ok (.aload_n 1, 1) := by decide +kernel
theorem dX0_find_76 : decode cX0_find 76 = .ok (.invokevirtual 30, 3) := by decide +kernel
theorem dX0_find_79 : decode cX0_find 79 = .ok (.invokevirtual 46, 3) := by decide +kernel
theorem dX0_find_82 : decode cX0_find 82 = .ok (.iinc 5 1, 3) := by decide +kernel
theorem dX0_find_85 : decode cX0_find 85 = .ok (.goto (-40), 3) := by decide +kernel
theorem dX0_find_88 : decode cX0_find 88 = .ok (.iinc 4 1, 3) := by decide +kernel
theorem dX0_find_91 : decode cX0_find 91 = .ok (.goto (-56), 3) := by decide +kernel
theorem dX0_find_94 : decode cX0_find 94 = .ok (.aload_n 0, 1) := by decide +kernel
theorem dX0_find_95 : decode cX0_find 95 = .ok (.iconst 1, 1) := by decide +kernel
theorem dX0_find_96 : decode cX0_find 96 = .ok (.putfield 9, 3) := by decide +kernel
theorem dX0_find_99 : decode cX0_find 99 = .ok (.return_, 1) := by decide +kernel
theorem dX0_keepBetter_0 : decode cX0_keepBetter 0 = .ok (.iload_n 1, 1) := by decide +kernel
theorem dX0_keepBetter_1 : decode cX0_keepBetter 1 = .ok (.ifCond .ne 11, 3) := by decide +kernel
theorem dX0_keepBetter_4 : decode cX0_keepBetter 4 = .ok (.iload_n 2, 1) := by decide +kernel
theorem dX0_keepBetter_5 : decode cX0_keepBetter 5 = .ok (.ifCond .ne 7, 3) := by decide +kernel
theorem dX0_keepBetter_8 : decode cX0_keepBetter 8 = .ok (.iconst 1, 1) := by decide +kernel
theorem dX0_keepBetter_9 : decode cX0_keepBetter 9 = .ok (.goto 4, 3) := by decide +kernel
theorem dX0_keepBetter_12 : decode cX0_keepBetter 12 = .ok (.iconst 0, 1) := by decide +kernel
theorem dX0_keepBetter_13 : decode cX0_keepBetter 13 = .ok (.istore 4, 2) := by decide +kernel
theorem dX0_keepBetter_15 : decode cX0_keepBetter 15 = .ok (.iload 4, 2) := by decide +kernel
theorem dX0_keepBetter_17 : decode cX0_keepBetter 17 = .ok (.ifCond .ne 11, 3) := by decide +kernel
theorem dX0_keepBetter_20 : decode cX0_keepBetter 20 = .ok (.iload_n 3, 1) := by decide +kernel
theorem dX0_keepBetter_21 : decode cX0_keepBetter 21 = .ok (.aload_n 0, 1) := by decide +kernel
theorem dX0_keepBetter_22 : decode cX0_keepBetter 22 = .ok (.getfield 50, 3) := by decide +kernel
theorem dX0_keepBetter_25 : decode cX0_keepBetter 25 = .ok (.if_icmp .ge 18, 3) := by decide +kernel
theorem dX0_keepBetter_28 : decode cX0_keepBetter 28 = .ok (.aload_n 0, 1) := by decide +kernel
theorem dX0_keepBetter_29 : decode cX0_keepBetter 29 = .ok (.iload_n 1, 1) := by decide +kernel
theorem dX0_keepBetter_30 : decode cX0_keepBetter 30 = .ok (.putfield 52, 3) := by decide +kernel
theorem dX0_keepBetter_33 : decode cX0_keepBetter 33 = .ok (.aload_n 0, 1) := by decide +kernel
theorem dX0_keepBetter_34 : decode cX0_keepBetter 34 = .ok (.iload_n 2, 1) := by decide +kernel
theorem dX0_keepBetter_35 : decode cX0_keepBetter 35 = .ok (.putfield 55, 3) := by decide +kernel
theorem dX0_keepBetter_38 : decode cX0_keepBetter 38 = .ok (.aload_n 0, 1) := by decide +kernel
theorem dX0_keepBetter_39 : decode cX0_keepBetter 39 = .ok (.iload_n 3, 1) := by decide +kernel
theorem dX0_keepBetter_40 : decode cX0_keepBetter 40 = .ok (.putfield 50, 3) := by decide +kernel
theorem dX0_keepBetter_43 : decode cX0_keepBetter 43 = .ok (.return_, 1) := by decide +kernel
theorem dX0_from_0 : decode cX0_from 0 = .ok (.aload_n 0, 1) := by decide +kernel
theorem dX0_from_1 : decode cX0_from 1 = .ok (.getfield 52, 3) := by decide +kernel
theorem dX0_from_4 : decode cX0_from 4 = .ok (.ireturn, 1) := by decide +kernel
theorem dX0_to_0 : decode cX0_to 0 = .ok (.aload_n 0, 1) := by decide +kernel
theorem dX0_to_1 : decode cX0_to 1 = .ok (.getfield 55, 3) := by decide +kernel
theorem dX0_to_4 : decode cX0_to 4 = .ok (.ireturn, 1) := by decide +kernel
theorem dX0_nightOfAll_0 : decode cX0_nightOfAll 0 = .ok (.aload_n 0, 1) := by decide +kernel
theorem dX0_nightOfAll_1 : decode cX0_nightOfAll 1 = .ok (.getfield 50, 3) := by decide +kernel
theorem dX0_nightOfAll_4 : decode cX0_nightOfAll 4 = .ok (.ireturn, 1) := by decide +kernel
theorem dX0_near_0 : decode cX0_near 0 = .ok (.aload_n 0, 1) := by decide +kernel
theorem dX0_near_1 : decode cX0_near 1 = .ok (.getfield 50, 3) := by decide +kernel
theorem dX0_near_4 : decode cX0_near 4 = .ok (.aload_n 0, 1) := by decide +kernel
theorem dX0_near_5 : decode cX0_near 5 = .ok (.getfield 34, 3) := by decide +kernel
theorem dX0_near_8 : decode cX0_near 8 = .ok (.isub, 1) := by decide +kernel
theorem dX0_near_9 : decode cX0_near 9 = .ok (.ireturn, 1) := by decide +kernel
theorem dX1_init_0 : decode cX1_init 0 = .ok (.aload_n 0, 1) := by decide +kernel
theorem dX1_init_1 : decode cX1_init 1 = .ok (.invokespecial 3, 3) := by decide +kernel
theorem dX1_init_4 : decode cX1_init 4 = .ok (.aload_n 0, 1) := by decide +kernel
theorem dX1_init_5 : decode cX1_init 5 = .ok (.iconst 5, 1) := by decide +kernel
theorem dX1_init_6 : decode cX1_init 6 = .ok (.bipush 97, 2) := by decide +kernel
theorem dX1_init_8 : decode cX1_init 8 = .ok (.multianewarray 9 2, 4) := by decide +kernel
theorem dX1_init_12 : decode cX1_init 12 = .ok (.putfield 11, 3) := by decide +kernel
theorem dX1_init_15 : decode cX1_init 15 = .ok (.aload_n 0, 1) := by decide +kernel
theorem dX1_init_16 : decode cX1_init 16 = .ok (.iconst 5, 1) := by decide +kernel
theorem dX1_init_17 : decode cX1_init 17 = .ok (.bipush 97, 2) := by decide +kernel
theorem dX1_init_19 : decode cX1_init 19 = .ok (.multianewarray 9 2, 4) := by decide +kernel
theorem dX1_init_23 : decode cX1_init 23 = .ok (.putfield 16, 3) := by decide +kernel
theorem dX1_init_26 : decode cX1_init 26 = .ok (.aload_n 0, 1) := by decide +kernel
theorem dX1_init_27 : decode cX1_init 27 = .ok (.iconst 5, 1) := by decide +kernel
theorem dX1_init_28 : decode cX1_init 28 = .ok (.bipush 96, 2) := by decide +kernel
theorem dX1_init_30 : decode cX1_init 30 = .ok (.multianewarray 9 2, 4) := by decide +kernel
theorem dX1_init_34 : decode cX1_init 34 = .ok (.putfield 19, 3) := by decide +kernel
theorem dX1_init_37 : decode cX1_init 37 = .ok (.return_, 1) := by decide +kernel
theorem dX1_run_0 : decode cX1_run 0 = .ok (.iconst 0, 1) := by decide +kernel
theorem dX1_run_1 : decode cX1_run 1 = .ok (.istore_n 3, 1) := by decide +kernel
theorem dX1_run_2 : decode cX1_run 2 = .ok (.iload_n 3, 1) := by decide +kernel
theorem dX1_run_3 : decode cX1_run 3 = .ok (.iconst 5, 1) := by decide +kernel
theorem dX1_run_4 : decode cX1_run 4 = .ok (.if_icmp .ge 35, 3) := by decide +kernel
theorem dX1_run_7 : decode cX1_run 7 = .ok (.aload_n 0, 1) := by decide +kernel
theorem dX1_run_8 : decode cX1_run 8 = .ok (.getfield 11, 3) := by decide +kernel
theorem dX1_run_11 : decode cX1_run 11 = .ok (.iload_n 3, 1) := by decide +kernel
theorem dX1_run_12 : decode cX1_run 12 = .ok (.aaload, 1) := by decide +kernel
theorem dX1_run_13 : decode cX1_run 13 = .ok (.iconst 0, 1) := by decide +kernel
theorem dX1_run_14 : decode cX1_run 14 = .ok (.aload_n 1, 1) := by decide +kernel
theorem dX1_run_15 : decode cX1_run 15 = .ok (.iload_n 3, 1) := by decide +kernel
theorem dX1_run_16 : decode cX1_run 16 = .ok (.invokevirtual 22, 3) := by decide +kernel
theorem dX1_run_19 : decode cX1_run 19 = .ok (.iastore, 1) := by decide +kernel
theorem dX1_run_20 : decode cX1_run 20 = .ok (.aload_n 0, 1) := by decide +kernel
theorem dX1_run_21 : decode cX1_run 21 = .ok (.getfield 16, 3) := by decide +kernel
theorem dX1_run_24 : decode cX1_run 24 = .ok (.iload_n 3, 1) := by decide +kernel
theorem dX1_run_25 : decode cX1_run 25 = .ok (.aaload, 1) := by decide +kernel
theorem dX1_run_26 : decode cX1_run 26 = .ok (.iconst 0, 1) := by decide +kernel
theorem dX1_run_27 : decode cX1_run 27 = .ok (.aload_n 1, 1) := by decide +kernel
theorem dX1_run_28 : decode cX1_run 28 = .ok (.iload_n 3, 1) := by decide +kernel
theorem dX1_run_29 : decode cX1_run 29 = .ok (.invokevirtual 28, 3) := by decide +kernel
theorem dX1_run_32 : decode cX1_run 32 = .ok (.iastore, 1) := by decide +kernel
theorem dX1_run_33 : decode cX1_run 33 = .ok (.iinc 3 1, 3) := by decide +kernel
theorem dX1_run_36 : decode cX1_run 36 = .ok (.goto (-34), 3) := by decide +kernel
theorem dX1_run_39 : decode cX1_run 39 = .ok (.iconst 0, 1) := by decide +kernel
theorem dX1_run_40 : decode cX1_run 40 = .ok (.istore_n 3, 1) := by decide +kernel
theorem dX1_run_41 : decode cX1_run 41 = .ok (.iload_n 3, 1) := by decide +kernel
theorem dX1_run_42 : decode cX1_run 42 = .ok (.bipush 96, 2) := by decide +kernel
theorem dX1_run_44 : decode cX1_run 44 = .ok (.if_icmp .ge 42, 3) := by decide +kernel
theorem dX1_run_47 : decode cX1_run 47 = .ok (.iconst 0, 1) := by decide +kernel
theorem dX1_run_48 : decode cX1_run 48 = .ok (.istore 4, 2) := by decide +kernel
theorem dX1_run_50 : decode cX1_run 50 = .ok (.iload 4, 2) := by decide +kernel
theorem dX1_run_52 : decode cX1_run 52 = .ok (.iconst 5, 1) := by decide +kernel
theorem dX1_run_53 : decode cX1_run 53 = .ok (.if_icmp .ge 27, 3) := by decide +kernel
theorem dX1_run_56 : decode cX1_run 56 = .ok (.aload_n 1, 1) := by decide +kernel
theorem dX1_run_57 : decode cX1_run 57 = .ok (.iload 4, 2) := by decide +kernel
theorem dX1_run_59 : decode cX1_run 59 = .ok (.invokevirtual 31, 3) := by decide +kernel
theorem dX1_run_62 : decode cX1_run 62 = .ok (.ifCond .eq 12, 3) := by decide +kernel
theorem dX1_run_65 : decode cX1_run 65 = .ok (.aload_n 0, 1) := by decide +kernel
theorem dX1_run_66 : decode cX1_run 66 = .ok (.iload 4, 2) := by decide +kernel
theorem dX1_run_68 : decode cX1_run 68 = .ok (.iload_n 3, 1) := by decide +kernel
theorem dX1_run_69 : decode cX1_run 69 = .ok (.aload_n 1, 1) := by decide +kernel
theorem dX1_run_70 : decode cX1_run 70 = .ok (.aload_n 2, 1) := by decide +kernel
theorem dX1_run_71 : decode cX1_run 71 = .ok (.invokevirtual 35, 3) := by decide +kernel
theorem dX1_run_74 : decode cX1_run 74 = .ok (.iinc 4 1, 3) := by decide +kernel
theorem dX1_run_77 : decode cX1_run 77 = .ok (.goto (-27), 3) := by decide +kernel
theorem dX1_run_80 : decode cX1_run 80 = .ok (.iinc 3 1, 3) := by decide +kernel
theorem dX1_run_83 : decode cX1_run 83 = .ok (.goto (-42), 3) := by decide +kernel
theorem dX1_run_86 : decode cX1_run 86 = .ok (.return_, 1) := by decide +kernel
theorem dX1_goOn_0 : decode cX1_goOn 0 = .ok (.aload_n 0, 1) := by decide +kernel
theorem dX1_goOn_1 : decode cX1_goOn 1 = .ok (.getfield 11, 3) := by decide +kernel
theorem dX1_goOn_4 : decode cX1_goOn 4 = .ok (.iload_n 1, 1) := by decide +kernel
theorem dX1_goOn_5 : decode cX1_goOn 5 = .ok (.aaload, 1) := by decide +kernel
theorem dX1_goOn_6 : decode cX1_goOn 6 = .ok (.iload_n 2, 1) := by decide +kernel
theorem dX1_goOn_7 : decode cX1_goOn 7 = .ok (.iaload, 1) := by decide +kernel
theorem dX1_goOn_8 : decode cX1_goOn 8 = .ok (.istore 5, 2) := by decide +kernel
theorem dX1_goOn_10 : decode cX1_goOn 10 = .ok (.aload_n 0, 1) := by decide +kernel
theorem dX1_goOn_11 : decode cX1_goOn 11 = .ok (.getfield 16, 3) := by decide +kernel
theorem dX1_goOn_14 : decode cX1_goOn 14 = .ok (.iload_n 1, 1) := by decide +kernel
theorem dX1_goOn_15 : decode cX1_goOn 15 = .ok (.aaload, 1) := by decide +kernel
theorem dX1_goOn_16 : decode cX1_goOn 16 = .ok (.iload_n 2, 1) := by decide +kernel
theorem dX1_goOn_17 : decode cX1_goOn 17 = .ok (.iaload, 1) := by decide +kernel
theorem dX1_goOn_18 : decode cX1_goOn 18 = .ok (.istore 6, 2) := by decide +kernel
theorem dX1_goOn_20 : decode cX1_goOn 20 = .ok (.aload 4, 2) := by decide +kernel
theorem dX1_goOn_22 : decode cX1_goOn 22 = .ok (.iload_n 2, 1) := by decide +kernel
theorem dX1_goOn_23 : decode cX1_goOn 23 = .ok (.invokevirtual 39, 3) := by decide +kernel
theorem dX1_goOn_26 : decode cX1_goOn 26 = .ok (.istore 7, 2) := by decide +kernel
theorem dX1_goOn_28 : decode cX1_goOn 28 = .ok (.aload_n 3, 1) := by decide +kernel
theorem dX1_goOn_29 : decode cX1_goOn 29 = .ok (.invokevirtual 44, 3) := by decide +kernel
theorem dX1_goOn_32 : decode cX1_goOn 32 = .ok (.iload_n 2, 1) := by decide +kernel
theorem dX1_goOn_33 : decode cX1_goOn 33 = .ok (.bipush 24, 2) := by decide +kernel
theorem dX1_goOn_35 : decode cX1_goOn 35 = .ok (.irem, 1) := by decide +kernel
theorem dX1_goOn_36 : decode cX1_goOn 36 = .ok (.invokestatic 48, 3) := by decide +kernel
theorem dX1_goOn_39 : decode cX1_goOn 39 = .ok (.istore 8, 2) := by decide +kernel
theorem dX1_goOn_41 : decode cX1_goOn 41 = .ok (.iload 8, 2) := by decide +kernel
theorem dX1_goOn_43 : decode cX1_goOn 43 = .ok (.ifCond .eq 19, 3) := by decide +kernel
theorem dX1_goOn_46 : decode cX1_goOn 46 = .ok (.aload 4, 2) := by decide +kernel
theorem dX1_goOn_48 : decode cX1_goOn 48 = .ok (.iload_n 1, 1) := by decide +kernel
theorem dX1_goOn_49 : decode cX1_goOn 49 = .ok (.iload_n 2, 1) := by decide +kernel
theorem dX1_goOn_50 : decode cX1_goOn 50 = .ok (.iload 5, 2) := by decide +kernel
theorem dX1_goOn_52 : decode cX1_goOn 52 = .ok (.invokevirtual 52, 3) := by decide +kernel
theorem dX1_goOn_55 : decode cX1_goOn 55 = .ok (.ifCond .eq 7, 3) := by decide +kernel
theorem dX1_goOn_58 : decode cX1_goOn 58 = .ok (.iconst 1, 1) := by decide +kernel
theorem dX1_goOn_59 : decode cX1_goOn 59 = .ok (.goto 4, 3) := by decide +kernel
theorem dX1_goOn_62 : decode cX1_goOn 62 = .ok (.iconst 0, 1) := by decide +kernel
theorem dX1_goOn_63 : decode cX1_goOn 63 = .ok (.istore 9, 2) := by decide +kernel
theorem dX1_goOn_65 : decode cX1_goOn 65 = .ok (.aload 4, 2) := by decide +kernel
theorem dX1_goOn_67 : decode cX1_goOn 67 = .ok (.iload_n 1, 1) := by decide +kernel
theorem dX1_goOn_68 : decode cX1_goOn 68 = .ok (.iload_n 2, 1) := by decide +kernel
theorem dX1_goOn_69 : decode cX1_goOn 69 = .ok (.bipush 24, 2) := by decide +kernel
theorem dX1_goOn_71 : decode cX1_goOn 71 = .ok (.irem, 1) := by decide +kernel
theorem dX1_goOn_72 : decode cX1_goOn 72 = .ok (.invokevirtual 56, 3) := by decide +kernel
theorem dX1_goOn_75 : decode cX1_goOn 75 = .ok (.iload 6, 2) := by decide +kernel
theorem dX1_goOn_77 : decode cX1_goOn 77 = .ok (.iload 5, 2) := by decide +kernel
theorem dX1_goOn_79 : decode cX1_goOn 79 = .ok (.isub, 1) := by decide +kernel
theorem dX1_goOn_80 : decode cX1_goOn 80 = .ok (.aload 4, 2) := by decide +kernel
theorem dX1_goOn_82 : decode cX1_goOn 82 = .ok (.invokevirtual 60, 3) := by decide +kernel
theorem dX1_goOn_85 : decode cX1_goOn 85 = .ok (.imul, 1) := by decide +kernel
theorem dX1_goOn_86 : decode cX1_goOn 86 = .ok (.bipush 100, 2) := by decide +kernel
theorem dX1_goOn_88 : decode cX1_goOn 88 = .ok (.idiv, 1) := by decide +kernel
theorem dX1_goOn_89 : decode cX1_goOn 89 = .ok (.iadd, 1) := by decide +kernel
theorem dX1_goOn_90 : decode cX1_goOn 90 = .ok (.istore 10, 2) := by decide +kernel
theorem dX1_goOn_92 : decode cX1_goOn 92 = .ok (.iload 10, 2) := by decide +kernel
theorem dX1_goOn_94 : decode cX1_goOn 94 = .ok (.aload_n 0, 1) := by decide +kernel
theorem dX1_goOn_95 : decode cX1_goOn 95 = .ok (.iload_n 1, 1) := by decide +kernel
theorem dX1_goOn_96 : decode cX1_goOn 96 = .ok (.iload_n 2, 1) := by decide +kernel
theorem dX1_goOn_97 : decode cX1_goOn 97 = .ok (.aload_n 3, 1) := by decide +kernel
theorem dX1_goOn_98 : decode cX1_goOn 98 = .ok (.invokevirtual 63, 3) := by decide +kernel
theorem dX1_goOn_101 : decode cX1_goOn 101 = .ok (.iadd, 1) := by decide +kernel
theorem dX1_goOn_102 : decode cX1_goOn 102 = .ok (.istore 10, 2) := by decide +kernel
theorem dX1_goOn_104 : decode cX1_goOn 104 = .ok (.iload 8, 2) := by decide +kernel
theorem dX1_goOn_106 : decode cX1_goOn 106 = .ok (.ifCond .eq 15, 3) := by decide +kernel
theorem dX1_goOn_109 : decode cX1_goOn 109 = .ok (.iload 10, 2) := by decide +kernel
theorem dX1_goOn_111 : decode cX1_goOn 111 = .ok (.iconst 2, 1) := by decide +kernel
theorem dX1_goOn_112 : decode cX1_goOn 112 = .ok (.aload_n 3, 1) := by decide +kernel
theorem dX1_goOn_113 : decode cX1_goOn 113 = .ok (.iload_n 1, 1) := by decide +kernel
theorem dX1_goOn_114 : decode cX1_goOn 114 = .ok (.invokevirtual 67, 3) := by decide +kernel
theorem dX1_goOn_117 : decode cX1_goOn 117 = .ok (.imul, 1) := by decide +kernel
theorem dX1_goOn_118 : decode cX1_goOn 118 = .ok (.iadd, 1) := by decide +kernel
theorem dX1_goOn_119 : decode cX1_goOn 119 = .ok (.istore 10, 2) := by decide +kernel
theorem dX1_goOn_121 : decode cX1_goOn 121 = .ok (.iload 9, 2) := by decide +kernel
theorem dX1_goOn_123 : decode cX1_goOn 123 = .ok (.ifCond .eq 21, 3) := by decide +kernel
theorem dX1_goOn_126 : decode cX1_goOn 126 = .ok (.iload 10, 2) := by decide +kernel
theorem dX1_goOn_128 : decode cX1_goOn 128 = .ok (.iload 7, 2) := by decide +kernel
theorem dX1_goOn_130 : decode cX1_goOn 130 = .ok (.iload 5, 2) := by decide +kernel
theorem dX1_goOn_132 : decode cX1_goOn 132 = .ok (.isub, 1) := by decide +kernel
theorem dX1_goOn_133 : decode cX1_goOn 133 = .ok (.aload_n 3, 1) := by decide +kernel
theorem dX1_goOn_134 : decode cX1_goOn 134 = .ok (.invokevirtual 70, 3) := by decide +kernel
theorem dX1_goOn_137 : decode cX1_goOn 137 = .ok (.imul, 1) := by decide +kernel
theorem dX1_goOn_138 : decode cX1_goOn 138 = .ok (.bipush 100, 2) := by decide +kernel
theorem dX1_goOn_140 : decode cX1_goOn 140 = .ok (.idiv, 1) := by decide +kernel
theorem dX1_goOn_141 : decode cX1_goOn 141 = .ok (.iadd, 1) := by decide +kernel
theorem dX1_goOn_142 : decode cX1_goOn 142 = .ok (.istore 10, 2) := by decide +kernel
theorem dX1_goOn_144 : decode cX1_goOn 144 = .ok (.aload_n 0, 1) := by decide +kernel
theorem dX1_goOn_145 : decode cX1_goOn 145 = .ok (.getfield 11, 3) := by decide +kernel
theorem dX1_goOn_148 : decode cX1_goOn 148 = .ok (.iload_n 1, 1) := by decide +kernel
theorem dX1_goOn_149 : decode cX1_goOn 149 = .ok (.aaload, 1) := by decide +kernel
theorem dX1_goOn_150 : decode cX1_goOn 150 = .ok (.iload_n 2, 1) := by decide +kernel
theorem dX1_goOn_151 : decode cX1_goOn 151 = .ok (.iconst 1, 1) := by decide +kernel
theorem dX1_goOn_152 : decode cX1_goOn 152 = .ok (.iadd, 1) := by decide +kernel
theorem dX1_goOn_153 : decode cX1_goOn 153 = .ok (.iload 5, 2) := by decide +kernel
theorem dX1_goOn_155 : decode cX1_goOn 155 = .ok (.iload 10, 2) := by decide +kernel
theorem dX1_goOn_157 : decode cX1_goOn 157 = .ok (.iadd, 1) := by decide +kernel
theorem dX1_goOn_158 : decode cX1_goOn 158 = .ok (.iastore, 1) := by decide +kernel
theorem dX1_goOn_159 : decode cX1_goOn 159 = .ok (.aload_n 0, 1) := by decide +kernel
theorem dX1_goOn_160 : decode cX1_goOn 160 = .ok (.getfield 16, 3) := by decide +kernel
theorem dX1_goOn_163 : decode cX1_goOn 163 = .ok (.iload_n 1, 1) := by decide +kernel
theorem dX1_goOn_164 : decode cX1_goOn 164 = .ok (.aaload, 1) := by decide +kernel
theorem dX1_goOn_165 : decode cX1_goOn 165 = .ok (.iload_n 2, 1) := by decide +kernel
theorem dX1_goOn_166 : decode cX1_goOn 166 = .ok (.iconst 1, 1) := by decide +kernel
theorem dX1_goOn_167 : decode cX1_goOn 167 = .ok (.iadd, 1) := by decide +kernel
theorem dX1_goOn_168 : decode cX1_goOn 168 = .ok (.iload 6, 2) := by decide +kernel
theorem dX1_goOn_170 : decode cX1_goOn 170 = .ok (.iload 5, 2) := by decide +kernel
theorem dX1_goOn_172 : decode cX1_goOn 172 = .ok (.iload 6, 2) := by decide +kernel
theorem dX1_goOn_174 : decode cX1_goOn 174 = .ok (.isub, 1) := by decide +kernel
theorem dX1_goOn_175 : decode cX1_goOn 175 = .ok (.aload 4, 2) := by decide +kernel
theorem dX1_goOn_177 : decode cX1_goOn 177 = .ok (.invokevirtual 73, 3) := by decide +kernel
theorem dX1_goOn_180 : decode cX1_goOn 180 = .ok (.imul, 1) := by decide +kernel
theorem dX1_goOn_181 : decode cX1_goOn 181 = .ok (.bipush 100, 2) := by decide +kernel
theorem dX1_goOn_183 : decode cX1_goOn 183 = .ok (.idiv, 1) := by decide +kernel
theorem dX1_goOn_184 : decode cX1_goOn 184 = .ok (.iadd, 1) := by decide +kernel
theorem dX1_goOn_185 : decode cX1_goOn 185 = .ok (.iload 7, 2) := by decide +kernel
theorem dX1_goOn_187 : decode cX1_goOn 187 = .ok (.iload 6, 2) := by decide +kernel
theorem dX1_goOn_189 : decode cX1_goOn 189 = .ok (.isub, 1) := by decide +kernel
theorem dX1_goOn_190 : decode cX1_goOn 190 = .ok (.aload 4, 2) := by decide +kernel
theorem dX1_goOn_192 : decode cX1_goOn 192 = .ok (.iload_n 1, 1) := by decide +kernel
theorem dX1_goOn_193 : decode cX1_goOn 193 = .ok (.invokevirtual 76, 3) := by decide +kernel
theorem dX1_goOn_196 : decode cX1_goOn 196 = .ok (.imul, 1) := by decide +kernel
theorem dX1_goOn_197 : decode cX1_goOn 197 = .ok (.bipush 100, 2) := by decide +kernel
theorem dX1_goOn_199 : decode cX1_goOn 199 = .ok (.idiv, 1) := by decide +kernel
theorem dX1_goOn_200 : decode cX1_goOn 200 = .ok (.iadd, 1) := by decide +kernel
theorem dX1_goOn_201 : decode cX1_goOn 201 = .ok (.iastore, 1) := by decide +kernel
theorem dX1_goOn_202 : decode cX1_goOn 202 = .ok (.aload_n 0, 1) := by decide +kernel
theorem dX1_goOn_203 : decode cX1_goOn 203 = .ok (.getfield 19, 3) := by decide +kernel
theorem dX1_goOn_206 : decode cX1_goOn 206 = .ok (.iload_n 1, 1) := by decide +kernel
theorem dX1_goOn_207 : decode cX1_goOn 207 = .ok (.aaload, 1) := by decide +kernel
theorem dX1_goOn_208 : decode cX1_goOn 208 = .ok (.iload_n 2, 1) := by decide +kernel
theorem dX1_goOn_209 : decode cX1_goOn 209 = .ok (.iload 9, 2) := by decide +kernel
theorem dX1_goOn_211 : decode cX1_goOn 211 = .ok (.ifCond .eq 7, 3) := by decide +kernel
theorem dX1_goOn_214 : decode cX1_goOn 214 = .ok (.iconst 1, 1) := by decide +kernel
theorem dX1_goOn_215 : decode cX1_goOn 215 = .ok (.goto 4, 3) := by decide +kernel
theorem dX1_goOn_218 : decode cX1_goOn 218 = .ok (.iconst 0, 1) := by decide +kernel
theorem dX1_goOn_219 : decode cX1_goOn 219 = .ok (.iastore, 1) := by decide +kernel
theorem dX1_goOn_220 : decode cX1_goOn 220 = .ok (.return_, 1) := by decide +kernel
theorem dX1_throughDoors_0 : decode cX1_throughDoors 0 = .ok (.iconst 0, 1) := by decide +kernel
theorem dX1_throughDoors_1 : decode cX1_throughDoors 1 = .ok (.istore 4, 2) := by decide +kernel
theorem dX1_throughDoors_3 : decode cX1_throughDoors 3 = .ok (.iconst 0, 1) := by decide +kernel
theorem dX1_throughDoors_4 : decode cX1_throughDoors 4 = .ok (.istore 5, 2) := by decide +kernel
theorem dX1_throughDoors_6 : decode cX1_throughDoors 6 = .ok (.iload 5, 2) := by decide +kernel
theorem dX1_throughDoors_8 : decode cX1_throughDoors 8 = .ok (.iconst 5, 1) := by decide +kernel
theorem dX1_throughDoors_9 : decode cX1_throughDoors 9 = .ok (.if_icmp .ge 61, 3) := by decide +kernel
theorem dX1_throughDoors_12 : decode cX1_throughDoors 12 = .ok (.aload_n 3, 1) := by decide +kernel
theorem dX1_throughDoors_13 : decode cX1_throughDoors 13 = .ok (.iload_n 1, 1) := by decide +kernel
theorem dX1_throughDoors_14 : decode cX1_throughDoors 14 = .ok (.iload 5, 2) := by decide +kernel
theorem dX1_throughDoors_16 : decode cX1_throughDoors 16 = .ok (.invokevirtual 79, 3) := by decide +kernel
theorem dX1_throughDoors_19 : decode cX1_throughDoors 19 = .ok (.istore 6, 2) := by decide +kernel
theorem dX1_throughDoors_21 : decode cX1_throughDoors 21 = .ok (.iload 6, 2) := by decide +kernel
theorem dX1_throughDoors_23 : decode cX1_throughDoors 23 = .ok (.ifCond .le 41, 3) := by decide +kernel
theorem dX1_throughDoors_26 : decode cX1_throughDoors 26 = .ok (.aload_n 3, 1) := by decide +kernel
theorem dX1_throughDoors_27 : decode cX1_throughDoors 27 = .ok (.iload 5, 2) := by decide +kernel
theorem dX1_throughDoors_29 : decode cX1_throughDoors 29 = .ok (.invokevirtual 31, 3) := by decide +kernel
theorem dX1_throughDoors_32 : decode cX1_throughDoors 32 = .ok (.ifCond .eq 32, 3) := by decide +kernel
theorem dX1_throughDoors_35 : decode cX1_throughDoors 35 = .ok (.iload 4, 2) := by decide +kernel
theorem dX1_throughDoors_37 : decode cX1_throughDoors 37 = .ok (.aload_n 0, 1) := by decide +kernel
theorem dX1_throughDoors_38 : decode cX1_throughDoors 38 = .ok (.getfield 11, 3) := by decide +kernel
theorem dX1_throughDoors_41 : decode cX1_throughDoors 41 = .ok (.iload 5, 2) := by decide +kernel
theorem dX1_throughDoors_43 : decode cX1_throughDoors 43 = .ok (.aaload, 1) := by decide +kernel
theorem dX1_throughDoors_44 : decode cX1_throughDoors 44 = .ok (.iload_n 2, 1) := by decide +kernel
theorem dX1_throughDoors_45 : decode cX1_throughDoors 45 = .ok (.iaload, 1) := by decide +kernel
theorem dX1_throughDoors_46 : decode cX1_throughDoors 46 = .ok (.aload_n 0, 1) := by decide +kernel
theorem dX1_throughDoors_47 : decode cX1_throughDoors 47 = .ok (.getfield 11, 3) := by decide +kernel
theorem dX1_throughDoors_50 : decode cX1_throughDoors 50 = .ok (.iload_n 1, 1) := by decide +kernel
theorem dX1_throughDoors_51 : decode cX1_throughDoors 51 = .ok (.aaload, 1) := by decide +kernel
theorem dX1_throughDoors_52 : decode cX1_throughDoors 52 = .ok (.iload_n 2, 1) := by decide +kernel
theorem dX1_throughDoors_53 : decode cX1_throughDoors 53 = .ok (.iaload, 1) := by decide +kernel
theorem dX1_throughDoors_54 : decode cX1_throughDoors 54 = .ok (.isub, 1) := by decide +kernel
theorem dX1_throughDoors_55 : decode cX1_throughDoors 55 = .ok (.iload 6, 2) := by decide +kernel
theorem dX1_throughDoors_57 : decode cX1_throughDoors 57 = .ok (.imul, 1) := by decide +kernel
theorem dX1_throughDoors_58 : decode cX1_throughDoors 58 = .ok (.bipush 100, 2) := by decide +kernel
theorem dX1_throughDoors_60 : decode cX1_throughDoors 60 = .ok (.idiv, 1) := by decide +kernel
theorem dX1_throughDoors_61 : decode cX1_throughDoors 61 = .ok (.iadd, 1) := by decide +kernel
theorem dX1_throughDoors_62 : decode cX1_throughDoors 62 = .ok (.istore 4, 2) := by decide +kernel
theorem dX1_throughDoors_64 : decode cX1_throughDoors 64 = .ok (.iinc 5 1, 3) := by decide +kernel
theorem dX1_throughDoors_67 : decode cX1_throughDoors 67 = .ok (.goto (-61), 3) := by decide +kernel
theorem dX1_throughDoors_70 : decode cX1_throughDoors 70 = .ok (.iload 4, 2) := by decide +kernel
theorem dX1_throughDoors_72 : decode cX1_throughDoors 72 = .ok (.ireturn, 1) := by decide +kernel
theorem dX1_airBehind_0 : decode cX1_airBehind 0 = .ok (.aload_n 0, 1) := by decide +kernel
theorem dX1_airBehind_1 : decode cX1_airBehind 1 = .ok (.getfield 11, 3) := by decide +kernel
theorem dX1_airBehind_4 : decode cX1_airBehind 4 = .ok (.iload_n 1, 1) := by decide +kernel
theorem dX1_airBehind_5 : decode cX1_airBehind 5 = .ok (.aaload, 1) := by decide +kernel
theorem dX1_airBehind_6 : decode cX1_airBehind 6 = .ok (.iload_n 2, 1) := by decide +kernel
theorem dX1_airBehind_7 : decode cX1_airBehind 7 = .ok (.iconst 1, 1) := by decide +kernel
theorem dX1_airBehind_8 : decode cX1_airBehind 8 = .ok (.iadd, 1) := by decide +kernel
theorem dX1_airBehind_9 : decode cX1_airBehind 9 = .ok (.iaload, 1) := by decide +kernel
theorem dX1_airBehind_10 : decode cX1_airBehind 10 = .ok (.ireturn, 1) := by decide +kernel
theorem dX1_wallBehind_0 : decode cX1_wallBehind 0 = .ok (.aload_n 0, 1) := by decide +kernel
theorem dX1_wallBehind_1 : decode cX1_wallBehind 1 = .ok (.getfield 16, 3) := by decide +kernel
theorem dX1_wallBehind_4 : decode cX1_wallBehind 4 = .ok (.iload_n 1, 1) := by decide +kernel
theorem dX1_wallBehind_5 : decode cX1_wallBehind 5 = .ok (.aaload, 1) := by decide +kernel
theorem dX1_wallBehind_6 : decode cX1_wallBehind 6 = .ok (.iload_n 2, 1) := by decide +kernel
theorem dX1_wallBehind_7 : decode cX1_wallBehind 7 = .ok (.iconst 1, 1) := by decide +kernel
theorem dX1_wallBehind_8 : decode cX1_wallBehind 8 = .ok (.iadd, 1) := by decide +kernel
theorem dX1_wallBehind_9 : decode cX1_wallBehind 9 = .ok (.iaload, 1) := by decide +kernel
theorem dX1_wallBehind_10 : decode cX1_wallBehind 10 = .ok (.ireturn, 1) := by decide +kernel
theorem dX1_openIn_0 : decode cX1_openIn 0 = .ok (.aload_n 0, 1) := by decide +kernel
theorem dX1_openIn_1 : decode cX1_openIn 1 = .ok (.getfield 19, 3) := by decide +kernel
theorem dX1_openIn_4 : decode cX1_openIn 4 = .ok (.iload_n 1, 1) := by decide +kernel
theorem dX1_openIn_5 : decode cX1_openIn 5 = .ok (.aaload, 1) := by decide +kernel
theorem dX1_openIn_6 : decode cX1_openIn 6 = .ok (.iload_n 2, 1) := by decide +kernel
theorem dX1_openIn_7 : decode cX1_openIn 7 = .ok (.iaload, 1) := by decide +kernel
theorem dX1_openIn_8 : decode cX1_openIn 8 = .ok (.ireturn, 1) := by decide +kernel
theorem dX1_nightOf_0 : decode cX1_nightOf 0 = .ok (.iconst 0, 1) := by decide +kernel
theorem dX1_nightOf_1 : decode cX1_nightOf 1 = .ok (.istore_n 2, 1) := by decide +kernel
theorem dX1_nightOf_2 : decode cX1_nightOf 2 = .ok (.iconst 0, 1) := by decide +kernel
theorem dX1_nightOf_3 : decode cX1_nightOf 3 = .ok (.istore_n 3, 1) := by decide +kernel
theorem dX1_nightOf_4 : decode cX1_nightOf 4 = .ok (.iload_n 3, 1) := by decide +kernel
theorem dX1_nightOf_5 : decode cX1_nightOf 5 = .ok (.bipush 96, 2) := by decide +kernel
theorem dX1_nightOf_7 : decode cX1_nightOf 7 = .ok (.if_icmp .ge 41, 3) := by decide +kernel
theorem dX1_nightOf_10 : decode cX1_nightOf 10 = .ok (.iload_n 3, 1) := by decide +kernel
theorem dX1_nightOf_11 : decode cX1_nightOf 11 = .ok (.bipush 24, 2) := by decide +kernel
theorem dX1_nightOf_13 : decode cX1_nightOf 13 = .ok (.irem, 1) := by decide +kernel
theorem dX1_nightOf_14 : decode cX1_nightOf 14 = .ok (.istore 4, 2) := by decide +kernel
theorem dX1_nightOf_16 : decode cX1_nightOf 16 = .ok (.iload 4, 2) := by decide +kernel
theorem dX1_nightOf_18 : decode cX1_nightOf 18 = .ok (.bipush 22, 2) := by decide +kernel
theorem dX1_nightOf_20 : decode cX1_nightOf 20 = .ok (.if_icmp .ge 9, 3) := by decide +kernel
theorem dX1_nightOf_23 : decode cX1_nightOf 23 = .ok (.iload 4, 2) := by decide +kernel
theorem dX1_nightOf_25 : decode cX1_nightOf 25 = .ok (.iconst 5, 1) := by decide +kernel
theorem dX1_nightOf_26 : decode cX1_nightOf 26 = .ok (.if_icmp .gt 16, 3) := by decide +kernel
theorem dX1_nightOf_29 : decode cX1_nightOf 29 = .ok (.iload_n 2, 1) := by decide +kernel
theorem dX1_nightOf_30 : decode cX1_nightOf 30 = .ok (.aload_n 0, 1) := by decide +kernel
theorem dX1_nightOf_31 : decode cX1_nightOf 31 = .ok (.getfield 11, 3) := by decide +kernel
theorem dX1_nightOf_34 : decode cX1_nightOf 34 = .ok (.iload_n 1, 1) := by decide +kernel
theorem dX1_nightOf_35 : decode cX1_nightOf 35 = .ok (.aaload, 1) := by decide +kernel
theorem dX1_nightOf_36 : decode cX1_nightOf 36 = .ok (.iload_n 3, 1) := by decide +kernel
theorem dX1_nightOf_37 : decode cX1_nightOf 37 = .ok (.iconst 1, 1) := by decide +kernel
theorem dX1_nightOf_38 : decode cX1_nightOf 38 = .ok (.iadd, 1) := by decide +kernel
theorem dX1_nightOf_39 : decode cX1_nightOf 39 = .ok (.iaload, 1) := by decide +kernel
theorem dX1_nightOf_40 : decode cX1_nightOf 40 = .ok (.iadd, 1) := by decide +kernel
theorem dX1_nightOf_41 : decode cX1_nightOf 41 = .ok (.istore_n 2, 1) := by decide +kernel
theorem dX1_nightOf_42 : decode cX1_nightOf 42 = .ok (.iinc 3 1, 3) := by decide +kernel
theorem dX1_nightOf_45 : decode cX1_nightOf 45 = .ok (.goto (-41), 3) := by decide +kernel
theorem dX1_nightOf_48 : decode cX1_nightOf 48 = .ok (.iload_n 2, 1) := by decide +kernel
theorem dX1_nightOf_49 : decode cX1_nightOf 49 = .ok (.ireturn, 1) := by decide +kernel
theorem dX1_nightOfAll_0 : decode cX1_nightOfAll 0 = .ok (.iconst 0, 1) := by decide +kernel
theorem dX1_nightOfAll_1 : decode cX1_nightOfAll 1 = .ok (.istore_n 2, 1) := by decide +kernel
theorem dX1_nightOfAll_2 : decode cX1_nightOfAll 2 = .ok (.iconst 0, 1) := by decide +kernel
theorem dX1_nightOfAll_3 : decode cX1_nightOfAll 3 = .ok (.istore_n 3, 1) := by decide +kernel
theorem dX1_nightOfAll_4 : decode cX1_nightOfAll 4 = .ok (.iload_n 3, 1) := by decide +kernel
theorem dX1_nightOfAll_5 : decode cX1_nightOfAll 5 = .ok (.iconst 5, 1) := by decide +kernel
theorem dX1_nightOfAll_6 : decode cX1_nightOfAll 6 = .ok (.if_icmp .ge 25, 3) := by decide +kernel
theorem dX1_nightOfAll_9 : decode cX1_nightOfAll 9 = .ok (.aload_n 1, 1) := by decide +kernel
theorem dX1_nightOfAll_10 : decode cX1_nightOfAll 10 = .ok (.iload_n 3, 1) := by decide +kernel
theorem dX1_nightOfAll_11 : decode cX1_nightOfAll 11 = .ok (.invokevirtual 31, 3) := by decide +kernel
theorem dX1_nightOfAll_14 : decode cX1_nightOfAll 14 = .ok (.ifCond .eq 11, 3) := by decide +kernel
theorem dX1_nightOfAll_17 : decode cX1_nightOfAll 17 = .ok (.iload_n 2, 1) := by decide +kernel
theorem dX1_nightOfAll_18 : decode cX1_nightOfAll 18 = .ok (.aload_n 0, 1) := by decide +kernel
theorem dX1_nightOfAll_19 : decode cX1_nightOfAll 19 = .ok (.iload_n 3, 1) := by decide +kernel
theorem dX1_nightOfAll_20 : decode cX1_nightOfAll 20 = .ok (.invokevirtual 82, 3) := by decide +kernel
theorem dX1_nightOfAll_23 : decode cX1_nightOfAll 23 = .ok (.iadd, 1) := by decide +kernel
theorem dX1_nightOfAll_24 : decode cX1_nightOfAll 24 = .ok (.istore_n 2, 1) := by decide +kernel
theorem dX1_nightOfAll_25 : decode cX1_nightOfAll 25 = .ok (.iinc 3 1, 3) := by decide +kernel
theorem dX1_nightOfAll_28 : decode cX1_nightOfAll 28 = .ok (.goto (-24), 3) := by decide +kernel
theorem dX1_nightOfAll_31 : decode cX1_nightOfAll 31 = .ok (.iload_n 2, 1) := by decide +kernel
theorem dX1_nightOfAll_32 : decode cX1_nightOfAll 32 = .ok (.ireturn, 1) := by decide +kernel
theorem dX1_longestAbove_0 : decode cX1_longestAbove 0 = .ok (.iconst 0, 1) := by decide +kernel
theorem dX1_longestAbove_1 : decode cX1_longestAbove 1 = .ok (.istore_n 3, 1) := by decide +kernel
theorem dX1_longestAbove_2 : decode cX1_longestAbove 2 = .ok (.iconst 0, 1) := by decide +kernel
theorem dX1_longestAbove_3 : decode cX1_longestAbove 3 = .ok (.istore 4, 2) := by decide +kernel
theorem dX1_longestAbove_5 : decode cX1_longestAbove 5 = .ok (.iconst 0, 1) := by decide +kernel
theorem dX1_longestAbove_6 : decode cX1_longestAbove 6 = .ok (.istore 5, 2) := by decide +kernel
theorem dX1_longestAbove_8 : decode cX1_longestAbove 8 = .ok (.iload 5, 2) := by decide +kernel
theorem dX1_longestAbove_10 : decode cX1_longestAbove 10 = .ok (.bipush 96, 2) := by decide +kernel
theorem dX1_longestAbove_12 : decode cX1_longestAbove 12 = .ok (.if_icmp .ge 41, 3) := by decide +kernel
theorem dX1_longestAbove_15 : decode cX1_longestAbove 15 = .ok (.aload_n 0, 1) := by decide +kernel
theorem dX1_longestAbove_16 : decode cX1_longestAbove 16 = .ok (.getfield 11, 3) := by decide +kernel
theorem dX1_longestAbove_19 : decode cX1_longestAbove 19 = .ok (.iload_n 1, 1) := by decide +kernel
theorem dX1_longestAbove_20 : decode cX1_longestAbove 20 = .ok (.aaload, 1) := by decide +kernel
theorem dX1_longestAbove_21 : decode cX1_longestAbove 21 = .ok (.iload 5, 2) := by decide +kernel
theorem dX1_longestAbove_23 : decode cX1_longestAbove 23 = .ok (.iconst 1, 1) := by decide +kernel
theorem dX1_longestAbove_24 : decode cX1_longestAbove 24 = .ok (.iadd, 1) := by decide +kernel
theorem dX1_longestAbove_25 : decode cX1_longestAbove 25 = .ok (.iaload, 1) := by decide +kernel
theorem dX1_longestAbove_26 : decode cX1_longestAbove 26 = .ok (.iload_n 2, 1) := by decide +kernel
theorem dX1_longestAbove_27 : decode cX1_longestAbove 27 = .ok (.if_icmp .le 10, 3) := by decide +kernel
theorem dX1_longestAbove_30 : decode cX1_longestAbove 30 = .ok (.iload 4, 2) := by decide +kernel
theorem dX1_longestAbove_32 : decode cX1_longestAbove 32 = .ok (.iconst 1, 1) := by decide +kernel
theorem dX1_longestAbove_33 : decode cX1_longestAbove 33 = .ok (.iadd, 1) := by decide +kernel
theorem dX1_longestAbove_34 : decode cX1_longestAbove 34 = .ok (.goto 4, 3) := by decide +kernel
theorem dX1_longestAbove_37 : decode cX1_longestAbove 37 = .ok (.iconst 0, 1) := by decide +kernel
theorem dX1_longestAbove_38 : decode cX1_longestAbove 38 = .ok (.istore 4, 2) := by decide +kernel
theorem dX1_longestAbove_40 : decode cX1_longestAbove 40 = .ok (.iload_n 3, 1) := by decide +kernel
theorem dX1_longestAbove_41 : decode cX1_longestAbove 41 = .ok (.iload 4, 2) := by decide +kernel
theorem dX1_longestAbove_43 : decode cX1_longestAbove 43 = .ok (.invokestatic 85, 3) := by decide +kernel
theorem dX1_longestAbove_46 : decode cX1_longestAbove 46 = .ok (.istore_n 3, 1) := by decide +kernel
theorem dX1_longestAbove_47 : decode cX1_longestAbove 47 = .ok (.iinc 5 1, 3) := by decide +kernel
theorem dX1_longestAbove_50 : decode cX1_longestAbove 50 = .ok (.goto (-42), 3) := by decide +kernel
theorem dX1_longestAbove_53 : decode cX1_longestAbove 53 = .ok (.iload_n 3, 1) := by decide +kernel
theorem dX1_longestAbove_54 : decode cX1_longestAbove 54 = .ok (.ireturn, 1) := by decide +kernel
theorem dX2_init_0 : decode cX2_init 0 = .ok (.aload_n 0, 1) := by decide +kernel
theorem dX2_init_1 : decode cX2_init 1 = .ok (.invokespecial 3, 3) := by decide +kernel
theorem dX2_init_4 : decode cX2_init 4 = .ok (.aload_n 0, 1) := by decide +kernel
theorem dX2_init_5 : decode cX2_init 5 = .ok (.bipush 8, 2) := by decide +kernel
theorem dX2_init_7 : decode cX2_init 7 = .ok (.newarray .int, 2) := by decide +kernel
theorem dX2_init_9 : decode cX2_init 9 = .ok (.putfield 11, 3) := by decide +kernel
theorem dX2_init_12 : decode cX2_init 12 = .ok (.aload_n 0, 1) := by decide +kernel
theorem dX2_init_13 : decode cX2_init 13 = .ok (.bipush 8, 2) := by decide +kernel
theorem dX2_init_15 : decode cX2_init 15 = .ok (.newarray .int, 2) := by decide +kernel
theorem dX2_init_17 : decode cX2_init 17 = .ok (.putfield 15, 3) := by decide +kernel
theorem dX2_init_20 : decode cX2_init 20 = .ok (.aload_n 0, 1) := by decide +kernel
theorem dX2_init_21 : decode cX2_init 21 = .ok (.bipush 8, 2) := by decide +kernel
theorem dX2_init_23 : decode cX2_init 23 = .ok (.newarray .int, 2) := by decide +kernel
theorem dX2_init_25 : decode cX2_init 25 = .ok (.putfield 18, 3) := by decide +kernel
theorem dX2_init_28 : decode cX2_init 28 = .ok (.aload_n 0, 1) := by decide +kernel
theorem dX2_init_29 : decode cX2_init 29 = .ok (.iconst 0, 1) := by decide +kernel
theorem dX2_init_30 : decode cX2_init 30 = .ok (.putfield 21, 3) := by decide +kernel
theorem dX2_init_33 : decode cX2_init 33 = .ok (.aload_n 0, 1) := by decide +kernel
theorem dX2_init_34 : decode cX2_init 34 = .ok (.iconst 0, 1) := by decide +kernel
theorem dX2_init_35 : decode cX2_init 35 = .ok (.putfield 25, 3) := by decide +kernel
theorem dX2_init_38 : decode cX2_init 38 = .ok (.return_, 1) := by decide +kernel
theorem dX2_size_0 : decode cX2_size 0 = .ok (.aload_n 0, 1) := by decide +kernel
theorem dX2_size_1 : decode cX2_size 1 = .ok (.getfield 21, 3) := by decide +kernel
theorem dX2_size_4 : decode cX2_size 4 = .ok (.ireturn, 1) := by decide +kernel
theorem dX2_isFull_0 : decode cX2_isFull 0 = .ok (.aload_n 0, 1) := by decide +kernel
theorem dX2_isFull_1 : decode cX2_isFull 1 = .ok (.getfield 21, 3) := by decide +kernel
theorem dX2_isFull_4 : decode cX2_isFull 4 = .ok (.bipush 8, 2) := by decide +kernel
theorem dX2_isFull_6 : decode cX2_isFull 6 = .ok (.if_icmp .lt 7, 3) := by decide +kernel
theorem dX2_isFull_9 : decode cX2_isFull 9 = .ok (.iconst 1, 1) := by decide +kernel
theorem dX2_isFull_10 : decode cX2_isFull 10 = .ok (.goto 4, 3) := by decide +kernel
theorem dX2_isFull_13 : decode cX2_isFull 13 = .ok (.iconst 0, 1) := by decide +kernel
theorem dX2_isFull_14 : decode cX2_isFull 14 = .ok (.ireturn, 1) := by decide +kernel
theorem dX2_add_0 : decode cX2_add 0 = .ok (.aload_n 0, 1) := by decide +kernel
theorem dX2_add_1 : decode cX2_add 1 = .ok (.invokevirtual 28, 3) := by decide +kernel
theorem dX2_add_4 : decode cX2_add 4 = .ok (.ifCond .eq 6, 3) := by decide +kernel
theorem dX2_add_7 : decode cX2_add 7 = .ok (.bipush (-5), 2) := by decide +kernel
theorem dX2_add_9 : decode cX2_add 9 = .ok (.ireturn, 1) := by decide +kernel
theorem dX2_add_10 : decode cX2_add 10 = .ok (.aload_n 0, 1) := by decide +kernel
theorem dX2_add_11 : decode cX2_add 11 = .ok (.getfield 11, 3) := by decide +kernel
theorem dX2_add_14 : decode cX2_add 14 = .ok (.aload_n 0, 1) := by decide +kernel
theorem dX2_add_15 : decode cX2_add 15 = .ok (.getfield 21, 3) := by decide +kernel
theorem dX2_add_18 : decode cX2_add 18 = .ok (.iload_n 1, 1) := by decide +kernel
theorem dX2_add_19 : decode cX2_add 19 = .ok (.iastore, 1) := by decide +kernel
theorem dX2_add_20 : decode cX2_add 20 = .ok (.aload_n 0, 1) := by decide +kernel
theorem dX2_add_21 : decode cX2_add 21 = .ok (.getfield 15, 3) := by decide +kernel
theorem dX2_add_24 : decode cX2_add 24 = .ok (.aload_n 0, 1) := by decide +kernel
theorem dX2_add_25 : decode cX2_add 25 = .ok (.getfield 21, 3) := by decide +kernel
theorem dX2_add_28 : decode cX2_add 28 = .ok (.iload_n 2, 1) := by decide +kernel
theorem dX2_add_29 : decode cX2_add 29 = .ok (.iastore, 1) := by decide +kernel
theorem dX2_add_30 : decode cX2_add 30 = .ok (.aload_n 0, 1) := by decide +kernel
theorem dX2_add_31 : decode cX2_add 31 = .ok (.getfield 18, 3) := by decide +kernel
theorem dX2_add_34 : decode cX2_add 34 = .ok (.aload_n 0, 1) := by decide +kernel
theorem dX2_add_35 : decode cX2_add 35 = .ok (.getfield 21, 3) := by decide +kernel
theorem dX2_add_38 : decode cX2_add 38 = .ok (.iload_n 3, 1) := by decide +kernel
theorem dX2_add_39 : decode cX2_add 39 = .ok (.iastore, 1) := by decide +kernel
theorem dX2_add_40 : decode cX2_add 40 = .ok (.aload_n 0, 1) := by decide +kernel
theorem dX2_add_41 : decode cX2_add 41 = .ok (.dup, 1) := by decide +kernel
theorem dX2_add_42 : decode cX2_add 42 = .ok (.getfield 21, 3) := by decide +kernel
theorem dX2_add_45 : decode cX2_add 45 = .ok (.iconst 1, 1) := by decide +kernel
theorem dX2_add_46 : decode cX2_add 46 = .ok (.iadd, 1) := by decide +kernel
theorem dX2_add_47 : decode cX2_add 47 = .ok (.putfield 21, 3) := by decide +kernel
theorem dX2_add_50 : decode cX2_add 50 = .ok (.aload_n 0, 1) := by decide +kernel
theorem dX2_add_51 : decode cX2_add 51 = .ok (.getfield 21, 3) := by decide +kernel
theorem dX2_add_54 : decode cX2_add 54 = .ok (.ireturn, 1) := by decide +kernel
theorem dX2_learn_0 : decode cX2_learn 0 = .ok (.aload_n 0, 1) := by decide +kernel
theorem dX2_learn_1 : decode cX2_learn 1 = .ok (.iconst 0, 1) := by decide +kernel
theorem dX2_learn_2 : decode cX2_learn 2 = .ok (.putfield 25, 3) := by decide +kernel
theorem dX2_learn_5 : decode cX2_learn 5 = .ok (.aload_n 3, 1) := by decide +kernel
theorem dX2_learn_6 : decode cX2_learn 6 = .ok (.aload_n 2, 1) := by decide +kernel
theorem dX2_learn_7 : decode cX2_learn 7 = .ok (.invokevirtual 32, 3) := by decide +kernel
theorem dX2_learn_10 : decode cX2_learn 10 = .ok (.iconst 0, 1) := by decide +kernel
theorem dX2_learn_11 : decode cX2_learn 11 = .ok (.istore 5, 2) := by decide +kernel
theorem dX2_learn_13 : decode cX2_learn 13 = .ok (.iload 5, 2) := by decide +kernel
theorem dX2_learn_15 : decode cX2_learn 15 = .ok (.bipush 40, 2) := by decide +kernel
theorem dX2_learn_17 : decode cX2_learn 17 = .ok (.if_icmp .gt 59, 3) := by decide +kernel
theorem dX2_learn_20 : decode cX2_learn 20 = .ok (.iconst 0, 1) := by decide +kernel
theorem dX2_learn_21 : decode cX2_learn 21 = .ok (.istore 6, 2) := by decide +kernel
theorem dX2_learn_23 : decode cX2_learn 23 = .ok (.iload 6, 2) := by decide +kernel
theorem dX2_learn_25 : decode cX2_learn 25 = .ok (.bipush 40, 2) := by decide +kernel
theorem dX2_learn_27 : decode cX2_learn 27 = .ok (.if_icmp .gt 43, 3) := by decide +kernel
theorem dX2_learn_30 : decode cX2_learn 30 = .ok (.aload_n 3, 1) := by decide +kernel
theorem dX2_learn_31 : decode cX2_learn 31 = .ok (.iload 5, 2) := by decide +kernel
theorem dX2_learn_33 : decode cX2_learn 33 = .ok (.iload 6, 2) := by decide +kernel
theorem dX2_learn_35 : decode cX2_learn 35 = .ok (.invokevirtual 38, 3) := by decide +kernel
theorem dX2_learn_38 : decode cX2_learn 38 = .ok (.aload 4, 2) := by decide +kernel
theorem dX2_learn_40 : decode cX2_learn 40 = .ok (.aload_n 2, 1) := by decide +kernel
theorem dX2_learn_41 : decode cX2_learn 41 = .ok (.aload_n 3, 1) := by decide +kernel
theorem dX2_learn_42 : decode cX2_learn 42 = .ok (.invokevirtual 42, 3) := by decide +kernel
theorem dX2_learn_45 : decode cX2_learn 45 = .ok (.aload_n 0, 1) := by decide +kernel
theorem dX2_learn_46 : decode cX2_learn 46 = .ok (.iload_n 1, 1) := by decide +kernel
theorem dX2_learn_47 : decode cX2_learn 47 = .ok (.aload_n 2, 1) := by decide +kernel
theorem dX2_learn_48 : decode cX2_learn 48 = .ok (.aload 4, 2) := by decide +kernel
theorem dX2_learn_50 : decode cX2_learn 50 = .ok (.invokevirtual 48, 3) := by decide +kernel
theorem dX2_learn_53 : decode cX2_learn 53 = .ok (.ifCond .eq 11, 3) := by decide +kernel
theorem dX2_learn_56 : decode cX2_learn 56 = .ok (.aload_n 0, 1) := by decide +kernel
theorem dX2_learn_57 : decode cX2_learn 57 = .ok (.iload 5, 2) := by decide +kernel
theorem dX2_learn_59 : decode cX2_learn 59 = .ok (.iload 6, 2) := by decide +kernel
theorem dX2_learn_61 : decode cX2_learn 61 = .ok (.invokevirtual 52, 3) := by decide +kernel
theorem dX2_learn_64 : decode cX2_learn 64 = .ok (.iinc 6 5, 3) := by decide +kernel
theorem dX2_learn_67 : decode cX2_learn 67 = .ok (.goto (-44), 3) := by decide +kernel
theorem dX2_learn_70 : decode cX2_learn 70 = .ok (.iinc 5 5, 3) := by decide +kernel
theorem dX2_learn_73 : decode cX2_learn 73 = .ok (.goto (-60), 3) := by decide +kernel
theorem dX2_learn_76 : decode cX2_learn 76 = .ok (.return_, 1) := by decide +kernel
theorem dX2_allHold_0 : decode cX2_allHold 0 = .ok (.iconst 0, 1) := by decide +kernel
theorem dX2_allHold_1 : decode cX2_allHold 1 = .ok (.istore 4, 2) := by decide +kernel
theorem dX2_allHold_3 : decode cX2_allHold 3 = .ok (.iload 4, 2) := by decide +kernel
theorem dX2_allHold_5 : decode cX2_allHold 5 = .ok (.aload_n 0, 1) := by decide +kernel
theorem dX2_allHold_6 : decode cX2_allHold 6 = .ok (.getfield 21, 3) := by decide +kernel
theorem dX2_allHold_9 : decode cX2_allHold 9 = .ok (.if_icmp .ge 58, 3) := by decide +kernel
theorem dX2_allHold_12 : decode cX2_allHold 12 = .ok (.aload_n 2, 1) := by decide +kernel
theorem dX2_allHold_13 : decode cX2_allHold 13 = .ok (.aload_n 0, 1) := by decide +kernel
theorem dX2_allHold_14 : decode cX2_allHold 14 = .ok (.getfield 11, 3) := by decide +kernel
theorem dX2_allHold_17 : decode cX2_allHold 17 = .ok (.iload 4, 2) := by decide +kernel
theorem dX2_allHold_19 : decode cX2_allHold 19 = .ok (.iaload, 1) := by decide +kernel
theorem dX2_allHold_20 : decode cX2_allHold 20 = .ok (.invokevirtual 55, 3) := by decide +kernel
theorem dX2_allHold_23 : decode cX2_allHold 23 = .ok (.ifCond .eq 36, 3) := by decide +kernel
theorem dX2_allHold_26 : decode cX2_allHold 26 = .ok (.aload_n 3, 1) := by decide +kernel
theorem dX2_allHold_27 : decode cX2_allHold 27 = .ok (.aload_n 0, 1) := by decide +kernel
theorem dX2_allHold_28 : decode cX2_allHold 28 = .ok (.getfield 11, 3) := by decide +kernel
theorem dX2_allHold_31 : decode cX2_allHold 31 = .ok (.iload 4, 2) := by decide +kernel
theorem dX2_allHold_33 : decode cX2_allHold 33 = .ok (.iaload, 1) := by decide +kernel
theorem dX2_allHold_34 : decode cX2_allHold 34 = .ok (.aload_n 0, 1) := by decide +kernel
theorem dX2_allHold_35 : decode cX2_allHold 35 = .ok (.getfield 15, 3) := by decide +kernel
theorem dX2_allHold_38 : decode cX2_allHold 38 = .ok (.iload 4, 2) := by decide +kernel
theorem dX2_allHold_40 : decode cX2_allHold 40 = .ok (.iaload, 1) := by decide +kernel
theorem dX2_allHold_41 : decode cX2_allHold 41 = .ok (.invokevirtual 61, 3) := by decide +kernel
theorem dX2_allHold_44 : decode cX2_allHold 44 = .ok (.aload_n 0, 1) := by decide +kernel
theorem dX2_allHold_45 : decode cX2_allHold 45 = .ok (.getfield 18, 3) := by decide +kernel
theorem dX2_allHold_48 : decode cX2_allHold 48 = .ok (.iload 4, 2) := by decide +kernel
theorem dX2_allHold_50 : decode cX2_allHold 50 = .ok (.iaload, 1) := by decide +kernel
theorem dX2_allHold_51 : decode cX2_allHold 51 = .ok (.isub, 1) := by decide +kernel
theorem dX2_allHold_52 : decode cX2_allHold 52 = .ok (.invokestatic 65, 3) := by decide +kernel
theorem dX2_allHold_55 : decode cX2_allHold 55 = .ok (.iload_n 1, 1) := by decide +kernel
theorem dX2_allHold_56 : decode cX2_allHold 56 = .ok (.if_icmp .le 5, 3) := by decide +kernel
theorem dX2_allHold_59 : decode cX2_allHold 59 = .ok (.iconst 0, 1) := by decide +kernel
theorem dX2_allHold_60 : decode cX2_allHold 60 = .ok (.ireturn, 1) := by decide +kernel
theorem dX2_allHold_61 : decode cX2_allHold 61 = .ok (.iinc 4 1, 3) := by decide +kernel
theorem dX2_allHold_64 : decode cX2_allHold 64 = .ok (.goto (-61), 3) := by decide +kernel
theorem dX2_allHold_67 : decode cX2_allHold 67 = .ok (.iconst 1, 1) := by decide +kernel
theorem dX2_allHold_68 : decode cX2_allHold 68 = .ok (.ireturn, 1) := by decide +kernel
theorem dX2_keep_0 : decode cX2_keep 0 = .ok (.aload_n 0, 1) := by decide +kernel
theorem dX2_keep_1 : decode cX2_keep 1 = .ok (.getfield 25, 3) := by decide +kernel
theorem dX2_keep_4 : decode cX2_keep 4 = .ok (.ifCond .ne 7, 3) := by decide +kernel
theorem dX2_keep_7 : decode cX2_keep 7 = .ok (.iconst 1, 1) := by decide +kernel
theorem dX2_keep_8 : decode cX2_keep 8 = .ok (.goto 4, 3) := by decide +kernel
theorem dX2_keep_11 : decode cX2_keep 11 = .ok (.iconst 0, 1) := by decide +kernel
theorem dX2_keep_12 : decode cX2_keep 12 = .ok (.istore_n 3, 1) := by decide +kernel
theorem dX2_keep_13 : decode cX2_keep 13 = .ok (.aload_n 0, 1) := by decide +kernel
theorem dX2_keep_14 : decode cX2_keep 14 = .ok (.iload_n 3, 1) := by decide +kernel
theorem dX2_keep_15 : decode cX2_keep 15 = .ok (.ifCond .eq 7, 3) := by decide +kernel
theorem dX2_keep_18 : decode cX2_keep 18 = .ok (.iload_n 1, 1) := by decide +kernel
theorem dX2_keep_19 : decode cX2_keep 19 = .ok (.goto 11, 3) := by decide +kernel
theorem dX2_keep_22 : decode cX2_keep 22 = .ok (.aload_n 0, 1) := by decide +kernel
theorem dX2_keep_23 : decode cX2_keep 23 = .ok (.getfield 71, 3) := by decide +kernel
theorem dX2_keep_26 : decode cX2_keep 26 = .ok (.iload_n 1, 1) := by decide +kernel
theorem dX2_keep_27 : decode cX2_keep 27 = .ok (.invokestatic 74, 3) := by decide +kernel
theorem dX2_keep_30 : decode cX2_keep 30 = .ok (.putfield 71, 3) := by decide +kernel
theorem dX2_keep_33 : decode cX2_keep 33 = .ok (.aload_n 0, 1) := by decide +kernel
theorem dX2_keep_34 : decode cX2_keep 34 = .ok (.iload_n 3, 1) := by decide +kernel
theorem dX2_keep_35 : decode cX2_keep 35 = .ok (.ifCond .eq 7, 3) := by decide +kernel
theorem dX2_keep_38 : decode cX2_keep 38 = .ok (.iload_n 1, 1) := by decide +kernel
theorem dX2_keep_39 : decode cX2_keep 39 = .ok (.goto 11, 3) := by decide +kernel
theorem dX2_keep_42 : decode cX2_keep 42 = .ok (.aload_n 0, 1) := by decide +kernel
theorem dX2_keep_43 : decode cX2_keep 43 = .ok (.getfield 77, 3) := by decide +kernel
theorem dX2_keep_46 : decode cX2_keep 46 = .ok (.iload_n 1, 1) := by decide +kernel
theorem dX2_keep_47 : decode cX2_keep 47 = .ok (.invokestatic 80, 3) := by decide +kernel
theorem dX2_keep_50 : decode cX2_keep 50 = .ok (.putfield 77, 3) := by decide +kernel
theorem dX2_keep_53 : decode cX2_keep 53 = .ok (.aload_n 0, 1) := by decide +kernel
theorem dX2_keep_54 : decode cX2_keep 54 = .ok (.iload_n 3, 1) := by decide +kernel
theorem dX2_keep_55 : decode cX2_keep 55 = .ok (.ifCond .eq 7, 3) := by decide +kernel
theorem dX2_keep_58 : decode cX2_keep 58 = .ok (.iload_n 2, 1) := by decide +kernel
theorem dX2_keep_59 : decode cX2_keep 59 = .ok (.goto 11, 3) := by decide +kernel
theorem dX2_keep_62 : decode cX2_keep 62 = .ok (.aload_n 0, 1) := by decide +kernel
theorem dX2_keep_63 : decode cX2_keep 63 = .ok (.getfield 83, 3) := by decide +kernel
theorem dX2_keep_66 : decode cX2_keep 66 = .ok (.iload_n 2, 1) := by decide +kernel
theorem dX2_keep_67 : decode cX2_keep 67 = .ok (.invokestatic 74, 3) := by decide +kernel
theorem dX2_keep_70 : decode cX2_keep 70 = .ok (.putfield 83, 3) := by decide +kernel
theorem dX2_keep_73 : decode cX2_keep 73 = .ok (.aload_n 0, 1) := by decide +kernel
theorem dX2_keep_74 : decode cX2_keep 74 = .ok (.iload_n 3, 1) := by decide +kernel
theorem dX2_keep_75 : decode cX2_keep 75 = .ok (.ifCond .eq 7, 3) := by decide +kernel
theorem dX2_keep_78 : decode cX2_keep 78 = .ok (.iload_n 2, 1) := by decide +kernel
theorem dX2_keep_79 : decode cX2_keep 79 = .ok (.goto 11, 3) := by decide +kernel
theorem dX2_keep_82 : decode cX2_keep 82 = .ok (.aload_n 0, 1) := by decide +kernel
theorem dX2_keep_83 : decode cX2_keep 83 = .ok (.getfield 86, 3) := by decide +kernel
theorem dX2_keep_86 : decode cX2_keep 86 = .ok (.iload_n 2, 1) := by decide +kernel
theorem dX2_keep_87 : decode cX2_keep 87 = .ok (.invokestatic 80, 3) := by decide +kernel
theorem dX2_keep_90 : decode cX2_keep 90 = .ok (.putfield 86, 3) := by decide +kernel
theorem dX2_keep_93 : decode cX2_keep 93 = .ok (.aload_n 0, 1) := by decide +kernel
theorem dX2_keep_94 : decode cX2_keep 94 = .ok (.dup, 1) := by decide +kernel
theorem dX2_keep_95 : decode cX2_keep 95 = .ok (.getfield 25, 3) := by decide +kernel
theorem dX2_keep_98 : decode cX2_keep 98 = .ok (.iconst 1, 1) := by decide +kernel
theorem dX2_keep_99 : decode cX2_keep 99 = .ok (.iadd, 1) := by decide +kernel
theorem dX2_keep_100 : decode cX2_keep 100 = .ok (.putfield 25, 3) := by decide +kernel
theorem dX2_keep_103 : decode cX2_keep 103 = .ok (.return_, 1) := by decide +kernel
theorem dX2_laws_0 : decode cX2_laws 0 = .ok (.aload_n 0, 1) := by decide +kernel
theorem dX2_laws_1 : decode cX2_laws 1 = .ok (.getfield 25, 3) := by decide +kernel
theorem dX2_laws_4 : decode cX2_laws 4 = .ok (.ireturn, 1) := by decide +kernel
theorem dX2_bound_0 : decode cX2_bound 0 = .ok (.iload_n 1, 1) := by decide +kernel
theorem dX2_bound_1 : decode cX2_bound 1 = .ok (.tableswitch 42 1 3 #[27, 32, 37], 27) := by decide +kernel
theorem dX2_bound_28 : decode cX2_bound 28 = .ok (.aload_n 0, 1) := by decide +kernel
theorem dX2_bound_29 : decode cX2_bound 29 = .ok (.getfield 71, 3) := by decide +kernel
theorem dX2_bound_32 : decode cX2_bound 32 = .ok (.ireturn, 1) := by decide +kernel
theorem dX2_bound_33 : decode cX2_bound 33 = .ok (.aload_n 0, 1) := by decide +kernel
theorem dX2_bound_34 : decode cX2_bound 34 = .ok (.getfield 77, 3) := by decide +kernel
theorem dX2_bound_37 : decode cX2_bound 37 = .ok (.ireturn, 1) := by decide +kernel
theorem dX2_bound_38 : decode cX2_bound 38 = .ok (.aload_n 0, 1) := by decide +kernel
theorem dX2_bound_39 : decode cX2_bound 39 = .ok (.getfield 83, 3) := by decide +kernel
theorem dX2_bound_42 : decode cX2_bound 42 = .ok (.ireturn, 1) := by decide +kernel
theorem dX2_bound_43 : decode cX2_bound 43 = .ok (.aload_n 0, 1) := by decide +kernel
theorem dX2_bound_44 : decode cX2_bound 44 = .ok (.getfield 86, 3) := by decide +kernel
theorem dX2_bound_47 : decode cX2_bound 47 = .ok (.ireturn, 1) := by decide +kernel
theorem dX3_init_0 : decode cX3_init 0 = .ok (.aload_n 0, 1) := by decide +kernel
theorem dX3_init_1 : decode cX3_init 1 = .ok (.invokespecial 3, 3) := by decide +kernel
theorem dX3_init_4 : decode cX3_init 4 = .ok (.aload_n 0, 1) := by decide +kernel
theorem dX3_init_5 : decode cX3_init 5 = .ok (.iconst 5, 1) := by decide +kernel
theorem dX3_init_6 : decode cX3_init 6 = .ok (.newarray .boolean, 2) := by decide +kernel
theorem dX3_init_8 : decode cX3_init 8 = .ok (.putfield 9, 3) := by decide +kernel
theorem dX3_init_11 : decode cX3_init 11 = .ok (.aload_n 0, 1) := by decide +kernel
theorem dX3_init_12 : decode cX3_init 12 = .ok (.iconst 5, 1) := by decide +kernel
theorem dX3_init_13 : decode cX3_init 13 = .ok (.newarray .int, 2) := by decide +kernel
theorem dX3_init_15 : decode cX3_init 15 = .ok (.putfield 15, 3) := by decide +kernel
theorem dX3_init_18 : decode cX3_init 18 = .ok (.aload_n 0, 1) := by decide +kernel
theorem dX3_init_19 : decode cX3_init 19 = .ok (.iconst 5, 1) := by decide +kernel
theorem dX3_init_20 : decode cX3_init 20 = .ok (.newarray .int, 2) := by decide +kernel
theorem dX3_init_22 : decode cX3_init 22 = .ok (.putfield 19, 3) := by decide +kernel
theorem dX3_init_25 : decode cX3_init 25 = .ok (.aload_n 0, 1) := by decide +kernel
theorem dX3_init_26 : decode cX3_init 26 = .ok (.iconst 5, 1) := by decide +kernel
theorem dX3_init_27 : decode cX3_init 27 = .ok (.newarray .int, 2) := by decide +kernel
theorem dX3_init_29 : decode cX3_init 29 = .ok (.putfield 22, 3) := by decide +kernel
theorem dX3_init_32 : decode cX3_init 32 = .ok (.aload_n 0, 1) := by decide +kernel
theorem dX3_init_33 : decode cX3_init 33 = .ok (.iconst 5, 1) := by decide +kernel
theorem dX3_init_34 : decode cX3_init 34 = .ok (.newarray .int, 2) := by decide +kernel
theorem dX3_init_36 : decode cX3_init 36 = .ok (.putfield 25, 3) := by decide +kernel
theorem dX3_init_39 : decode cX3_init 39 = .ok (.aload_n 0, 1) := by decide +kernel
theorem dX3_init_40 : decode cX3_init 40 = .ok (.iconst 5, 1) := by decide +kernel
theorem dX3_init_41 : decode cX3_init 41 = .ok (.newarray .int, 2) := by decide +kernel
theorem dX3_init_43 : decode cX3_init 43 = .ok (.putfield 28, 3) := by decide +kernel
theorem dX3_init_46 : decode cX3_init 46 = .ok (.aload_n 0, 1) := by decide +kernel
theorem dX3_init_47 : decode cX3_init 47 = .ok (.iconst 5, 1) := by decide +kernel
theorem dX3_init_48 : decode cX3_init 48 = .ok (.newarray .int, 2) := by decide +kernel
theorem dX3_init_50 : decode cX3_init 50 = .ok (.putfield 31, 3) := by decide +kernel
theorem dX3_init_53 : decode cX3_init 53 = .ok (.aload_n 0, 1) := by decide +kernel
theorem dX3_init_54 : decode cX3_init 54 = .ok (.iconst 5, 1) := by decide +kernel
theorem dX3_init_55 : decode cX3_init 55 = .ok (.newarray .int, 2) := by decide +kernel
theorem dX3_init_57 : decode cX3_init 57 = .ok (.putfield 34, 3) := by decide +kernel
theorem dX3_init_60 : decode cX3_init 60 = .ok (.aload_n 0, 1) := by decide +kernel
theorem dX3_init_61 : decode cX3_init 61 = .ok (.iconst 5, 1) := by decide +kernel
theorem dX3_init_62 : decode cX3_init 62 = .ok (.iconst 5, 1) := by decide +kernel
theorem dX3_init_63 : decode cX3_init 63 = .ok (.multianewarray 37 2, 4) := by decide +kernel
theorem dX3_init_67 : decode cX3_init 67 = .ok (.putfield 39, 3) := by decide +kernel
theorem dX3_init_70 : decode cX3_init 70 = .ok (.aload_n 0, 1) := by decide +kernel
theorem dX3_init_71 : decode cX3_init 71 = .ok (.ldc 42, 2) := by decide +kernel
theorem dX3_init_73 : decode cX3_init 73 = .ok (.putfield 43, 3) := by decide +kernel
theorem dX3_init_76 : decode cX3_init 76 = .ok (.aload_n 0, 1) := by decide +kernel
theorem dX3_init_77 : decode cX3_init 77 = .ok (.sipush 200, 3) := by decide +kernel
theorem dX3_init_80 : decode cX3_init 80 = .ok (.putfield 47, 3) := by decide +kernel
theorem dX3_init_83 : decode cX3_init 83 = .ok (.aload_n 0, 1) := by decide +kernel
theorem dX3_init_84 : decode cX3_init 84 = .ok (.sipush 320, 3) := by decide +kernel
theorem dX3_init_87 : decode cX3_init 87 = .ok (.putfield 50, 3) := by decide +kernel
theorem dX3_init_90 : decode cX3_init 90 = .ok (.aload_n 0, 1) := by decide +kernel
theorem dX3_init_91 : decode cX3_init 91 = .ok (.bipush 10, 2) := by decide +kernel
theorem dX3_init_93 : decode cX3_init 93 = .ok (.putfield 53, 3) := by decide +kernel
theorem dX3_init_96 : decode cX3_init 96 = .ok (.aload_n 0, 1) := by decide +kernel
theorem dX3_init_97 : decode cX3_init 97 = .ok (.bipush 20, 2) := by decide +kernel
theorem dX3_init_99 : decode cX3_init 99 = .ok (.putfield 56, 3) := by decide +kernel
theorem dX3_init_102 : decode cX3_init 102 = .ok (.aload_n 0, 1) := by decide +kernel
theorem dX3_init_103 : decode cX3_init 103 = .ok (.bipush 20, 2) := by decide +kernel
theorem dX3_init_105 : decode cX3_init 105 = .ok (.putfield 59, 3) := by decide +kernel
theorem dX3_init_108 : decode cX3_init 108 = .ok (.aload_n 0, 1) := by decide +kernel
theorem dX3_init_109 : decode cX3_init 109 = .ok (.bipush 10, 2) := by decide +kernel
theorem dX3_init_111 : decode cX3_init 111 = .ok (.putfield 62, 3) := by decide +kernel
theorem dX3_init_114 : decode cX3_init 114 = .ok (.aload_n 0, 1) := by decide +kernel
theorem dX3_init_115 : decode cX3_init 115 = .ok (.iconst 3, 1) := by decide +kernel
theorem dX3_init_116 : decode cX3_init 116 = .ok (.putfield 65, 3) := by decide +kernel
theorem dX3_init_119 : decode cX3_init 119 = .ok (.aload_n 0, 1) := by decide +kernel
theorem dX3_init_120 : decode cX3_init 120 = .ok (.bipush 40, 2) := by decide +kernel
theorem dX3_init_122 : decode cX3_init 122 = .ok (.putfield 68, 3) := by decide +kernel
theorem dX3_init_125 : decode cX3_init 125 = .ok (.return_, 1) := by decide +kernel
theorem dX3_wordOf_0 : decode cX3_wordOf 0 = .ok (.iload_n 0, 1) := by decide +kernel
theorem dX3_wordOf_1 : decode cX3_wordOf 1 = .ok (.tableswitch 78 0 8 #[51, 54, 57, 60, 63, 66, 69, 72, 75], 51) := by decide +kernel
theorem dX3_wordOf_52 : decode cX3_wordOf 52 = .ok (.ldc 71, 2) := by decide +kernel
theorem dX3_wordOf_54 : decode cX3_wordOf 54 = .ok (.areturn, 1) := by decide +kernel
theorem dX3_wordOf_55 : decode cX3_wordOf 55 = .ok (.ldc 73, 2) := by decide +kernel
theorem dX3_wordOf_57 : decode cX3_wordOf 57 = .ok (.areturn, 1) := by decide +kernel
theorem dX3_wordOf_58 : decode cX3_wordOf 58 = .ok (.ldc 75, 2) := by decide +kernel
theorem dX3_wordOf_60 : decode cX3_wordOf 60 = .ok (.areturn, 1) := by decide +kernel
theorem dX3_wordOf_61 : decode cX3_wordOf 61 = .ok (.ldc 77, 2) := by decide +kernel
theorem dX3_wordOf_63 : decode cX3_wordOf 63 = .ok (.areturn, 1) := by decide +kernel
theorem dX3_wordOf_64 : decode cX3_wordOf 64 = .ok (.ldc 78, 2) := by decide +kernel
theorem dX3_wordOf_66 : decode cX3_wordOf 66 = .ok (.areturn, 1) := by decide +kernel
theorem dX3_wordOf_67 : decode cX3_wordOf 67 = .ok (.ldc 80, 2) := by decide +kernel
theorem dX3_wordOf_69 : decode cX3_wordOf 69 = .ok (.areturn, 1) := by decide +kernel
theorem dX3_wordOf_70 : decode cX3_wordOf 70 = .ok (.ldc 81, 2) := by decide +kernel
theorem dX3_wordOf_72 : decode cX3_wordOf 72 = .ok (.areturn, 1) := by decide +kernel
theorem dX3_wordOf_73 : decode cX3_wordOf 73 = .ok (.ldc 83, 2) := by decide +kernel
theorem dX3_wordOf_75 : decode cX3_wordOf 75 = .ok (.areturn, 1) := by decide +kernel
theorem dX3_wordOf_76 : decode cX3_wordOf 76 = .ok (.ldc 85, 2) := by decide +kernel
theorem dX3_wordOf_78 : decode cX3_wordOf 78 = .ok (.areturn, 1) := by decide +kernel
theorem dX3_wordOf_79 : decode cX3_wordOf 79 = .ok (.ldc 87, 2) := by decide +kernel
theorem dX3_wordOf_81 : decode cX3_wordOf 81 = .ok (.areturn, 1) := by decide +kernel
theorem dX3_tell_0 : decode cX3_tell 0 = .ok (.iload_n 1, 1) := by decide +kernel
theorem dX3_tell_1 : decode cX3_tell 1 = .ok (.tableswitch 257 0 9 #[55, 63, 96, 120, 130, 161, 175, 195, 215, 245], 55) := by decide +kernel
theorem dX3_tell_56 : decode cX3_tell 56 = .ok (.aload_n 0, 1) := by decide +kernel
theorem dX3_tell_57 : decode cX3_tell 57 = .ok (.aload_n 2, 1) := by decide +kernel
theorem dX3_tell_58 : decode cX3_tell 58 = .ok (.invokevirtual 89, 3) := by decide +kernel
theorem dX3_tell_61 : decode cX3_tell 61 = .ok (.goto 197, 3) := by decide +kernel
theorem dX3_tell_64 : decode cX3_tell 64 = .ok (.aload_n 0, 1) := by decide +kernel
theorem dX3_tell_65 : decode cX3_tell 65 = .ok (.getfield 39, 3) := by decide +kernel
theorem dX3_tell_68 : decode cX3_tell 68 = .ok (.aload_n 2, 1) := by decide +kernel
theorem dX3_tell_69 : decode cX3_tell 69 = .ok (.iconst 0, 1) := by decide +kernel
theorem dX3_tell_70 : decode cX3_tell 70 = .ok (.iaload, 1) := by decide +kernel
theorem dX3_tell_71 : decode cX3_tell 71 = .ok (.aaload, 1) := by decide +kernel
theorem dX3_tell_72 : decode cX3_tell 72 = .ok (.aload_n 2, 1) := by decide +kernel
theorem dX3_tell_73 : decode cX3_tell 73 = .ok (.iconst 1, 1) := by decide +kernel
theorem dX3_tell_74 : decode cX3_tell 74 = .ok (.iaload, 1) := by decide +kernel
theorem dX3_tell_75 : decode cX3_tell 75 = .ok (.aload_n 2, 1) := by decide +kernel
theorem dX3_tell_76 : decode cX3_tell 76 = .ok (.iconst 2, 1) := by decide +kernel
theorem dX3_tell_77 : decode cX3_tell 77 = .ok (.iaload, 1) := by decide +kernel
theorem dX3_tell_78 : decode cX3_tell 78 = .ok (.iastore, 1) := by decide +kernel
theorem dX3_tell_79 : decode cX3_tell 79 = .ok (.aload_n 0, 1) := by decide +kernel
theorem dX3_tell_80 : decode cX3_tell 80 = .ok (.getfield 39, 3) := by decide +kernel
theorem dX3_tell_83 : decode cX3_tell 83 = .ok (.aload_n 2, 1) := by decide +kernel
theorem dX3_tell_84 : decode cX3_tell 84 = .ok (.iconst 1, 1) := by decide +kernel
theorem dX3_tell_85 : decode cX3_tell 85 = .ok (.iaload, 1) := by decide +kernel
theorem dX3_tell_86 : decode cX3_tell 86 = .ok (.aaload, 1) := by decide +kernel
theorem dX3_tell_87 : decode cX3_tell 87 = .ok (.aload_n 2, 1) := by decide +kernel
theorem dX3_tell_88 : decode cX3_tell 88 = .ok (.iconst 0, 1) := by decide +kernel
theorem dX3_tell_89 : decode cX3_tell 89 = .ok (.iaload, 1) := by decide +kernel
theorem dX3_tell_90 : decode cX3_tell 90 = .ok (.aload_n 2, 1) := by decide +kernel
theorem dX3_tell_91 : decode cX3_tell 91 = .ok (.iconst 2, 1) := by decide +kernel
theorem dX3_tell_92 : decode cX3_tell 92 = .ok (.iaload, 1) := by decide +kernel
theorem dX3_tell_93 : decode cX3_tell 93 = .ok (.iastore, 1) := by decide +kernel
theorem dX3_tell_94 : decode cX3_tell 94 = .ok (.goto 164, 3) := by decide +kernel
theorem dX3_tell_97 : decode cX3_tell 97 = .ok (.aload_n 0, 1) := by decide +kernel
theorem dX3_tell_98 : decode cX3_tell 98 = .ok (.aload_n 2, 1) := by decide +kernel
theorem dX3_tell_99 : decode cX3_tell 99 = .ok (.iconst 0, 1) := by decide +kernel
theorem dX3_tell_100 : decode cX3_tell 100 = .ok (.iaload, 1) := by decide +kernel
theorem dX3_tell_101 : decode cX3_tell 101 = .ok (.putfield 47, 3) := by decide +kernel
theorem dX3_tell_104 : decode cX3_tell 104 = .ok (.aload_n 0, 1) := by decide +kernel
theorem dX3_tell_105 : decode cX3_tell 105 = .ok (.aload_n 2, 1) := by decide +kernel
theorem dX3_tell_106 : decode cX3_tell 106 = .ok (.iconst 1, 1) := by decide +kernel
theorem dX3_tell_107 : decode cX3_tell 107 = .ok (.iaload, 1) := by decide +kernel
theorem dX3_tell_108 : decode cX3_tell 108 = .ok (.putfield 50, 3) := by decide +kernel
theorem dX3_tell_111 : decode cX3_tell 111 = .ok (.aload_n 0, 1) := by decide +kernel
theorem dX3_tell_112 : decode cX3_tell 112 = .ok (.aload_n 2, 1) := by decide +kernel
theorem dX3_tell_113 : decode cX3_tell 113 = .ok (.iconst 2, 1) := by decide +kernel
theorem dX3_tell_114 : decode cX3_tell 114 = .ok (.iaload, 1) := by decide +kernel
theorem dX3_tell_115 : decode cX3_tell 115 = .ok (.putfield 53, 3) := by decide +kernel
theorem dX3_tell_118 : decode cX3_tell 118 = .ok (.goto 140, 3) := by decide +kernel
theorem dX3_tell_121 : decode cX3_tell 121 = .ok (.aload_n 0, 1) := by decide +kernel
theorem dX3_tell_122 : decode cX3_tell 122 = .ok (.aload_n 2, 1) := by decide +kernel
theorem dX3_tell_123 : decode cX3_tell 123 = .ok (.iconst 0, 1) := by decide +kernel
theorem dX3_tell_124 : decode cX3_tell 124 = .ok (.iaload, 1) := by decide +kernel
theorem dX3_tell_125 : decode cX3_tell 125 = .ok (.putfield 56, 3) := by decide +kernel
theorem dX3_tell_128 : decode cX3_tell 128 = .ok (.goto 130, 3) := by decide +kernel
theorem dX3_tell_131 : decode cX3_tell 131 = .ok (.aload_n 0, 1) := by decide +kernel
theorem dX3_tell_132 : decode cX3_tell 132 = .ok (.aload_n 2, 1) := by decide +kernel
theorem dX3_tell_133 : decode cX3_tell 133 = .ok (.iconst 0, 1) := by decide +kernel
theorem dX3_tell_134 : decode cX3_tell 134 = .ok (.iaload, 1) := by decide +kernel
theorem dX3_tell_135 : decode cX3_tell 135 = .ok (.putfield 59, 3) := by decide +kernel
theorem dX3_tell_138 : decode cX3_tell 138 = .ok (.aload_n 0, 1) := by decide +kernel
theorem dX3_tell_139 : decode cX3_tell 139 = .ok (.aload_n 2, 1) := by decide +kernel
theorem dX3_tell_140 : decode cX3_tell 140 = .ok (.iconst 1, 1) := by decide +kernel
theorem dX3_tell_141 : decode cX3_tell 141 = .ok (.iaload, 1) := by decide +kernel
theorem dX3_tell_142 : decode cX3_tell 142 = .ok (.putfield 62, 3) := by decide +kernel
theorem dX3_tell_145 : decode cX3_tell 145 = .ok (.aload_n 0, 1) := by decide +kernel
theorem dX3_tell_146 : decode cX3_tell 146 = .ok (.aload_n 2, 1) := by decide +kernel
theorem dX3_tell_147 : decode cX3_tell 147 = .ok (.iconst 2, 1) := by decide +kernel
theorem dX3_tell_148 : decode cX3_tell 148 = .ok (.iaload, 1) := by decide +kernel
theorem dX3_tell_149 : decode cX3_tell 149 = .ok (.putfield 65, 3) := by decide +kernel
theorem dX3_tell_152 : decode cX3_tell 152 = .ok (.aload_n 0, 1) := by decide +kernel
theorem dX3_tell_153 : decode cX3_tell 153 = .ok (.aload_n 2, 1) := by decide +kernel
theorem dX3_tell_154 : decode cX3_tell 154 = .ok (.iconst 3, 1) := by decide +kernel
theorem dX3_tell_155 : decode cX3_tell 155 = .ok (.iaload, 1) := by decide +kernel
theorem dX3_tell_156 : decode cX3_tell 156 = .ok (.putfield 68, 3) := by decide +kernel
theorem dX3_tell_159 : decode cX3_tell 159 = .ok (.goto 99, 3) := by decide +kernel
theorem dX3_tell_162 : decode cX3_tell 162 = .ok (.aload_n 0, 1) := by decide +kernel
theorem dX3_tell_163 : decode cX3_tell 163 = .ok (.getfield 28, 3) := by decide +kernel
theorem dX3_tell_166 : decode cX3_tell 166 = .ok (.aload_n 2, 1) := by decide +kernel
theorem dX3_tell_167 : decode cX3_tell 167 = .ok (.iconst 0, 1) := by decide +kernel
theorem dX3_tell_168 : decode cX3_tell 168 = .ok (.iaload, 1) := by decide +kernel
theorem dX3_tell_169 : decode cX3_tell 169 = .ok (.aload_n 2, 1) := by decide +kernel
theorem dX3_tell_170 : decode cX3_tell 170 = .ok (.iconst 1, 1) := by decide +kernel
theorem dX3_tell_171 : decode cX3_tell 171 = .ok (.iaload, 1) := by decide +kernel
theorem dX3_tell_172 : decode cX3_tell 172 = .ok (.iastore, 1) := by decide +kernel
theorem dX3_tell_173 : decode cX3_tell 173 = .ok (.goto 85, 3) := by decide +kernel
theorem dX3_tell_176 : decode cX3_tell 176 = .ok (.aload_n 0, 1) := by decide +kernel
theorem dX3_tell_177 : decode cX3_tell 177 = .ok (.getfield 31, 3) := by decide +kernel
theorem dX3_tell_180 : decode cX3_tell 180 = .ok (.aload_n 2, 1) := by decide +kernel
theorem dX3_tell_181 : decode cX3_tell 181 = .ok (.iconst 0, 1) := by decide +kernel
theorem dX3_tell_182 : decode cX3_tell 182 = .ok (.iaload, 1) := by decide +kernel
theorem dX3_tell_183 : decode cX3_tell 183 = .ok (.aload_n 2, 1) := by decide +kernel
theorem dX3_tell_184 : decode cX3_tell 184 = .ok (.iconst 1, 1) := by decide +kernel
theorem dX3_tell_185 : decode cX3_tell 185 = .ok (.iaload, 1) := by decide +kernel
theorem dX3_tell_186 : decode cX3_tell 186 = .ok (.aload_n 2, 1) := by decide +kernel
theorem dX3_tell_187 : decode cX3_tell 187 = .ok (.iconst 2, 1) := by decide +kernel
theorem dX3_tell_188 : decode cX3_tell 188 = .ok (.iaload, 1) := by decide +kernel
theorem dX3_tell_189 : decode cX3_tell 189 = .ok (.invokestatic 93, 3) := by decide +kernel
theorem dX3_tell_192 : decode cX3_tell 192 = .ok (.iastore, 1) := by decide +kernel
theorem dX3_tell_193 : decode cX3_tell 193 = .ok (.goto 65, 3) := by decide +kernel
theorem dX3_tell_196 : decode cX3_tell 196 = .ok (.aload_n 0, 1) := by decide +kernel
theorem dX3_tell_197 : decode cX3_tell 197 = .ok (.getfield 34, 3) := by decide +kernel
theorem dX3_tell_200 : decode cX3_tell 200 = .ok (.aload_n 2, 1) := by decide +kernel
theorem dX3_tell_201 : decode cX3_tell 201 = .ok (.iconst 0, 1) := by decide +kernel
theorem dX3_tell_202 : decode cX3_tell 202 = .ok (.iaload, 1) := by decide +kernel
theorem dX3_tell_203 : decode cX3_tell 203 = .ok (.aload_n 2, 1) := by decide +kernel
theorem dX3_tell_204 : decode cX3_tell 204 = .ok (.iconst 1, 1) := by decide +kernel
theorem dX3_tell_205 : decode cX3_tell 205 = .ok (.iaload, 1) := by decide +kernel
theorem dX3_tell_206 : decode cX3_tell 206 = .ok (.aload_n 2, 1) := by decide +kernel
theorem dX3_tell_207 : decode cX3_tell 207 = .ok (.iconst 2, 1) := by decide +kernel
theorem dX3_tell_208 : decode cX3_tell 208 = .ok (.iaload, 1) := by decide +kernel
theorem dX3_tell_209 : decode cX3_tell 209 = .ok (.invokestatic 93, 3) := by decide +kernel
theorem dX3_tell_212 : decode cX3_tell 212 = .ok (.iastore, 1) := by decide +kernel
theorem dX3_tell_213 : decode cX3_tell 213 = .ok (.goto 45, 3) := by decide +kernel
theorem dX3_tell_216 : decode cX3_tell 216 = .ok (.aload_n 0, 1) := by decide +kernel
theorem dX3_tell_217 : decode cX3_tell 217 = .ok (.aload_n 2, 1) := by decide +kernel
theorem dX3_tell_218 : decode cX3_tell 218 = .ok (.iconst 0, 1) := by decide +kernel
theorem dX3_tell_219 : decode cX3_tell 219 = .ok (.iaload, 1) := by decide +kernel
theorem dX3_tell_220 : decode cX3_tell 220 = .ok (.aload_n 2, 1) := by decide +kernel
theorem dX3_tell_221 : decode cX3_tell 221 = .ok (.iconst 1, 1) := by decide +kernel
theorem dX3_tell_222 : decode cX3_tell 222 = .ok (.iaload, 1) := by decide +kernel
theorem dX3_tell_223 : decode cX3_tell 223 = .ok (.if_icmp .ne 8, 3) := by decide +kernel
theorem dX3_tell_226 : decode cX3_tell 226 = .ok (.ldc 42, 2) := by decide +kernel
theorem dX3_tell_228 : decode cX3_tell 228 = .ok (.goto 12, 3) := by decide +kernel
theorem dX3_tell_231 : decode cX3_tell 231 = .ok (.aload_n 2, 1) := by decide +kernel
theorem dX3_tell_232 : decode cX3_tell 232 = .ok (.iconst 0, 1) := by decide +kernel
theorem dX3_tell_233 : decode cX3_tell 233 = .ok (.iaload, 1) := by decide +kernel
theorem dX3_tell_234 : decode cX3_tell 234 = .ok (.aload_n 2, 1) := by decide +kernel
theorem dX3_tell_235 : decode cX3_tell 235 = .ok (.iconst 1, 1) := by decide +kernel
theorem dX3_tell_236 : decode cX3_tell 236 = .ok (.iaload, 1) := by decide +kernel
theorem dX3_tell_237 : decode cX3_tell 237 = .ok (.invokestatic 93, 3) := by decide +kernel
theorem dX3_tell_240 : decode cX3_tell 240 = .ok (.putfield 43, 3) := by decide +kernel
theorem dX3_tell_243 : decode cX3_tell 243 = .ok (.goto 15, 3) := by decide +kernel
theorem dX3_tell_246 : decode cX3_tell 246 = .ok (.aload_n 0, 1) := by decide +kernel
theorem dX3_tell_247 : decode cX3_tell 247 = .ok (.getfield 9, 3) := by decide +kernel
theorem dX3_tell_250 : decode cX3_tell 250 = .ok (.aload_n 2, 1) := by decide +kernel
theorem dX3_tell_251 : decode cX3_tell 251 = .ok (.iconst 0, 1) := by decide +kernel
theorem dX3_tell_252 : decode cX3_tell 252 = .ok (.iaload, 1) := by decide +kernel
theorem dX3_tell_253 : decode cX3_tell 253 = .ok (.iconst 0, 1) := by decide +kernel
theorem dX3_tell_254 : decode cX3_tell 254 = .ok (.bastore, 1) := by decide +kernel
theorem dX3_tell_255 : decode cX3_tell 255 = .ok (.goto 3, 3) := by decide +kernel
theorem dX3_tell_258 : decode cX3_tell 258 = .ok (.return_, 1) := by decide +kernel
theorem dX3_tellRoom_0 : decode cX3_tellRoom 0 = .ok (.aload_n 1, 1) := by decide +kernel
theorem dX3_tellRoom_1 : decode cX3_tellRoom 1 = .ok (.iconst 0, 1) := by decide +kernel
theorem dX3_tellRoom_2 : decode cX3_tellRoom 2 = .ok (.iaload, 1) := by decide +kernel
theorem dX3_tellRoom_3 : decode cX3_tellRoom 3 = .ok (.istore_n 2, 1) := by decide +kernel
theorem dX3_tellRoom_4 : decode cX3_tellRoom 4 = .ok (.aload_n 0, 1) := by decide +kernel
theorem dX3_tellRoom_5 : decode cX3_tellRoom 5 = .ok (.getfield 9, 3) := by decide +kernel
theorem dX3_tellRoom_8 : decode cX3_tellRoom 8 = .ok (.iload_n 2, 1) := by decide +kernel
theorem dX3_tellRoom_9 : decode cX3_tellRoom 9 = .ok (.iconst 1, 1) := by decide +kernel
theorem dX3_tellRoom_10 : decode cX3_tellRoom 10 = .ok (.bastore, 1) := by decide +kernel
theorem dX3_tellRoom_11 : decode cX3_tellRoom 11 = .ok (.aload_n 0, 1) := by decide +kernel
theorem dX3_tellRoom_12 : decode cX3_tellRoom 12 = .ok (.getfield 15, 3) := by decide +kernel
theorem dX3_tellRoom_15 : decode cX3_tellRoom 15 = .ok (.iload_n 2, 1) := by decide +kernel
theorem dX3_tellRoom_16 : decode cX3_tellRoom 16 = .ok (.aload_n 1, 1) := by decide +kernel
theorem dX3_tellRoom_17 : decode cX3_tellRoom 17 = .ok (.iconst 1, 1) := by decide +kernel
theorem dX3_tellRoom_18 : decode cX3_tellRoom 18 = .ok (.iaload, 1) := by decide +kernel
theorem dX3_tellRoom_19 : decode cX3_tellRoom 19 = .ok (.iastore, 1) := by decide +kernel
theorem dX3_tellRoom_20 : decode cX3_tellRoom 20 = .ok (.aload_n 0, 1) := by decide +kernel
theorem dX3_tellRoom_21 : decode cX3_tellRoom 21 = .ok (.getfield 19, 3) := by decide +kernel
theorem dX3_tellRoom_24 : decode cX3_tellRoom 24 = .ok (.iload_n 2, 1) := by decide +kernel
theorem dX3_tellRoom_25 : decode cX3_tellRoom 25 = .ok (.aload_n 1, 1) := by decide +kernel
theorem dX3_tellRoom_26 : decode cX3_tellRoom 26 = .ok (.iconst 2, 1) := by decide +kernel
theorem dX3_tellRoom_27 : decode cX3_tellRoom 27 = .ok (.iaload, 1) := by decide +kernel
theorem dX3_tellRoom_28 : decode cX3_tellRoom 28 = .ok (.iastore, 1) := by decide +kernel
theorem dX3_tellRoom_29 : decode cX3_tellRoom 29 = .ok (.aload_n 0, 1) := by decide +kernel
theorem dX3_tellRoom_30 : decode cX3_tellRoom 30 = .ok (.getfield 22, 3) := by decide +kernel
theorem dX3_tellRoom_33 : decode cX3_tellRoom 33 = .ok (.iload_n 2, 1) := by decide +kernel
theorem dX3_tellRoom_34 : decode cX3_tellRoom 34 = .ok (.aload_n 1, 1) := by decide +kernel
theorem dX3_tellRoom_35 : decode cX3_tellRoom 35 = .ok (.iconst 3, 1) := by decide +kernel
theorem dX3_tellRoom_36 : decode cX3_tellRoom 36 = .ok (.iaload, 1) := by decide +kernel
theorem dX3_tellRoom_37 : decode cX3_tellRoom 37 = .ok (.iastore, 1) := by decide +kernel
theorem dX3_tellRoom_38 : decode cX3_tellRoom 38 = .ok (.aload_n 0, 1) := by decide +kernel
theorem dX3_tellRoom_39 : decode cX3_tellRoom 39 = .ok (.getfield 25, 3) := by decide +kernel
theorem dX3_tellRoom_42 : decode cX3_tellRoom 42 = .ok (.iload_n 2, 1) := by decide +kernel
theorem dX3_tellRoom_43 : decode cX3_tellRoom 43 = .ok (.aload_n 1, 1) := by decide +kernel
theorem dX3_tellRoom_44 : decode cX3_tellRoom 44 = .ok (.iconst 4, 1) := by decide +kernel
theorem dX3_tellRoom_45 : decode cX3_tellRoom 45 = .ok (.iaload, 1) := by decide +kernel
theorem dX3_tellRoom_46 : decode cX3_tellRoom 46 = .ok (.iastore, 1) := by decide +kernel
theorem dX3_tellRoom_47 : decode cX3_tellRoom 47 = .ok (.return_, 1) := by decide +kernel
theorem dX3_isTold_0 : decode cX3_isTold 0 = .ok (.iload_n 1, 1) := by decide +kernel
theorem dX3_isTold_1 : decode cX3_isTold 1 = .ok (.ifCond .lt 21, 3) := by decide +kernel
theorem dX3_isTold_4 : decode cX3_isTold 4 = .ok (.iload_n 1, 1) := by decide +kernel
theorem dX3_isTold_5 : decode cX3_isTold 5 = .ok (.iconst 5, 1) := by decide +kernel
theorem dX3_isTold_6 : decode cX3_isTold 6 = .ok (.if_icmp .ge 16, 3) := by decide +kernel
theorem dX3_isTold_9 : decode cX3_isTold 9 = .ok (.aload_n 0, 1) := by decide +kernel
theorem dX3_isTold_10 : decode cX3_isTold 10 = .ok (.getfield 9, 3) := by decide +kernel
theorem dX3_isTold_13 : decode cX3_isTold 13 = .ok (.iload_n 1, 1) := by decide +kernel
theorem dX3_isTold_14 : decode cX3_isTold 14 = .ok (.baload, 1) := by decide +kernel
theorem dX3_isTold_15 : decode cX3_isTold 15 = .ok (.ifCond .eq 7, 3) := by decide +kernel
theorem dX3_isTold_18 : decode cX3_isTold 18 = .ok (.iconst 1, 1) := by decide +kernel
theorem dX3_isTold_19 : decode cX3_isTold 19 = .ok (.goto 4, 3) := by decide +kernel
theorem dX3_isTold_22 : decode cX3_isTold 22 = .ok (.iconst 0, 1) := by decide +kernel
theorem dX3_isTold_23 : decode cX3_isTold 23 = .ok (.ireturn, 1) := by decide +kernel
theorem dX3_toldRooms_0 : decode cX3_toldRooms 0 = .ok (.iconst 0, 1) := by decide +kernel
theorem dX3_toldRooms_1 : decode cX3_toldRooms 1 = .ok (.istore_n 1, 1) := by decide +kernel
theorem dX3_toldRooms_2 : decode cX3_toldRooms 2 = .ok (.iconst 0, 1) := by decide +kernel
theorem dX3_toldRooms_3 : decode cX3_toldRooms 3 = .ok (.istore_n 2, 1) := by decide +kernel
theorem dX3_toldRooms_4 : decode cX3_toldRooms 4 = .ok (.iload_n 2, 1) := by decide +kernel
theorem dX3_toldRooms_5 : decode cX3_toldRooms 5 = .ok (.iconst 5, 1) := by decide +kernel
theorem dX3_toldRooms_6 : decode cX3_toldRooms 6 = .ok (.if_icmp .ge 21, 3) := by decide +kernel
theorem dX3_toldRooms_9 : decode cX3_toldRooms 9 = .ok (.aload_n 0, 1) := by decide +kernel
theorem dX3_toldRooms_10 : decode cX3_toldRooms 10 = .ok (.getfield 9, 3) := by decide +kernel
theorem dX3_toldRooms_13 : decode cX3_toldRooms 13 = .ok (.iload_n 2, 1) := by decide +kernel
theorem dX3_toldRooms_14 : decode cX3_toldRooms 14 = .ok (.baload, 1) := by decide +kernel
theorem dX3_toldRooms_15 : decode cX3_toldRooms 15 = .ok (.ifCond .eq 6, 3) := by decide +kernel
theorem dX3_toldRooms_18 : decode cX3_toldRooms 18 = .ok (.iinc 1 1, 3) := by decide +kernel
theorem dX3_toldRooms_21 : decode cX3_toldRooms 21 = .ok (.iinc 2 1, 3) := by decide +kernel
theorem dX3_toldRooms_24 : decode cX3_toldRooms 24 = .ok (.goto (-20), 3) := by decide +kernel
theorem dX3_toldRooms_27 : decode cX3_toldRooms 27 = .ok (.iload_n 1, 1) := by decide +kernel
theorem dX3_toldRooms_28 : decode cX3_toldRooms 28 = .ok (.ireturn, 1) := by decide +kernel
theorem dX3_firstAir_0 : decode cX3_firstAir 0 = .ok (.aload_n 0, 1) := by decide +kernel
theorem dX3_firstAir_1 : decode cX3_firstAir 1 = .ok (.getfield 15, 3) := by decide +kernel
theorem dX3_firstAir_4 : decode cX3_firstAir 4 = .ok (.iload_n 1, 1) := by decide +kernel
theorem dX3_firstAir_5 : decode cX3_firstAir 5 = .ok (.iaload, 1) := by decide +kernel
theorem dX3_firstAir_6 : decode cX3_firstAir 6 = .ok (.ireturn, 1) := by decide +kernel
theorem dX3_firstWall_0 : decode cX3_firstWall 0 = .ok (.aload_n 0, 1) := by decide +kernel
theorem dX3_firstWall_1 : decode cX3_firstWall 1 = .ok (.getfield 19, 3) := by decide +kernel
theorem dX3_firstWall_4 : decode cX3_firstWall 4 = .ok (.iload_n 1, 1) := by decide +kernel
theorem dX3_firstWall_5 : decode cX3_firstWall 5 = .ok (.iaload, 1) := by decide +kernel
theorem dX3_firstWall_6 : decode cX3_firstWall 6 = .ok (.ireturn, 1) := by decide +kernel
theorem dX3_side_0 : decode cX3_side 0 = .ok (.aload_n 0, 1) := by decide +kernel
theorem dX3_side_1 : decode cX3_side 1 = .ok (.getfield 22, 3) := by decide +kernel
theorem dX3_side_4 : decode cX3_side 4 = .ok (.iload_n 1, 1) := by decide +kernel
theorem dX3_side_5 : decode cX3_side 5 = .ok (.iaload, 1) := by decide +kernel
theorem dX3_side_6 : decode cX3_side 6 = .ok (.ireturn, 1) := by decide +kernel
theorem dX3_folk_0 : decode cX3_folk 0 = .ok (.aload_n 0, 1) := by decide +kernel
theorem dX3_folk_1 : decode cX3_folk 1 = .ok (.getfield 25, 3) := by decide +kernel
theorem dX3_folk_4 : decode cX3_folk 4 = .ok (.iload_n 1, 1) := by decide +kernel
theorem dX3_folk_5 : decode cX3_folk 5 = .ok (.iaload, 1) := by decide +kernel
theorem dX3_folk_6 : decode cX3_folk 6 = .ok (.ireturn, 1) := by decide +kernel
theorem dX3_habit_0 : decode cX3_habit 0 = .ok (.aload_n 0, 1) := by decide +kernel
theorem dX3_habit_1 : decode cX3_habit 1 = .ok (.getfield 28, 3) := by decide +kernel
theorem dX3_habit_4 : decode cX3_habit 4 = .ok (.iload_n 1, 1) := by decide +kernel
theorem dX3_habit_5 : decode cX3_habit 5 = .ok (.iaload, 1) := by decide +kernel
theorem dX3_habit_6 : decode cX3_habit 6 = .ok (.ireturn, 1) := by decide +kernel
theorem dX3_openHours_0 : decode cX3_openHours 0 = .ok (.aload_n 0, 1) := by decide +kernel
theorem dX3_openHours_1 : decode cX3_openHours 1 = .ok (.getfield 31, 3) := by decide +kernel
theorem dX3_openHours_4 : decode cX3_openHours 4 = .ok (.iload_n 1, 1) := by decide +kernel
theorem dX3_openHours_5 : decode cX3_openHours 5 = .ok (.iaload, 1) := by decide +kernel
theorem dX3_openHours_6 : decode cX3_openHours 6 = .ok (.ireturn, 1) := by decide +kernel
theorem dX3_shutHours_0 : decode cX3_shutHours 0 = .ok (.aload_n 0, 1) := by decide +kernel
theorem dX3_shutHours_1 : decode cX3_shutHours 1 = .ok (.getfield 34, 3) := by decide +kernel
theorem dX3_shutHours_4 : decode cX3_shutHours 4 = .ok (.iload_n 1, 1) := by decide +kernel
theorem dX3_shutHours_5 : decode cX3_shutHours 5 = .ok (.iaload, 1) := by decide +kernel
theorem dX3_shutHours_6 : decode cX3_shutHours 6 = .ok (.ireturn, 1) := by decide +kernel
theorem dX3_passes_0 : decode cX3_passes 0 = .ok (.aload_n 0, 1) := by decide +kernel
theorem dX3_passes_1 : decode cX3_passes 1 = .ok (.getfield 39, 3) := by decide +kernel
theorem dX3_passes_4 : decode cX3_passes 4 = .ok (.iload_n 1, 1) := by decide +kernel
theorem dX3_passes_5 : decode cX3_passes 5 = .ok (.aaload, 1) := by decide +kernel
theorem dX3_passes_6 : decode cX3_passes 6 = .ok (.iload_n 2, 1) := by decide +kernel
theorem dX3_passes_7 : decode cX3_passes 7 = .ok (.iaload, 1) := by decide +kernel
theorem dX3_passes_8 : decode cX3_passes 8 = .ok (.ireturn, 1) := by decide +kernel
theorem dX3_homeHours_0 : decode cX3_homeHours 0 = .ok (.aload_n 0, 1) := by decide +kernel
theorem dX3_homeHours_1 : decode cX3_homeHours 1 = .ok (.getfield 43, 3) := by decide +kernel
theorem dX3_homeHours_4 : decode cX3_homeHours 4 = .ok (.ireturn, 1) := by decide +kernel
theorem dX3_takes_0 : decode cX3_takes 0 = .ok (.aload_n 0, 1) := by decide +kernel
theorem dX3_takes_1 : decode cX3_takes 1 = .ok (.getfield 59, 3) := by decide +kernel
theorem dX3_takes_4 : decode cX3_takes 4 = .ok (.ireturn, 1) := by decide +kernel
theorem dX3_gives_0 : decode cX3_gives 0 = .ok (.aload_n 0, 1) := by decide +kernel
theorem dX3_gives_1 : decode cX3_gives 1 = .ok (.getfield 62, 3) := by decide +kernel
theorem dX3_gives_4 : decode cX3_gives 4 = .ok (.ireturn, 1) := by decide +kernel
theorem dX3_leaks_0 : decode cX3_leaks 0 = .ok (.aload_n 0, 1) := by decide +kernel
theorem dX3_leaks_1 : decode cX3_leaks 1 = .ok (.getfield 65, 3) := by decide +kernel
theorem dX3_leaks_4 : decode cX3_leaks 4 = .ok (.ireturn, 1) := by decide +kernel
theorem dX3_window_0 : decode cX3_window 0 = .ok (.aload_n 0, 1) := by decide +kernel
theorem dX3_window_1 : decode cX3_window 1 = .ok (.getfield 68, 3) := by decide +kernel
theorem dX3_window_4 : decode cX3_window 4 = .ok (.ireturn, 1) := by decide +kernel
theorem dX3_skyAt_0 : decode cX3_skyAt 0 = .ok (.iload_n 1, 1) := by decide +kernel
theorem dX3_skyAt_1 : decode cX3_skyAt 1 = .ok (.bipush 24, 2) := by decide +kernel
theorem dX3_skyAt_3 : decode cX3_skyAt 3 = .ok (.idiv, 1) := by decide +kernel
theorem dX3_skyAt_4 : decode cX3_skyAt 4 = .ok (.istore_n 2, 1) := by decide +kernel
theorem dX3_skyAt_5 : decode cX3_skyAt 5 = .ok (.iload_n 1, 1) := by decide +kernel
theorem dX3_skyAt_6 : decode cX3_skyAt 6 = .ok (.bipush 24, 2) := by decide +kernel
theorem dX3_skyAt_8 : decode cX3_skyAt 8 = .ok (.irem, 1) := by decide +kernel
theorem dX3_skyAt_9 : decode cX3_skyAt 9 = .ok (.istore_n 3, 1) := by decide +kernel
theorem dX3_skyAt_10 : decode cX3_skyAt 10 = .ok (.iload_n 3, 1) := by decide +kernel
theorem dX3_skyAt_11 : decode cX3_skyAt 11 = .ok (.iconst 5, 1) := by decide +kernel
theorem dX3_skyAt_12 : decode cX3_skyAt 12 = .ok (.if_icmp .ge 9, 3) := by decide +kernel
theorem dX3_skyAt_15 : decode cX3_skyAt 15 = .ok (.iinc 2 (-1), 3) := by decide +kernel
theorem dX3_skyAt_18 : decode cX3_skyAt 18 = .ok (.iinc 3 24, 3) := by decide +kernel
theorem dX3_skyAt_21 : decode cX3_skyAt 21 = .ok (.aload_n 0, 1) := by decide +kernel
theorem dX3_skyAt_22 : decode cX3_skyAt 22 = .ok (.getfield 50, 3) := by decide +kernel
theorem dX3_skyAt_25 : decode cX3_skyAt 25 = .ok (.aload_n 0, 1) := by decide +kernel
theorem dX3_skyAt_26 : decode cX3_skyAt 26 = .ok (.getfield 47, 3) := by decide +kernel
theorem dX3_skyAt_29 : decode cX3_skyAt 29 = .ok (.isub, 1) := by decide +kernel
theorem dX3_skyAt_30 : decode cX3_skyAt 30 = .ok (.istore 4, 2) := by decide +kernel
theorem dX3_skyAt_32 : decode cX3_skyAt 32 = .ok (.iload_n 3, 1) := by decide +kernel
theorem dX3_skyAt_33 : decode cX3_skyAt 33 = .ok (.bipush 15, 2) := by decide +kernel
theorem dX3_skyAt_35 : decode cX3_skyAt 35 = .ok (.if_icmp .gt 25, 3) := by decide +kernel
theorem dX3_skyAt_38 : decode cX3_skyAt 38 = .ok (.aload_n 0, 1) := by decide +kernel
theorem dX3_skyAt_39 : decode cX3_skyAt 39 = .ok (.getfield 47, 3) := by decide +kernel
theorem dX3_skyAt_42 : decode cX3_skyAt 42 = .ok (.iload_n 2, 1) := by decide +kernel
theorem dX3_skyAt_43 : decode cX3_skyAt 43 = .ok (.aload_n 0, 1) := by decide +kernel
theorem dX3_skyAt_44 : decode cX3_skyAt 44 = .ok (.getfield 53, 3) := by decide +kernel
theorem dX3_skyAt_47 : decode cX3_skyAt 47 = .ok (.imul, 1) := by decide +kernel
theorem dX3_skyAt_48 : decode cX3_skyAt 48 = .ok (.iadd, 1) := by decide +kernel
theorem dX3_skyAt_49 : decode cX3_skyAt 49 = .ok (.iload 4, 2) := by decide +kernel
theorem dX3_skyAt_51 : decode cX3_skyAt 51 = .ok (.iload_n 3, 1) := by decide +kernel
theorem dX3_skyAt_52 : decode cX3_skyAt 52 = .ok (.iconst 5, 1) := by decide +kernel
theorem dX3_skyAt_53 : decode cX3_skyAt 53 = .ok (.isub, 1) := by decide +kernel
theorem dX3_skyAt_54 : decode cX3_skyAt 54 = .ok (.imul, 1) := by decide +kernel
theorem dX3_skyAt_55 : decode cX3_skyAt 55 = .ok (.bipush 10, 2) := by decide +kernel
theorem dX3_skyAt_57 : decode cX3_skyAt 57 = .ok (.idiv, 1) := by decide +kernel
theorem dX3_skyAt_58 : decode cX3_skyAt 58 = .ok (.iadd, 1) := by decide +kernel
theorem dX3_skyAt_59 : decode cX3_skyAt 59 = .ok (.ireturn, 1) := by decide +kernel
theorem dX3_skyAt_60 : decode cX3_skyAt 60 = .ok (.aload_n 0, 1) := by decide +kernel
theorem dX3_skyAt_61 : decode cX3_skyAt 61 = .ok (.getfield 50, 3) := by decide +kernel
theorem dX3_skyAt_64 : decode cX3_skyAt 64 = .ok (.iload_n 2, 1) := by decide +kernel
theorem dX3_skyAt_65 : decode cX3_skyAt 65 = .ok (.aload_n 0, 1) := by decide +kernel
theorem dX3_skyAt_66 : decode cX3_skyAt 66 = .ok (.getfield 53, 3) := by decide +kernel
theorem dX3_skyAt_69 : decode cX3_skyAt 69 = .ok (.imul, 1) := by decide +kernel
theorem dX3_skyAt_70 : decode cX3_skyAt 70 = .ok (.iadd, 1) := by decide +kernel
theorem dX3_skyAt_71 : decode cX3_skyAt 71 = .ok (.iload 4, 2) := by decide +kernel
theorem dX3_skyAt_73 : decode cX3_skyAt 73 = .ok (.iload_n 3, 1) := by decide +kernel
theorem dX3_skyAt_74 : decode cX3_skyAt 74 = .ok (.bipush 15, 2) := by decide +kernel
theorem dX3_skyAt_76 : decode cX3_skyAt 76 = .ok (.isub, 1) := by decide +kernel
theorem dX3_skyAt_77 : decode cX3_skyAt 77 = .ok (.imul, 1) := by decide +kernel
theorem dX3_skyAt_78 : decode cX3_skyAt 78 = .ok (.bipush 14, 2) := by decide +kernel
theorem dX3_skyAt_80 : decode cX3_skyAt 80 = .ok (.idiv, 1) := by decide +kernel
theorem dX3_skyAt_81 : decode cX3_skyAt 81 = .ok (.isub, 1) := by decide +kernel
theorem dX3_skyAt_82 : decode cX3_skyAt 82 = .ok (.ireturn, 1) := by decide +kernel
theorem dX3_sunIn_0 : decode cX3_sunIn 0 = .ok (.aload_n 0, 1) := by decide +kernel
theorem dX3_sunIn_1 : decode cX3_sunIn 1 = .ok (.getfield 22, 3) := by decide +kernel
theorem dX3_sunIn_4 : decode cX3_sunIn 4 = .ok (.iload_n 1, 1) := by decide +kernel
theorem dX3_sunIn_5 : decode cX3_sunIn 5 = .ok (.iaload, 1) := by decide +kernel
theorem dX3_sunIn_6 : decode cX3_sunIn 6 = .ok (.iload_n 2, 1) := by decide +kernel
theorem dX3_sunIn_7 : decode cX3_sunIn 7 = .ok (.invokestatic 97, 3) := by decide +kernel
theorem dX3_sunIn_10 : decode cX3_sunIn 10 = .ok (.ifCond .ne 5, 3) := by decide +kernel
theorem dX3_sunIn_13 : decode cX3_sunIn 13 = .ok (.iconst 0, 1) := by decide +kernel
theorem dX3_sunIn_14 : decode cX3_sunIn 14 = .ok (.ireturn, 1) := by decide +kernel
theorem dX3_sunIn_15 : decode cX3_sunIn 15 = .ok (.aload_n 0, 1) := by decide +kernel
theorem dX3_sunIn_16 : decode cX3_sunIn 16 = .ok (.getfield 34, 3) := by decide +kernel
theorem dX3_sunIn_19 : decode cX3_sunIn 19 = .ok (.iload_n 1, 1) := by decide +kernel
theorem dX3_sunIn_20 : decode cX3_sunIn 20 = .ok (.iaload, 1) := by decide +kernel
theorem dX3_sunIn_21 : decode cX3_sunIn 21 = .ok (.iload_n 2, 1) := by decide +kernel
theorem dX3_sunIn_22 : decode cX3_sunIn 22 = .ok (.invokestatic 101, 3) := by decide +kernel
theorem dX3_sunIn_25 : decode cX3_sunIn 25 = .ok (.ifCond .eq 12, 3) := by decide +kernel
theorem dX3_sunIn_28 : decode cX3_sunIn 28 = .ok (.aload_n 0, 1) := by decide +kernel
theorem dX3_sunIn_29 : decode cX3_sunIn 29 = .ok (.getfield 56, 3) := by decide +kernel
theorem dX3_sunIn_32 : decode cX3_sunIn 32 = .ok (.iconst 4, 1) := by decide +kernel
theorem dX3_sunIn_33 : decode cX3_sunIn 33 = .ok (.idiv, 1) := by decide +kernel
theorem dX3_sunIn_34 : decode cX3_sunIn 34 = .ok (.goto 7, 3) := by decide +kernel
theorem dX3_sunIn_37 : decode cX3_sunIn 37 = .ok (.aload_n 0, 1) := by decide +kernel
theorem dX3_sunIn_38 : decode cX3_sunIn 38 = .ok (.getfield 56, 3) := by decide +kernel
theorem dX3_sunIn_41 : decode cX3_sunIn 41 = .ok (.ireturn, 1) := by decide +kernel
theorem dX3_shinesOn_0 : decode cX3_shinesOn 0 = .ok (.iload_n 0, 1) := by decide +kernel
theorem dX3_shinesOn_1 : decode cX3_shinesOn 1 = .ok (.tableswitch 54 1 3 #[27, 36, 45], 27) := by decide +kernel
theorem dX3_shinesOn_28 : decode cX3_shinesOn 28 = .ok (.iload_n 1, 1) := by decide +kernel
theorem dX3_shinesOn_29 : decode cX3_shinesOn 29 = .ok (.bipush 6, 2) := by decide +kernel
theorem dX3_shinesOn_31 : decode cX3_shinesOn 31 = .ok (.bipush 10, 2) := by decide +kernel
theorem dX3_shinesOn_33 : decode cX3_shinesOn 33 = .ok (.invokestatic 104, 3) := by decide +kernel
theorem dX3_shinesOn_36 : decode cX3_shinesOn 36 = .ok (.ireturn, 1) := by decide +kernel
theorem dX3_shinesOn_37 : decode cX3_shinesOn 37 = .ok (.iload_n 1, 1) := by decide +kernel
theorem dX3_shinesOn_38 : decode cX3_shinesOn 38 = .ok (.bipush 10, 2) := by decide +kernel
theorem dX3_shinesOn_40 : decode cX3_shinesOn 40 = .ok (.bipush 15, 2) := by decide +kernel
theorem dX3_shinesOn_42 : decode cX3_shinesOn 42 = .ok (.invokestatic 104, 3) := by decide +kernel
theorem dX3_shinesOn_45 : decode cX3_shinesOn 45 = .ok (.ireturn, 1) := by decide +kernel
theorem dX3_shinesOn_46 : decode cX3_shinesOn 46 = .ok (.iload_n 1, 1) := by decide +kernel
theorem dX3_shinesOn_47 : decode cX3_shinesOn 47 = .ok (.bipush 15, 2) := by decide +kernel
theorem dX3_shinesOn_49 : decode cX3_shinesOn 49 = .ok (.bipush 19, 2) := by decide +kernel
theorem dX3_shinesOn_51 : decode cX3_shinesOn 51 = .ok (.invokestatic 104, 3) := by decide +kernel
theorem dX3_shinesOn_54 : decode cX3_shinesOn 54 = .ok (.ireturn, 1) := by decide +kernel
theorem dX3_shinesOn_55 : decode cX3_shinesOn 55 = .ok (.iconst 0, 1) := by decide +kernel
theorem dX3_shinesOn_56 : decode cX3_shinesOn 56 = .ok (.ireturn, 1) := by decide +kernel
theorem dX4_init_0 : decode cX4_init 0 = .ok (.aload_n 0, 1) := by decide +kernel
theorem dX4_init_1 : decode cX4_init 1 = .ok (.invokespecial 3, 3) := by decide +kernel
theorem dX4_init_4 : decode cX4_init 4 = .ok (.aload_n 0, 1) := by decide +kernel
theorem dX4_init_5 : decode cX4_init 5 = .ok (.iconst 5, 1) := by decide +kernel
theorem dX4_init_6 : decode cX4_init 6 = .ok (.newarray .int, 2) := by decide +kernel
theorem dX4_init_8 : decode cX4_init 8 = .ok (.putfield 9, 3) := by decide +kernel
theorem dX4_init_11 : decode cX4_init 11 = .ok (.aload_n 0, 1) := by decide +kernel
theorem dX4_init_12 : decode cX4_init 12 = .ok (.iconst 5, 1) := by decide +kernel
theorem dX4_init_13 : decode cX4_init 13 = .ok (.newarray .int, 2) := by decide +kernel
theorem dX4_init_15 : decode cX4_init 15 = .ok (.putfield 15, 3) := by decide +kernel
theorem dX4_init_18 : decode cX4_init 18 = .ok (.aload_n 0, 1) := by decide +kernel
theorem dX4_init_19 : decode cX4_init 19 = .ok (.iconst 5, 1) := by decide +kernel
theorem dX4_init_20 : decode cX4_init 20 = .ok (.newarray .int, 2) := by decide +kernel
theorem dX4_init_22 : decode cX4_init 22 = .ok (.putfield 18, 3) := by decide +kernel
theorem dX4_init_25 : decode cX4_init 25 = .ok (.aload_n 0, 1) := by decide +kernel
theorem dX4_init_26 : decode cX4_init 26 = .ok (.iconst 5, 1) := by decide +kernel
theorem dX4_init_27 : decode cX4_init 27 = .ok (.bipush 24, 2) := by decide +kernel
theorem dX4_init_29 : decode cX4_init 29 = .ok (.multianewarray 21 2, 4) := by decide +kernel
theorem dX4_init_33 : decode cX4_init 33 = .ok (.putfield 23, 3) := by decide +kernel
theorem dX4_init_36 : decode cX4_init 36 = .ok (.aload_n 0, 1) := by decide +kernel
theorem dX4_init_37 : decode cX4_init 37 = .ok (.bipush 96, 2) := by decide +kernel
theorem dX4_init_39 : decode cX4_init 39 = .ok (.newarray .int, 2) := by decide +kernel
theorem dX4_init_41 : decode cX4_init 41 = .ok (.putfield 26, 3) := by decide +kernel
theorem dX4_init_44 : decode cX4_init 44 = .ok (.aload_n 0, 1) := by decide +kernel
theorem dX4_init_45 : decode cX4_init 45 = .ok (.iconst 0, 1) := by decide +kernel
theorem dX4_init_46 : decode cX4_init 46 = .ok (.putfield 29, 3) := by decide +kernel
theorem dX4_init_49 : decode cX4_init 49 = .ok (.aload_n 0, 1) := by decide +kernel
theorem dX4_init_50 : decode cX4_init 50 = .ok (.iconst 0, 1) := by decide +kernel
theorem dX4_init_51 : decode cX4_init 51 = .ok (.putfield 33, 3) := by decide +kernel
theorem dX4_init_54 : decode cX4_init 54 = .ok (.return_, 1) := by decide +kernel
theorem dX4_takeFrom_0 : decode cX4_takeFrom 0 = .ok (.iconst 0, 1) := by decide +kernel
theorem dX4_takeFrom_1 : decode cX4_takeFrom 1 = .ok (.istore_n 2, 1) := by decide +kernel
theorem dX4_takeFrom_2 : decode cX4_takeFrom 2 = .ok (.iload_n 2, 1) := by decide +kernel
theorem dX4_takeFrom_3 : decode cX4_takeFrom 3 = .ok (.bipush 96, 2) := by decide +kernel
theorem dX4_takeFrom_5 : decode cX4_takeFrom 5 = .ok (.if_icmp .ge 20, 3) := by decide +kernel
theorem dX4_takeFrom_8 : decode cX4_takeFrom 8 = .ok (.aload_n 0, 1) := by decide +kernel
theorem dX4_takeFrom_9 : decode cX4_takeFrom 9 = .ok (.getfield 26, 3) := by decide +kernel
theorem dX4_takeFrom_12 : decode cX4_takeFrom 12 = .ok (.iload_n 2, 1) := by decide +kernel
theorem dX4_takeFrom_13 : decode cX4_takeFrom 13 = .ok (.aload_n 1, 1) := by decide +kernel
theorem dX4_takeFrom_14 : decode cX4_takeFrom 14 = .ok (.iload_n 2, 1) := by decide +kernel
theorem dX4_takeFrom_15 : decode cX4_takeFrom 15 = .ok (.invokevirtual 36, 3) := by decide +kernel
theorem dX4_takeFrom_18 : decode cX4_takeFrom 18 = .ok (.iastore, 1) := by decide +kernel
theorem dX4_takeFrom_19 : decode cX4_takeFrom 19 = .ok (.iinc 2 1, 3) := by decide +kernel
theorem dX4_takeFrom_22 : decode cX4_takeFrom 22 = .ok (.goto (-20), 3) := by decide +kernel
theorem dX4_takeFrom_25 : decode cX4_takeFrom 25 = .ok (.iconst 0, 1) := by decide +kernel
theorem dX4_takeFrom_26 : decode cX4_takeFrom 26 = .ok (.istore_n 2, 1) := by decide +kernel
theorem dX4_takeFrom_27 : decode cX4_takeFrom 27 = .ok (.iload_n 2, 1) := by decide +kernel
theorem dX4_takeFrom_28 : decode cX4_takeFrom 28 = .ok (.iconst 5, 1) := by decide +kernel
theorem dX4_takeFrom_29 : decode cX4_takeFrom 29 = .ok (.if_icmp .ge 37, 3) := by decide +kernel
theorem dX4_takeFrom_32 : decode cX4_takeFrom 32 = .ok (.aload_n 0, 1) := by decide +kernel
theorem dX4_takeFrom_33 : decode cX4_takeFrom 33 = .ok (.getfield 9, 3) := by decide +kernel
theorem dX4_takeFrom_36 : decode cX4_takeFrom 36 = .ok (.iload_n 2, 1) := by decide +kernel
theorem dX4_takeFrom_37 : decode cX4_takeFrom 37 = .ok (.aload_n 1, 1) := by decide +kernel
theorem dX4_takeFrom_38 : decode cX4_takeFrom 38 = .ok (.iload_n 2, 1) := by decide +kernel
theorem dX4_takeFrom_39 : decode cX4_takeFrom 39 = .ok (.invokevirtual 42, 3) := by decide +kernel
theorem dX4_takeFrom_42 : decode cX4_takeFrom 42 = .ok (.iastore, 1) := by decide +kernel
theorem dX4_takeFrom_43 : decode cX4_takeFrom 43 = .ok (.aload_n 0, 1) := by decide +kernel
theorem dX4_takeFrom_44 : decode cX4_takeFrom 44 = .ok (.getfield 15, 3) := by decide +kernel
theorem dX4_takeFrom_47 : decode cX4_takeFrom 47 = .ok (.iload_n 2, 1) := by decide +kernel
theorem dX4_takeFrom_48 : decode cX4_takeFrom 48 = .ok (.aload_n 1, 1) := by decide +kernel
theorem dX4_takeFrom_49 : decode cX4_takeFrom 49 = .ok (.iload_n 2, 1) := by decide +kernel
theorem dX4_takeFrom_50 : decode cX4_takeFrom 50 = .ok (.invokevirtual 44, 3) := by decide +kernel
theorem dX4_takeFrom_53 : decode cX4_takeFrom 53 = .ok (.iastore, 1) := by decide +kernel
theorem dX4_takeFrom_54 : decode cX4_takeFrom 54 = .ok (.aload_n 0, 1) := by decide +kernel
theorem dX4_takeFrom_55 : decode cX4_takeFrom 55 = .ok (.iload_n 2, 1) := by decide +kernel
theorem dX4_takeFrom_56 : decode cX4_takeFrom 56 = .ok (.aload_n 1, 1) := by decide +kernel
theorem dX4_takeFrom_57 : decode cX4_takeFrom 57 = .ok (.invokevirtual 46, 3) := by decide +kernel
theorem dX4_takeFrom_60 : decode cX4_takeFrom 60 = .ok (.iinc 2 1, 3) := by decide +kernel
theorem dX4_takeFrom_63 : decode cX4_takeFrom 63 = .ok (.goto (-36), 3) := by decide +kernel
theorem dX4_takeFrom_66 : decode cX4_takeFrom 66 = .ok (.aload_n 0, 1) := by decide +kernel
theorem dX4_takeFrom_67 : decode cX4_takeFrom 67 = .ok (.aload_n 1, 1) := by decide +kernel
theorem dX4_takeFrom_68 : decode cX4_takeFrom 68 = .ok (.invokevirtual 50, 3) := by decide +kernel
theorem dX4_takeFrom_71 : decode cX4_takeFrom 71 = .ok (.aload_n 1, 1) := by decide +kernel
theorem dX4_takeFrom_72 : decode cX4_takeFrom 72 = .ok (.invokevirtual 53, 3) := by decide +kernel
theorem dX4_takeFrom_75 : decode cX4_takeFrom 75 = .ok (.invokevirtual 55, 3) := by decide +kernel
theorem dX4_takeFrom_78 : decode cX4_takeFrom 78 = .ok (.return_, 1) := by decide +kernel
theorem dX4_takeWorksOff_0 : decode cX4_takeWorksOff 0 = .ok (.aload_n 0, 1) := by decide +kernel
theorem dX4_takeWorksOff_1 : decode cX4_takeWorksOff 1 = .ok (.getfield 18, 3) := by decide +kernel
theorem dX4_takeWorksOff_4 : decode cX4_takeWorksOff 4 = .ok (.iload_n 1, 1) := by decide +kernel
theorem dX4_takeWorksOff_5 : decode cX4_takeWorksOff 5 = .ok (.aload_n 2, 1) := by decide +kernel
theorem dX4_takeWorksOff_6 : decode cX4_takeWorksOff 6 = .ok (.invokevirtual 59, 3) := by decide +kernel
theorem dX4_takeWorksOff_9 : decode cX4_takeWorksOff 9 = .ok (.iastore, 1) := by decide +kernel
theorem dX4_takeWorksOff_10 : decode cX4_takeWorksOff 10 = .ok (.iconst 0, 1) := by decide +kernel
theorem dX4_takeWorksOff_11 : decode cX4_takeWorksOff 11 = .ok (.istore_n 3, 1) := by decide +kernel
theorem dX4_takeWorksOff_12 : decode cX4_takeWorksOff 12 = .ok (.iload_n 3, 1) := by decide +kernel
theorem dX4_takeWorksOff_13 : decode cX4_takeWorksOff 13 = .ok (.bipush 24, 2) := by decide +kernel
theorem dX4_takeWorksOff_15 : decode cX4_takeWorksOff 15 = .ok (.if_icmp .ge 23, 3) := by decide +kernel
theorem dX4_takeWorksOff_18 : decode cX4_takeWorksOff 18 = .ok (.aload_n 0, 1) := by decide +kernel
theorem dX4_takeWorksOff_19 : decode cX4_takeWorksOff 19 = .ok (.getfield 23, 3) := by decide +kernel
theorem dX4_takeWorksOff_22 : decode cX4_takeWorksOff 22 = .ok (.iload_n 1, 1) := by decide +kernel
theorem dX4_takeWorksOff_23 : decode cX4_takeWorksOff 23 = .ok (.aaload, 1) := by decide +kernel
theorem dX4_takeWorksOff_24 : decode cX4_takeWorksOff 24 = .ok (.iload_n 3, 1) := by decide +kernel
theorem dX4_takeWorksOff_25 : decode cX4_takeWorksOff 25 = .ok (.aload_n 2, 1) := by decide +kernel
theorem dX4_takeWorksOff_26 : decode cX4_takeWorksOff 26 = .ok (.iload_n 1, 1) := by decide +kernel
theorem dX4_takeWorksOff_27 : decode cX4_takeWorksOff 27 = .ok (.iload_n 3, 1) := by decide +kernel
theorem dX4_takeWorksOff_28 : decode cX4_takeWorksOff 28 = .ok (.invokevirtual 61, 3) := by decide +kernel
theorem dX4_takeWorksOff_31 : decode cX4_takeWorksOff 31 = .ok (.iastore, 1) := by decide +kernel
theorem dX4_takeWorksOff_32 : decode cX4_takeWorksOff 32 = .ok (.iinc 3 1, 3) := by decide +kernel
theorem dX4_takeWorksOff_35 : decode cX4_takeWorksOff 35 = .ok (.goto (-23), 3) := by decide +kernel
theorem dX4_takeWorksOff_38 : decode cX4_takeWorksOff 38 = .ok (.return_, 1) := by decide +kernel
theorem dX4_takeAllWorksOff_0 : decode cX4_takeAllWorksOff 0 = .ok (.iconst 0, 1) := by decide +kernel
theorem dX4_takeAllWorksOff_1 : decode cX4_takeAllWorksOff 1 = .ok (.istore_n 2, 1) := by decide +kernel
theorem dX4_takeAllWorksOff_2 : decode cX4_takeAllWorksOff 2 = .ok (.iload_n 2, 1) := by decide +kernel
theorem dX4_takeAllWorksOff_3 : decode cX4_takeAllWorksOff 3 = .ok (.iconst 5, 1) := by decide +kernel
theorem dX4_takeAllWorksOff_4 : decode cX4_takeAllWorksOff 4 = .ok (.if_icmp .ge 15, 3) := by decide +kernel
theorem dX4_takeAllWorksOff_7 : decode cX4_takeAllWorksOff 7 = .ok (.aload_n 0, 1) := by decide +kernel
theorem dX4_takeAllWorksOff_8 : decode cX4_takeAllWorksOff 8 = .ok (.iload_n 2, 1) := by decide +kernel
theorem dX4_takeAllWorksOff_9 : decode cX4_takeAllWorksOff 9 = .ok (.aload_n 1, 1) := by decide +kernel
theorem dX4_takeAllWorksOff_10 : decode cX4_takeAllWorksOff 10 = .ok (.invokevirtual 46, 3) := by decide +kernel
theorem dX4_takeAllWorksOff_13 : decode cX4_takeAllWorksOff 13 = .ok (.iinc 2 1, 3) := by decide +kernel
theorem dX4_takeAllWorksOff_16 : decode cX4_takeAllWorksOff 16 = .ok (.goto (-14), 3) := by decide +kernel
theorem dX4_takeAllWorksOff_19 : decode cX4_takeAllWorksOff 19 = .ok (.return_, 1) := by decide +kernel
theorem dX4_putWork_0 : decode cX4_putWork 0 = .ok (.aload_n 0, 1) := by decide +kernel
theorem dX4_putWork_1 : decode cX4_putWork 1 = .ok (.getfield 18, 3) := by decide +kernel
theorem dX4_putWork_4 : decode cX4_putWork 4 = .ok (.iload_n 1, 1) := by decide +kernel
theorem dX4_putWork_5 : decode cX4_putWork 5 = .ok (.iconst 0, 1) := by decide +kernel
theorem dX4_putWork_6 : decode cX4_putWork 6 = .ok (.aload_n 0, 1) := by decide +kernel
theorem dX4_putWork_7 : decode cX4_putWork 7 = .ok (.getfield 18, 3) := by decide +kernel
theorem dX4_putWork_10 : decode cX4_putWork 10 = .ok (.iload_n 1, 1) := by decide +kernel
theorem dX4_putWork_11 : decode cX4_putWork 11 = .ok (.iaload, 1) := by decide +kernel
theorem dX4_putWork_12 : decode cX4_putWork 12 = .ok (.iload_n 3, 1) := by decide +kernel
theorem dX4_putWork_13 : decode cX4_putWork 13 = .ok (.isub, 1) := by decide +kernel
theorem dX4_putWork_14 : decode cX4_putWork 14 = .ok (.invokestatic 65, 3) := by decide +kernel
theorem dX4_putWork_17 : decode cX4_putWork 17 = .ok (.iastore, 1) := by decide +kernel
theorem dX4_putWork_18 : decode cX4_putWork 18 = .ok (.iconst 0, 1) := by decide +kernel
theorem dX4_putWork_19 : decode cX4_putWork 19 = .ok (.istore 4, 2) := by decide +kernel
theorem dX4_putWork_21 : decode cX4_putWork 21 = .ok (.iload 4, 2) := by decide +kernel
theorem dX4_putWork_23 : decode cX4_putWork 23 = .ok (.bipush 24, 2) := by decide +kernel
theorem dX4_putWork_25 : decode cX4_putWork 25 = .ok (.if_icmp .ge 35, 3) := by decide +kernel
theorem dX4_putWork_28 : decode cX4_putWork 28 = .ok (.aload_n 0, 1) := by decide +kernel
theorem dX4_putWork_29 : decode cX4_putWork 29 = .ok (.getfield 23, 3) := by decide +kernel
theorem dX4_putWork_32 : decode cX4_putWork 32 = .ok (.iload_n 1, 1) := by decide +kernel
theorem dX4_putWork_33 : decode cX4_putWork 33 = .ok (.aaload, 1) := by decide +kernel
theorem dX4_putWork_34 : decode cX4_putWork 34 = .ok (.iload 4, 2) := by decide +kernel
theorem dX4_putWork_36 : decode cX4_putWork 36 = .ok (.aload_n 0, 1) := by decide +kernel
theorem dX4_putWork_37 : decode cX4_putWork 37 = .ok (.getfield 23, 3) := by decide +kernel
theorem dX4_putWork_40 : decode cX4_putWork 40 = .ok (.iload_n 1, 1) := by decide +kernel
theorem dX4_putWork_41 : decode cX4_putWork 41 = .ok (.aaload, 1) := by decide +kernel
theorem dX4_putWork_42 : decode cX4_putWork 42 = .ok (.iload 4, 2) := by decide +kernel
theorem dX4_putWork_44 : decode cX4_putWork 44 = .ok (.iaload, 1) := by decide +kernel
theorem dX4_putWork_45 : decode cX4_putWork 45 = .ok (.bipush 100, 2) := by decide +kernel
theorem dX4_putWork_47 : decode cX4_putWork 47 = .ok (.iload_n 2, 1) := by decide +kernel
theorem dX4_putWork_48 : decode cX4_putWork 48 = .ok (.isub, 1) := by decide +kernel
theorem dX4_putWork_49 : decode cX4_putWork 49 = .ok (.imul, 1) := by decide +kernel
theorem dX4_putWork_50 : decode cX4_putWork 50 = .ok (.bipush 100, 2) := by decide +kernel
theorem dX4_putWork_52 : decode cX4_putWork 52 = .ok (.idiv, 1) := by decide +kernel
theorem dX4_putWork_53 : decode cX4_putWork 53 = .ok (.iastore, 1) := by decide +kernel
theorem dX4_putWork_54 : decode cX4_putWork 54 = .ok (.iinc 4 1, 3) := by decide +kernel
theorem dX4_putWork_57 : decode cX4_putWork 57 = .ok (.goto (-36), 3) := by decide +kernel
theorem dX4_putWork_60 : decode cX4_putWork 60 = .ok (.return_, 1) := by decide +kernel
theorem dX4_putHabit_0 : decode cX4_putHabit 0 = .ok (.aload_n 0, 1) := by decide +kernel
theorem dX4_putHabit_1 : decode cX4_putHabit 1 = .ok (.getfield 9, 3) := by decide +kernel
theorem dX4_putHabit_4 : decode cX4_putHabit 4 = .ok (.iload_n 1, 1) := by decide +kernel
theorem dX4_putHabit_5 : decode cX4_putHabit 5 = .ok (.iload_n 2, 1) := by decide +kernel
theorem dX4_putHabit_6 : decode cX4_putHabit 6 = .ok (.iastore, 1) := by decide +kernel
theorem dX4_putHabit_7 : decode cX4_putHabit 7 = .ok (.return_, 1) := by decide +kernel
theorem dX4_putAllByGlass_0 : decode cX4_putAllByGlass 0 = .ok (.iconst 0, 1) := by decide +kernel
theorem dX4_putAllByGlass_1 : decode cX4_putAllByGlass 1 = .ok (.istore_n 1, 1) := by decide +kernel
theorem dX4_putAllByGlass_2 : decode cX4_putAllByGlass 2 = .ok (.iload_n 1, 1) := by decide +kernel
theorem dX4_putAllByGlass_3 : decode cX4_putAllByGlass 3 = .ok (.iconst 5, 1) := by decide +kernel
theorem dX4_putAllByGlass_4 : decode cX4_putAllByGlass 4 = .ok (.if_icmp .ge 16, 3) := by decide +kernel
theorem dX4_putAllByGlass_7 : decode cX4_putAllByGlass 7 = .ok (.aload_n 0, 1) := by decide +kernel
theorem dX4_putAllByGlass_8 : decode cX4_putAllByGlass 8 = .ok (.getfield 9, 3) := by decide +kernel
theorem dX4_putAllByGlass_11 : decode cX4_putAllByGlass 11 = .ok (.iload_n 1, 1) := by decide +kernel
theorem dX4_putAllByGlass_12 : decode cX4_putAllByGlass 12 = .ok (.iconst 1, 1) := by decide +kernel
theorem dX4_putAllByGlass_13 : decode cX4_putAllByGlass 13 = .ok (.iastore, 1) := by decide +kernel
theorem dX4_putAllByGlass_14 : decode cX4_putAllByGlass 14 = .ok (.iinc 1 1, 3) := by decide +kernel
theorem dX4_putAllByGlass_17 : decode cX4_putAllByGlass 17 = .ok (.goto (-15), 3) := by decide +kernel
theorem dX4_putAllByGlass_20 : decode cX4_putAllByGlass 20 = .ok (.return_, 1) := by decide +kernel
theorem dX4_putAllByClock_0 : decode cX4_putAllByClock 0 = .ok (.iconst 0, 1) := by decide +kernel
theorem dX4_putAllByClock_1 : decode cX4_putAllByClock 1 = .ok (.istore_n 2, 1) := by decide +kernel
theorem dX4_putAllByClock_2 : decode cX4_putAllByClock 2 = .ok (.iload_n 2, 1) := by decide +kernel
theorem dX4_putAllByClock_3 : decode cX4_putAllByClock 3 = .ok (.iconst 5, 1) := by decide +kernel
theorem dX4_putAllByClock_4 : decode cX4_putAllByClock 4 = .ok (.if_icmp .ge 23, 3) := by decide +kernel
theorem dX4_putAllByClock_7 : decode cX4_putAllByClock 7 = .ok (.aload_n 0, 1) := by decide +kernel
theorem dX4_putAllByClock_8 : decode cX4_putAllByClock 8 = .ok (.getfield 9, 3) := by decide +kernel
theorem dX4_putAllByClock_11 : decode cX4_putAllByClock 11 = .ok (.iload_n 2, 1) := by decide +kernel
theorem dX4_putAllByClock_12 : decode cX4_putAllByClock 12 = .ok (.iconst 0, 1) := by decide +kernel
theorem dX4_putAllByClock_13 : decode cX4_putAllByClock 13 = .ok (.iastore, 1) := by decide +kernel
theorem dX4_putAllByClock_14 : decode cX4_putAllByClock 14 = .ok (.aload_n 0, 1) := by decide +kernel
theorem dX4_putAllByClock_15 : decode cX4_putAllByClock 15 = .ok (.getfield 15, 3) := by decide +kernel
theorem dX4_putAllByClock_18 : decode cX4_putAllByClock 18 = .ok (.iload_n 2, 1) := by decide +kernel
theorem dX4_putAllByClock_19 : decode cX4_putAllByClock 19 = .ok (.iload_n 1, 1) := by decide +kernel
theorem dX4_putAllByClock_20 : decode cX4_putAllByClock 20 = .ok (.iastore, 1) := by decide +kernel
theorem dX4_putAllByClock_21 : decode cX4_putAllByClock 21 = .ok (.iinc 2 1, 3) := by decide +kernel
theorem dX4_putAllByClock_24 : decode cX4_putAllByClock 24 = .ok (.goto (-22), 3) := by decide +kernel
theorem dX4_putAllByClock_27 : decode cX4_putAllByClock 27 = .ok (.return_, 1) := by decide +kernel
theorem dX4_putLaw_0 : decode cX4_putLaw 0 = .ok (.aload_n 0, 1) := by decide +kernel
theorem dX4_putLaw_1 : decode cX4_putLaw 1 = .ok (.iload_n 1, 1) := by decide +kernel
theorem dX4_putLaw_2 : decode cX4_putLaw 2 = .ok (.putfield 33, 3) := by decide +kernel
theorem dX4_putLaw_5 : decode cX4_putLaw 5 = .ok (.aload_n 0, 1) := by decide +kernel
theorem dX4_putLaw_6 : decode cX4_putLaw 6 = .ok (.iload_n 2, 1) := by decide +kernel
theorem dX4_putLaw_7 : decode cX4_putLaw 7 = .ok (.putfield 29, 3) := by decide +kernel
theorem dX4_putLaw_10 : decode cX4_putLaw 10 = .ok (.return_, 1) := by decide +kernel
theorem dX4_skyAt_0 : decode cX4_skyAt 0 = .ok (.aload_n 0, 1) := by decide +kernel
theorem dX4_skyAt_1 : decode cX4_skyAt 1 = .ok (.getfield 26, 3) := by decide +kernel
theorem dX4_skyAt_4 : decode cX4_skyAt 4 = .ok (.iload_n 1, 1) := by decide +kernel
theorem dX4_skyAt_5 : decode cX4_skyAt 5 = .ok (.iaload, 1) := by decide +kernel
theorem dX4_skyAt_6 : decode cX4_skyAt 6 = .ok (.ireturn, 1) := by decide +kernel
theorem dX4_sunIn_0 : decode cX4_sunIn 0 = .ok (.aload_n 0, 1) := by decide +kernel
theorem dX4_sunIn_1 : decode cX4_sunIn 1 = .ok (.getfield 23, 3) := by decide +kernel
theorem dX4_sunIn_4 : decode cX4_sunIn 4 = .ok (.iload_n 1, 1) := by decide +kernel
theorem dX4_sunIn_5 : decode cX4_sunIn 5 = .ok (.aaload, 1) := by decide +kernel
theorem dX4_sunIn_6 : decode cX4_sunIn 6 = .ok (.iload_n 2, 1) := by decide +kernel
theorem dX4_sunIn_7 : decode cX4_sunIn 7 = .ok (.iaload, 1) := by decide +kernel
theorem dX4_sunIn_8 : decode cX4_sunIn 8 = .ok (.ireturn, 1) := by decide +kernel
theorem dX4_leaks_0 : decode cX4_leaks 0 = .ok (.aload_n 0, 1) := by decide +kernel
theorem dX4_leaks_1 : decode cX4_leaks 1 = .ok (.getfield 18, 3) := by decide +kernel
theorem dX4_leaks_4 : decode cX4_leaks 4 = .ok (.iload_n 1, 1) := by decide +kernel
theorem dX4_leaks_5 : decode cX4_leaks 5 = .ok (.iaload, 1) := by decide +kernel
theorem dX4_leaks_6 : decode cX4_leaks 6 = .ok (.ireturn, 1) := by decide +kernel
theorem dX4_takes_0 : decode cX4_takes 0 = .ok (.aload_n 0, 1) := by decide +kernel
theorem dX4_takes_1 : decode cX4_takes 1 = .ok (.getfield 29, 3) := by decide +kernel
theorem dX4_takes_4 : decode cX4_takes 4 = .ok (.ireturn, 1) := by decide +kernel
theorem dX4_gives_0 : decode cX4_gives 0 = .ok (.aload_n 0, 1) := by decide +kernel
theorem dX4_gives_1 : decode cX4_gives 1 = .ok (.getfield 33, 3) := by decide +kernel
theorem dX4_gives_4 : decode cX4_gives 4 = .ok (.ireturn, 1) := by decide +kernel
theorem dX4_wouldOpen_0 : decode cX4_wouldOpen 0 = .ok (.aload_n 0, 1) := by decide +kernel
theorem dX4_wouldOpen_1 : decode cX4_wouldOpen 1 = .ok (.getfield 9, 3) := by decide +kernel
theorem dX4_wouldOpen_4 : decode cX4_wouldOpen 4 = .ok (.iload_n 1, 1) := by decide +kernel
theorem dX4_wouldOpen_5 : decode cX4_wouldOpen 5 = .ok (.iaload, 1) := by decide +kernel
theorem dX4_wouldOpen_6 : decode cX4_wouldOpen 6 = .ok (.tableswitch 58 0 2 #[26, 40, 56], 26) := by decide +kernel
theorem dX4_wouldOpen_32 : decode cX4_wouldOpen 32 = .ok (.aload_n 0, 1) := by decide +kernel
theorem dX4_wouldOpen_33 : decode cX4_wouldOpen 33 = .ok (.getfield 15, 3) := by decide +kernel
theorem dX4_wouldOpen_36 : decode cX4_wouldOpen 36 = .ok (.iload_n 1, 1) := by decide +kernel
theorem dX4_wouldOpen_37 : decode cX4_wouldOpen 37 = .ok (.iaload, 1) := by decide +kernel
theorem dX4_wouldOpen_38 : decode cX4_wouldOpen 38 = .ok (.iload_n 2, 1) := by decide +kernel
theorem dX4_wouldOpen_39 : decode cX4_wouldOpen 39 = .ok (.bipush 24, 2) := by decide +kernel
theorem dX4_wouldOpen_41 : decode cX4_wouldOpen 41 = .ok (.irem, 1) := by decide +kernel
theorem dX4_wouldOpen_42 : decode cX4_wouldOpen 42 = .ok (.invokestatic 70, 3) := by decide +kernel
theorem dX4_wouldOpen_45 : decode cX4_wouldOpen 45 = .ok (.ireturn, 1) := by decide +kernel
theorem dX4_wouldOpen_46 : decode cX4_wouldOpen 46 = .ok (.aload_n 0, 1) := by decide +kernel
theorem dX4_wouldOpen_47 : decode cX4_wouldOpen 47 = .ok (.getfield 26, 3) := by decide +kernel
theorem dX4_wouldOpen_50 : decode cX4_wouldOpen 50 = .ok (.iload_n 2, 1) := by decide +kernel
theorem dX4_wouldOpen_51 : decode cX4_wouldOpen 51 = .ok (.iaload, 1) := by decide +kernel
theorem dX4_wouldOpen_52 : decode cX4_wouldOpen 52 = .ok (.iload_n 3, 1) := by decide +kernel
theorem dX4_wouldOpen_53 : decode cX4_wouldOpen 53 = .ok (.if_icmp .ge 7, 3) := by decide +kernel
theorem dX4_wouldOpen_56 : decode cX4_wouldOpen 56 = .ok (.iconst 1, 1) := by decide +kernel
theorem dX4_wouldOpen_57 : decode cX4_wouldOpen 57 = .ok (.goto 4, 3) := by decide +kernel
theorem dX4_wouldOpen_60 : decode cX4_wouldOpen 60 = .ok (.iconst 0, 1) := by decide +kernel
theorem dX4_wouldOpen_61 : decode cX4_wouldOpen 61 = .ok (.ireturn, 1) := by decide +kernel
theorem dX4_wouldOpen_62 : decode cX4_wouldOpen 62 = .ok (.iconst 1, 1) := by decide +kernel
theorem dX4_wouldOpen_63 : decode cX4_wouldOpen 63 = .ok (.ireturn, 1) := by decide +kernel
theorem dX4_wouldOpen_64 : decode cX4_wouldOpen 64 = .ok (.iconst 0, 1) := by decide +kernel
theorem dX4_wouldOpen_65 : decode cX4_wouldOpen 65 = .ok (.ireturn, 1) := by decide +kernel
theorem dX5_init_0 : decode cX5_init 0 = .ok (.aload_n 0, 1) := by decide +kernel
theorem dX5_init_1 : decode cX5_init 1 = .ok (.invokespecial 3, 3) := by decide +kernel
theorem dX5_init_4 : decode cX5_init 4 = .ok (.aload_n 0, 1) := by decide +kernel
theorem dX5_init_5 : decode cX5_init 5 = .ok (.bipush 8, 2) := by decide +kernel
theorem dX5_init_7 : decode cX5_init 7 = .ok (.newarray .int, 2) := by decide +kernel
theorem dX5_init_9 : decode cX5_init 9 = .ok (.putfield 11, 3) := by decide +kernel
theorem dX5_init_12 : decode cX5_init 12 = .ok (.aload_n 0, 1) := by decide +kernel
theorem dX5_init_13 : decode cX5_init 13 = .ok (.bipush 8, 2) := by decide +kernel
theorem dX5_init_15 : decode cX5_init 15 = .ok (.iconst 5, 1) := by decide +kernel
theorem dX5_init_16 : decode cX5_init 16 = .ok (.multianewarray 15 2, 4) := by decide +kernel
theorem dX5_init_20 : decode cX5_init 20 = .ok (.putfield 17, 3) := by decide +kernel
theorem dX5_init_23 : decode cX5_init 23 = .ok (.aload_n 0, 1) := by decide +kernel
theorem dX5_init_24 : decode cX5_init 24 = .ok (.iconst 0, 1) := by decide +kernel
theorem dX5_init_25 : decode cX5_init 25 = .ok (.putfield 20, 3) := by decide +kernel
theorem dX5_init_28 : decode cX5_init 28 = .ok (.aload_n 0, 1) := by decide +kernel
theorem dX5_init_29 : decode cX5_init 29 = .ok (.iconst 0, 1) := by decide +kernel
theorem dX5_init_30 : decode cX5_init 30 = .ok (.putfield 24, 3) := by decide +kernel
theorem dX5_init_33 : decode cX5_init 33 = .ok (.return_, 1) := by decide +kernel
theorem dX5_lines_0 : decode cX5_lines 0 = .ok (.aload_n 0, 1) := by decide +kernel
theorem dX5_lines_1 : decode cX5_lines 1 = .ok (.getfield 20, 3) := by decide +kernel
theorem dX5_lines_4 : decode cX5_lines 4 = .ok (.ireturn, 1) := by decide +kernel
theorem dX5_kindOf_0 : decode cX5_kindOf 0 = .ok (.aload_n 0, 1) := by decide +kernel
theorem dX5_kindOf_1 : decode cX5_kindOf 1 = .ok (.getfield 11, 3) := by decide +kernel
theorem dX5_kindOf_4 : decode cX5_kindOf 4 = .ok (.iload_n 1, 1) := by decide +kernel
theorem dX5_kindOf_5 : decode cX5_kindOf 5 = .ok (.iaload, 1) := by decide +kernel
theorem dX5_kindOf_6 : decode cX5_kindOf 6 = .ok (.ireturn, 1) := by decide +kernel
theorem dX5_numbersOf_0 : decode cX5_numbersOf 0 = .ok (.aload_n 0, 1) := by decide +kernel
theorem dX5_numbersOf_1 : decode cX5_numbersOf 1 = .ok (.getfield 17, 3) := by decide +kernel
theorem dX5_numbersOf_4 : decode cX5_numbersOf 4 = .ok (.iload_n 1, 1) := by decide +kernel
theorem dX5_numbersOf_5 : decode cX5_numbersOf 5 = .ok (.aaload, 1) := by decide +kernel
theorem dX5_numbersOf_6 : decode cX5_numbersOf 6 = .ok (.areturn, 1) := by decide +kernel
theorem dX5_faultOf_0 : decode cX5_faultOf 0 = .ok (.aload_n 0, 1) := by decide +kernel
theorem dX5_faultOf_1 : decode cX5_faultOf 1 = .ok (.iconst 0, 1) := by decide +kernel
theorem dX5_faultOf_2 : decode cX5_faultOf 2 = .ok (.putfield 20, 3) := by decide +kernel
theorem dX5_faultOf_5 : decode cX5_faultOf 5 = .ok (.aload_n 0, 1) := by decide +kernel
theorem dX5_faultOf_6 : decode cX5_faultOf 6 = .ok (.iconst 0, 1) := by decide +kernel
theorem dX5_faultOf_7 : decode cX5_faultOf 7 = .ok (.putfield 24, 3) := by decide +kernel
theorem dX5_faultOf_10 : decode cX5_faultOf 10 = .ok (.iconst 0, 1) := by decide +kernel
theorem dX5_faultOf_11 : decode cX5_faultOf 11 = .ok (.istore_n 2, 1) := by decide +kernel
theorem dX5_faultOf_12 : decode cX5_faultOf 12 = .ok (.iload_n 2, 1) := by decide +kernel
theorem dX5_faultOf_13 : decode cX5_faultOf 13 = .ok (.bipush 8, 2) := by decide +kernel
theorem dX5_faultOf_15 : decode cX5_faultOf 15 = .ok (.if_icmp .ge 95, 3) := by decide +kernel
theorem dX5_faultOf_18 : decode cX5_faultOf 18 = .ok (.aload_n 0, 1) := by decide +kernel
theorem dX5_faultOf_19 : decode cX5_faultOf 19 = .ok (.aload_n 1, 1) := by decide +kernel
theorem dX5_faultOf_20 : decode cX5_faultOf 20 = .ok (.iload_n 2, 1) := by decide +kernel
theorem dX5_faultOf_21 : decode cX5_faultOf 21 = .ok (.invokevirtual 27, 3) := by decide +kernel
theorem dX5_faultOf_24 : decode cX5_faultOf 24 = .ok (.ifCond .eq 12, 3) := by decide +kernel
theorem dX5_faultOf_27 : decode cX5_faultOf 27 = .ok (.aload_n 0, 1) := by decide +kernel
theorem dX5_faultOf_28 : decode cX5_faultOf 28 = .ok (.aload_n 1, 1) := by decide +kernel
theorem dX5_faultOf_29 : decode cX5_faultOf 29 = .ok (.iload_n 2, 1) := by decide +kernel
theorem dX5_faultOf_30 : decode cX5_faultOf 30 = .ok (.invokevirtual 31, 3) := by decide +kernel
theorem dX5_faultOf_33 : decode cX5_faultOf 33 = .ok (.ifCond .ne 8, 3) := by decide +kernel
theorem dX5_faultOf_36 : decode cX5_faultOf 36 = .ok (.aload_n 0, 1) := by decide +kernel
theorem dX5_faultOf_37 : decode cX5_faultOf 37 = .ok (.getfield 24, 3) := by decide +kernel
theorem dX5_faultOf_40 : decode cX5_faultOf 40 = .ok (.ireturn, 1) := by decide +kernel
theorem dX5_faultOf_41 : decode cX5_faultOf 41 = .ok (.aload_n 0, 1) := by decide +kernel
theorem dX5_faultOf_42 : decode cX5_faultOf 42 = .ok (.dup, 1) := by decide +kernel
theorem dX5_faultOf_43 : decode cX5_faultOf 43 = .ok (.getfield 20, 3) := by decide +kernel
theorem dX5_faultOf_46 : decode cX5_faultOf 46 = .ok (.iconst 1, 1) := by decide +kernel
theorem dX5_faultOf_47 : decode cX5_faultOf 47 = .ok (.iadd, 1) := by decide +kernel
theorem dX5_faultOf_48 : decode cX5_faultOf 48 = .ok (.putfield 20, 3) := by decide +kernel
theorem dX5_faultOf_51 : decode cX5_faultOf 51 = .ok (.aload_n 0, 1) := by decide +kernel
theorem dX5_faultOf_52 : decode cX5_faultOf 52 = .ok (.aload_n 1, 1) := by decide +kernel
theorem dX5_faultOf_53 : decode cX5_faultOf 53 = .ok (.aload_n 0, 1) := by decide +kernel
theorem dX5_faultOf_54 : decode cX5_faultOf 54 = .ok (.getfield 24, 3) := by decide +kernel
theorem dX5_faultOf_57 : decode cX5_faultOf 57 = .ok (.invokevirtual 34, 3) := by decide +kernel
theorem dX5_faultOf_60 : decode cX5_faultOf 60 = .ok (.putfield 24, 3) := by decide +kernel
theorem dX5_faultOf_63 : decode cX5_faultOf 63 = .ok (.aload_n 0, 1) := by decide +kernel
theorem dX5_faultOf_64 : decode cX5_faultOf 64 = .ok (.getfield 24, 3) := by decide +kernel
theorem dX5_faultOf_67 : decode cX5_faultOf 67 = .ok (.aload_n 1, 1) := by decide +kernel
theorem dX5_faultOf_68 : decode cX5_faultOf 68 = .ok (.invokevirtual 40, 3) := by decide +kernel
theorem dX5_faultOf_71 : decode cX5_faultOf 71 = .ok (.if_icmp .ne 5, 3) := by decide +kernel
theorem dX5_faultOf_74 : decode cX5_faultOf 74 = .ok (.iconst (-1), 1) := by decide +kernel
theorem dX5_faultOf_75 : decode cX5_faultOf 75 = .ok (.ireturn, 1) := by decide +kernel
theorem dX5_faultOf_76 : decode cX5_faultOf 76 = .ok (.aload_n 1, 1) := by decide +kernel
theorem dX5_faultOf_77 : decode cX5_faultOf 77 = .ok (.aload_n 0, 1) := by decide +kernel
theorem dX5_faultOf_78 : decode cX5_faultOf 78 = .ok (.getfield 24, 3) := by decide +kernel
theorem dX5_faultOf_81 : decode cX5_faultOf 81 = .ok (.invokevirtual 44, 3) := by decide +kernel
theorem dX5_faultOf_84 : decode cX5_faultOf 84 = .ok (.bipush 59, 2) := by decide +kernel
theorem dX5_faultOf_86 : decode cX5_faultOf 86 = .ok (.if_icmp .eq 8, 3) := by decide +kernel
theorem dX5_faultOf_89 : decode cX5_faultOf 89 = .ok (.aload_n 0, 1) := by decide +kernel
theorem dX5_faultOf_90 : decode cX5_faultOf 90 = .ok (.getfield 24, 3) := by decide +kernel
theorem dX5_faultOf_93 : decode cX5_faultOf 93 = .ok (.ireturn, 1) := by decide +kernel
theorem dX5_faultOf_94 : decode cX5_faultOf 94 = .ok (.aload_n 0, 1) := by decide +kernel
theorem dX5_faultOf_95 : decode cX5_faultOf 95 = .ok (.dup, 1) := by decide +kernel
theorem dX5_faultOf_96 : decode cX5_faultOf 96 = .ok (.getfield 24, 3) := by decide +kernel
theorem dX5_faultOf_99 : decode cX5_faultOf 99 = .ok (.iconst 1, 1) := by decide +kernel
theorem dX5_faultOf_100 : decode cX5_faultOf 100 = .ok (.iadd, 1) := by decide +kernel
theorem dX5_faultOf_101 : decode cX5_faultOf 101 = .ok (.putfield 24, 3) := by decide +kernel
theorem dX5_faultOf_104 : decode cX5_faultOf 104 = .ok (.iinc 2 1, 3) := by decide +kernel
theorem dX5_faultOf_107 : decode cX5_faultOf 107 = .ok (.goto (-95), 3) := by decide +kernel
theorem dX5_faultOf_110 : decode cX5_faultOf 110 = .ok (.aload_n 0, 1) := by decide +kernel
theorem dX5_faultOf_111 : decode cX5_faultOf 111 = .ok (.getfield 24, 3) := by decide +kernel
theorem dX5_faultOf_114 : decode cX5_faultOf 114 = .ok (.iconst 1, 1) := by decide +kernel
theorem dX5_faultOf_115 : decode cX5_faultOf 115 = .ok (.isub, 1) := by decide +kernel
theorem dX5_faultOf_116 : decode cX5_faultOf 116 = .ok (.ireturn, 1) := by decide +kernel
theorem dX5_readsWord_0 : decode cX5_readsWord 0 = .ok (.aload_n 0, 1) := by decide +kernel
theorem dX5_readsWord_1 : decode cX5_readsWord 1 = .ok (.aload_n 1, 1) := by decide +kernel
theorem dX5_readsWord_2 : decode cX5_readsWord 2 = .ok (.aload_n 0, 1) := by decide +kernel
theorem dX5_readsWord_3 : decode cX5_readsWord 3 = .ok (.getfield 24, 3) := by decide +kernel
theorem dX5_readsWord_6 : decode cX5_readsWord 6 = .ok (.invokevirtual 34, 3) := by decide +kernel
theorem dX5_readsWord_9 : decode cX5_readsWord 9 = .ok (.putfield 24, 3) := by decide +kernel
theorem dX5_readsWord_12 : decode cX5_readsWord 12 = .ok (.aload_n 1, 1) := by decide +kernel
theorem dX5_readsWord_13 : decode cX5_readsWord 13 = .ok (.aload_n 0, 1) := by decide +kernel
theorem dX5_readsWord_14 : decode cX5_readsWord 14 = .ok (.getfield 24, 3) := by decide +kernel
theorem dX5_readsWord_17 : decode cX5_readsWord 17 = .ok (.invokevirtual 47, 3) := by decide +kernel
theorem dX5_readsWord_20 : decode cX5_readsWord 20 = .ok (.istore_n 3, 1) := by decide +kernel
theorem dX5_readsWord_21 : decode cX5_readsWord 21 = .ok (.iconst 0, 1) := by decide +kernel
theorem dX5_readsWord_22 : decode cX5_readsWord 22 = .ok (.istore 4, 2) := by decide +kernel
theorem dX5_readsWord_24 : decode cX5_readsWord 24 = .ok (.iload 4, 2) := by decide +kernel
theorem dX5_readsWord_26 : decode cX5_readsWord 26 = .ok (.bipush 10, 2) := by decide +kernel
theorem dX5_readsWord_28 : decode cX5_readsWord 28 = .ok (.if_icmp .ge 41, 3) := by decide +kernel
theorem dX5_readsWord_31 : decode cX5_readsWord 31 = .ok (.aload_n 1, 1) := by decide +kernel
theorem dX5_readsWord_32 : decode cX5_readsWord 32 = .ok (.aload_n 0, 1) := by decide +kernel
theorem dX5_readsWord_33 : decode cX5_readsWord 33 = .ok (.getfield 24, 3) := by decide +kernel
theorem dX5_readsWord_36 : decode cX5_readsWord 36 = .ok (.iload_n 3, 1) := by decide +kernel
theorem dX5_readsWord_37 : decode cX5_readsWord 37 = .ok (.iload 4, 2) := by decide +kernel
theorem dX5_readsWord_39 : decode cX5_readsWord 39 = .ok (.invokestatic 52, 3) := by decide +kernel
theorem dX5_readsWord_42 : decode cX5_readsWord 42 = .ok (.invokevirtual 56, 3) := by decide +kernel
theorem dX5_readsWord_45 : decode cX5_readsWord 45 = .ok (.ifCond .eq 18, 3) := by decide +kernel
theorem dX5_readsWord_48 : decode cX5_readsWord 48 = .ok (.aload_n 0, 1) := by decide +kernel
theorem dX5_readsWord_49 : decode cX5_readsWord 49 = .ok (.getfield 11, 3) := by decide +kernel
theorem dX5_readsWord_52 : decode cX5_readsWord 52 = .ok (.iload_n 2, 1) := by decide +kernel
theorem dX5_readsWord_53 : decode cX5_readsWord 53 = .ok (.iload 4, 2) := by decide +kernel
theorem dX5_readsWord_55 : decode cX5_readsWord 55 = .ok (.iastore, 1) := by decide +kernel
theorem dX5_readsWord_56 : decode cX5_readsWord 56 = .ok (.aload_n 0, 1) := by decide +kernel
theorem dX5_readsWord_57 : decode cX5_readsWord 57 = .ok (.iload_n 3, 1) := by decide +kernel
theorem dX5_readsWord_58 : decode cX5_readsWord 58 = .ok (.putfield 24, 3) := by decide +kernel
theorem dX5_readsWord_61 : decode cX5_readsWord 61 = .ok (.iconst 1, 1) := by decide +kernel
theorem dX5_readsWord_62 : decode cX5_readsWord 62 = .ok (.ireturn, 1) := by decide +kernel
theorem dX5_readsWord_63 : decode cX5_readsWord 63 = .ok (.iinc 4 1, 3) := by decide +kernel
theorem dX5_readsWord_66 : decode cX5_readsWord 66 = .ok (.goto (-42), 3) := by decide +kernel
theorem dX5_readsWord_69 : decode cX5_readsWord 69 = .ok (.iconst 0, 1) := by decide +kernel
theorem dX5_readsWord_70 : decode cX5_readsWord 70 = .ok (.ireturn, 1) := by decide +kernel
theorem dX5_readsNumbers_0 : decode cX5_readsNumbers 0 = .ok (.aload_n 0, 1) := by decide +kernel
theorem dX5_readsNumbers_1 : decode cX5_readsNumbers 1 = .ok (.getfield 11, 3) := by decide +kernel
theorem dX5_readsNumbers_4 : decode cX5_readsNumbers 4 = .ok (.iload_n 2, 1) := by decide +kernel
theorem dX5_readsNumbers_5 : decode cX5_readsNumbers 5 = .ok (.iaload, 1) := by decide +kernel
theorem dX5_readsNumbers_6 : decode cX5_readsNumbers 6 = .ok (.iconst 5, 1) := by decide +kernel
theorem dX5_readsNumbers_7 : decode cX5_readsNumbers 7 = .ok (.imul, 1) := by decide +kernel
theorem dX5_readsNumbers_8 : decode cX5_readsNumbers 8 = .ok (.istore_n 3, 1) := by decide +kernel
theorem dX5_readsNumbers_9 : decode cX5_readsNumbers 9 = .ok (.iconst 0, 1) := by decide +kernel
theorem dX5_readsNumbers_10 : decode cX5_readsNumbers 10 = .ok (.istore 4, 2) := by decide +kernel
theorem dX5_readsNumbers_12 : decode cX5_readsNumbers 12 = .ok (.iload 4, 2) := by decide +kernel
theorem dX5_readsNumbers_14 : decode cX5_readsNumbers 14 = .ok (.iconst 5, 1) := by decide +kernel
theorem dX5_readsNumbers_15 : decode cX5_readsNumbers 15 = .ok (.if_icmp .ge 103, 3) := by decide +kernel
theorem dX5_readsNumbers_18 : decode cX5_readsNumbers 18 = .ok (.getstatic 60, 3) := by decide +kernel
theorem dX5_readsNumbers_21 : decode cX5_readsNumbers 21 = .ok (.iload_n 3, 1) := by decide +kernel
theorem dX5_readsNumbers_22 : decode cX5_readsNumbers 22 = .ok (.iload 4, 2) := by decide +kernel
theorem dX5_readsNumbers_24 : decode cX5_readsNumbers 24 = .ok (.iadd, 1) := by decide +kernel
theorem dX5_readsNumbers_25 : decode cX5_readsNumbers 25 = .ok (.iaload, 1) := by decide +kernel
theorem dX5_readsNumbers_26 : decode cX5_readsNumbers 26 = .ok (.iconst (-1), 1) := by decide +kernel
theorem dX5_readsNumbers_27 : decode cX5_readsNumbers 27 = .ok (.if_icmp .eq 91, 3) := by decide +kernel
theorem dX5_readsNumbers_30 : decode cX5_readsNumbers 30 = .ok (.aload_n 0, 1) := by decide +kernel
theorem dX5_readsNumbers_31 : decode cX5_readsNumbers 31 = .ok (.aload_n 1, 1) := by decide +kernel
theorem dX5_readsNumbers_32 : decode cX5_readsNumbers 32 = .ok (.aload_n 0, 1) := by decide +kernel
theorem dX5_readsNumbers_33 : decode cX5_readsNumbers 33 = .ok (.getfield 24, 3) := by decide +kernel
theorem dX5_readsNumbers_36 : decode cX5_readsNumbers 36 = .ok (.invokevirtual 34, 3) := by decide +kernel
theorem dX5_readsNumbers_39 : decode cX5_readsNumbers 39 = .ok (.putfield 24, 3) := by decide +kernel
theorem dX5_readsNumbers_42 : decode cX5_readsNumbers 42 = .ok (.aload_n 1, 1) := by decide +kernel
theorem dX5_readsNumbers_43 : decode cX5_readsNumbers 43 = .ok (.aload_n 0, 1) := by decide +kernel
theorem dX5_readsNumbers_44 : decode cX5_readsNumbers 44 = .ok (.getfield 24, 3) := by decide +kernel
theorem dX5_readsNumbers_47 : decode cX5_readsNumbers 47 = .ok (.invokevirtual 47, 3) := by decide +kernel
theorem dX5_readsNumbers_50 : decode cX5_readsNumbers 50 = .ok (.istore 5, 2) := by decide +kernel
theorem dX5_readsNumbers_52 : decode cX5_readsNumbers 52 = .ok (.aload_n 1, 1) := by decide +kernel
theorem dX5_readsNumbers_53 : decode cX5_readsNumbers 53 = .ok (.aload_n 0, 1) := by decide +kernel
theorem dX5_readsNumbers_54 : decode cX5_readsNumbers 54 = .ok (.getfield 24, 3) := by decide +kernel
theorem dX5_readsNumbers_57 : decode cX5_readsNumbers 57 = .ok (.iload 5, 2) := by decide +kernel
theorem dX5_readsNumbers_59 : decode cX5_readsNumbers 59 = .ok (.invokevirtual 63, 3) := by decide +kernel
theorem dX5_readsNumbers_62 : decode cX5_readsNumbers 62 = .ok (.istore 6, 2) := by decide +kernel
theorem dX5_readsNumbers_64 : decode cX5_readsNumbers 64 = .ok (.iload 6, 2) := by decide +kernel
theorem dX5_readsNumbers_66 : decode cX5_readsNumbers 66 = .ok (.iconst 0, 1) := by decide +kernel
theorem dX5_readsNumbers_67 : decode cX5_readsNumbers 67 = .ok (.getstatic 60, 3) := by decide +kernel
theorem dX5_readsNumbers_70 : decode cX5_readsNumbers 70 = .ok (.iload_n 3, 1) := by decide +kernel
theorem dX5_readsNumbers_71 : decode cX5_readsNumbers 71 = .ok (.iload 4, 2) := by decide +kernel
theorem dX5_readsNumbers_73 : decode cX5_readsNumbers 73 = .ok (.iadd, 1) := by decide +kernel
theorem dX5_readsNumbers_74 : decode cX5_readsNumbers 74 = .ok (.iaload, 1) := by decide +kernel
theorem dX5_readsNumbers_75 : decode cX5_readsNumbers 75 = .ok (.invokestatic 67, 3) := by decide +kernel
theorem dX5_readsNumbers_78 : decode cX5_readsNumbers 78 = .ok (.ifCond .eq 15, 3) := by decide +kernel
theorem dX5_readsNumbers_81 : decode cX5_readsNumbers 81 = .ok (.aload_n 0, 1) := by decide +kernel
theorem dX5_readsNumbers_82 : decode cX5_readsNumbers 82 = .ok (.iload_n 2, 1) := by decide +kernel
theorem dX5_readsNumbers_83 : decode cX5_readsNumbers 83 = .ok (.iload 4, 2) := by decide +kernel
theorem dX5_readsNumbers_85 : decode cX5_readsNumbers 85 = .ok (.iload 6, 2) := by decide +kernel
theorem dX5_readsNumbers_87 : decode cX5_readsNumbers 87 = .ok (.invokevirtual 71, 3) := by decide +kernel
theorem dX5_readsNumbers_90 : decode cX5_readsNumbers 90 = .ok (.ifCond .eq 5, 3) := by decide +kernel
theorem dX5_readsNumbers_93 : decode cX5_readsNumbers 93 = .ok (.iconst 0, 1) := by decide +kernel
theorem dX5_readsNumbers_94 : decode cX5_readsNumbers 94 = .ok (.ireturn, 1) := by decide +kernel
theorem dX5_readsNumbers_95 : decode cX5_readsNumbers 95 = .ok (.aload_n 0, 1) := by decide +kernel
theorem dX5_readsNumbers_96 : decode cX5_readsNumbers 96 = .ok (.getfield 17, 3) := by decide +kernel
theorem dX5_readsNumbers_99 : decode cX5_readsNumbers 99 = .ok (.iload_n 2, 1) := by decide +kernel
theorem dX5_readsNumbers_100 : decode cX5_readsNumbers 100 = .ok (.aaload, 1) := by decide +kernel
theorem dX5_readsNumbers_101 : decode cX5_readsNumbers 101 = .ok (.iload 4, 2) := by decide +kernel
theorem dX5_readsNumbers_103 : decode cX5_readsNumbers 103 = .ok (.iload 6, 2) := by decide +kernel
theorem dX5_readsNumbers_105 : decode cX5_readsNumbers 105 = .ok (.iastore, 1) := by decide +kernel
theorem dX5_readsNumbers_106 : decode cX5_readsNumbers 106 = .ok (.aload_n 0, 1) := by decide +kernel
theorem dX5_readsNumbers_107 : decode cX5_readsNumbers 107 = .ok (.iload 5, 2) := by decide +kernel
theorem dX5_readsNumbers_109 : decode cX5_readsNumbers 109 = .ok (.putfield 24, 3) := by decide +kernel
theorem dX5_readsNumbers_112 : decode cX5_readsNumbers 112 = .ok (.iinc 4 1, 3) := by decide +kernel
theorem dX5_readsNumbers_115 : decode cX5_readsNumbers 115 = .ok (.goto (-103), 3) := by decide +kernel
theorem dX5_readsNumbers_118 : decode cX5_readsNumbers 118 = .ok (.iconst 1, 1) := by decide +kernel
theorem dX5_readsNumbers_119 : decode cX5_readsNumbers 119 = .ok (.ireturn, 1) := by decide +kernel
theorem dX5_isDoorToItself_0 : decode cX5_isDoorToItself 0 = .ok (.aload_n 0, 1) := by decide +kernel
theorem dX5_isDoorToItself_1 : decode cX5_isDoorToItself 1 = .ok (.getfield 11, 3) := by decide +kernel
theorem dX5_isDoorToItself_4 : decode cX5_isDoorToItself 4 = .ok (.iload_n 1, 1) := by decide +kernel
theorem dX5_isDoorToItself_5 : decode cX5_isDoorToItself 5 = .ok (.iaload, 1) := by decide +kernel
theorem dX5_isDoorToItself_6 : decode cX5_isDoorToItself 6 = .ok (.iconst 1, 1) := by decide +kernel
theorem dX5_isDoorToItself_7 : decode cX5_isDoorToItself 7 = .ok (.if_icmp .ne 24, 3) := by decide +kernel
theorem dX5_isDoorToItself_10 : decode cX5_isDoorToItself 10 = .ok (.iload_n 2, 1) := by decide +kernel
theorem dX5_isDoorToItself_11 : decode cX5_isDoorToItself 11 = .ok (.iconst 1, 1) := by decide +kernel
theorem dX5_isDoorToItself_12 : decode cX5_isDoorToItself 12 = .ok (.if_icmp .ne 19, 3) := by decide +kernel
theorem dX5_isDoorToItself_15 : decode cX5_isDoorToItself 15 = .ok (.iload_n 3, 1) := by decide +kernel
theorem dX5_isDoorToItself_16 : decode cX5_isDoorToItself 16 = .ok (.aload_n 0, 1) := by decide +kernel
theorem dX5_isDoorToItself_17 : decode cX5_isDoorToItself 17 = .ok (.getfield 17, 3) := by decide +kernel
theorem dX5_isDoorToItself_20 : decode cX5_isDoorToItself 20 = .ok (.iload_n 1, 1) := by decide +kernel
theorem dX5_isDoorToItself_21 : decode cX5_isDoorToItself 21 = .ok (.aaload, 1) := by decide +kernel
theorem dX5_isDoorToItself_22 : decode cX5_isDoorToItself 22 = .ok (.iconst 0, 1) := by decide +kernel
theorem dX5_isDoorToItself_23 : decode cX5_isDoorToItself 23 = .ok (.iaload, 1) := by decide +kernel
theorem dX5_isDoorToItself_24 : decode cX5_isDoorToItself 24 = .ok (.if_icmp .ne 7, 3) := by decide +kernel
theorem dX5_isDoorToItself_27 : decode cX5_isDoorToItself 27 = .ok (.iconst 1, 1) := by decide +kernel
theorem dX5_isDoorToItself_28 : decode cX5_isDoorToItself 28 = .ok (.goto 4, 3) := by decide +kernel
theorem dX5_isDoorToItself_31 : decode cX5_isDoorToItself 31 = .ok (.iconst 0, 1) := by decide +kernel
theorem dX5_isDoorToItself_32 : decode cX5_isDoorToItself 32 = .ok (.ireturn, 1) := by decide +kernel
theorem dX6_init_0 : decode cX6_init 0 = .ok (.aload_n 0, 1) := by decide +kernel
theorem dX6_init_1 : decode cX6_init 1 = .ok (.invokespecial 5, 3) := by decide +kernel
theorem dX6_init_4 : decode cX6_init 4 = .ok (.aload_n 0, 1) := by decide +kernel
theorem dX6_init_5 : decode cX6_init 5 = .ok (.bipush 8, 2) := by decide +kernel
theorem dX6_init_7 : decode cX6_init 7 = .ok (.newarray .int, 2) := by decide +kernel
theorem dX6_init_9 : decode cX6_init 9 = .ok (.putfield 11, 3) := by decide +kernel
theorem dX6_init_12 : decode cX6_init 12 = .ok (.aload_n 0, 1) := by decide +kernel
theorem dX6_init_13 : decode cX6_init 13 = .ok (.bipush 8, 2) := by decide +kernel
theorem dX6_init_15 : decode cX6_init 15 = .ok (.newarray .int, 2) := by decide +kernel
theorem dX6_init_17 : decode cX6_init 17 = .ok (.putfield 15, 3) := by decide +kernel
theorem dX6_init_20 : decode cX6_init 20 = .ok (.aload_n 0, 1) := by decide +kernel
theorem dX6_init_21 : decode cX6_init 21 = .ok (.sipush 256, 3) := by decide +kernel
theorem dX6_init_24 : decode cX6_init 24 = .ok (.newarray .int, 2) := by decide +kernel
theorem dX6_init_26 : decode cX6_init 26 = .ok (.putfield 18, 3) := by decide +kernel
theorem dX6_init_29 : decode cX6_init 29 = .ok (.return_, 1) := by decide +kernel
theorem dX6_tell_0 : decode cX6_tell 0 = .ok (.aload_n 0, 1) := by decide +kernel
theorem dX6_tell_1 : decode cX6_tell 1 = .ok (.getfield 11, 3) := by decide +kernel
theorem dX6_tell_4 : decode cX6_tell 4 = .ok (.iload_n 1, 1) := by decide +kernel
theorem dX6_tell_5 : decode cX6_tell 5 = .ok (.iload_n 2, 1) := by decide +kernel
theorem dX6_tell_6 : decode cX6_tell 6 = .ok (.iastore, 1) := by decide +kernel
theorem dX6_tell_7 : decode cX6_tell 7 = .ok (.aload_n 0, 1) := by decide +kernel
theorem dX6_tell_8 : decode cX6_tell 8 = .ok (.getfield 15, 3) := by decide +kernel
theorem dX6_tell_11 : decode cX6_tell 11 = .ok (.iload_n 1, 1) := by decide +kernel
theorem dX6_tell_12 : decode cX6_tell 12 = .ok (.iload_n 3, 1) := by decide +kernel
theorem dX6_tell_13 : decode cX6_tell 13 = .ok (.iastore, 1) := by decide +kernel
theorem dX6_tell_14 : decode cX6_tell 14 = .ok (.return_, 1) := by decide +kernel
theorem dX6_toldSet_0 : decode cX6_toldSet 0 = .ok (.iconst 0, 1) := by decide +kernel
theorem dX6_toldSet_1 : decode cX6_toldSet 1 = .ok (.istore_n 1, 1) := by decide +kernel
theorem dX6_toldSet_2 : decode cX6_toldSet 2 = .ok (.iconst 0, 1) := by decide +kernel
theorem dX6_toldSet_3 : decode cX6_toldSet 3 = .ok (.istore_n 2, 1) := by decide +kernel
theorem dX6_toldSet_4 : decode cX6_toldSet 4 = .ok (.iload_n 2, 1) := by decide +kernel
theorem dX6_toldSet_5 : decode cX6_toldSet 5 = .ok (.bipush 8, 2) := by decide +kernel
theorem dX6_toldSet_7 : decode cX6_toldSet 7 = .ok (.if_icmp .ge 24, 3) := by decide +kernel
theorem dX6_toldSet_10 : decode cX6_toldSet 10 = .ok (.aload_n 0, 1) := by decide +kernel
theorem dX6_toldSet_11 : decode cX6_toldSet 11 = .ok (.getfield 11, 3) := by decide +kernel
theorem dX6_toldSet_14 : decode cX6_toldSet 14 = .ok (.iload_n 2, 1) := by decide +kernel
theorem dX6_toldSet_15 : decode cX6_toldSet 15 = .ok (.iaload, 1) := by decide +kernel
theorem dX6_toldSet_16 : decode cX6_toldSet 16 = .ok (.ifCond .le 9, 3) := by decide +kernel
theorem dX6_toldSet_19 : decode cX6_toldSet 19 = .ok (.iload_n 1, 1) := by decide +kernel
theorem dX6_toldSet_20 : decode cX6_toldSet 20 = .ok (.iconst 1, 1) := by decide +kernel
theorem dX6_toldSet_21 : decode cX6_toldSet 21 = .ok (.iload_n 2, 1) := by decide +kernel
theorem dX6_toldSet_22 : decode cX6_toldSet 22 = .ok (.ishl, 1) := by decide +kernel
theorem dX6_toldSet_23 : decode cX6_toldSet 23 = .ok (.ior, 1) := by decide +kernel
theorem dX6_toldSet_24 : decode cX6_toldSet 24 = .ok (.istore_n 1, 1) := by decide +kernel
theorem dX6_toldSet_25 : decode cX6_toldSet 25 = .ok (.iinc 2 1, 3) := by decide +kernel
theorem dX6_toldSet_28 : decode cX6_toldSet 28 = .ok (.goto (-24), 3) := by decide +kernel
theorem dX6_toldSet_31 : decode cX6_toldSet 31 = .ok (.iload_n 1, 1) := by decide +kernel
theorem dX6_toldSet_32 : decode cX6_toldSet 32 = .ok (.ireturn, 1) := by decide +kernel
theorem dX6_toldFlats_0 : decode cX6_toldFlats 0 = .ok (.aload_n 0, 1) := by decide +kernel
theorem dX6_toldFlats_1 : decode cX6_toldFlats 1 = .ok (.invokevirtual 21, 3) := by decide +kernel
theorem dX6_toldFlats_4 : decode cX6_toldFlats 4 = .ok (.invokestatic 25, 3) := by decide +kernel
theorem dX6_toldFlats_7 : decode cX6_toldFlats 7 = .ok (.ireturn, 1) := by decide +kernel
theorem dX6_weigh_0 : decode cX6_weigh 0 = .ok (.aload_n 0, 1) := by decide +kernel
theorem dX6_weigh_1 : decode cX6_weigh 1 = .ok (.invokevirtual 21, 3) := by decide +kernel
theorem dX6_weigh_4 : decode cX6_weigh 4 = .ok (.istore_n 1, 1) := by decide +kernel
theorem dX6_weigh_5 : decode cX6_weigh 5 = .ok (.aload_n 0, 1) := by decide +kernel
theorem dX6_weigh_6 : decode cX6_weigh 6 = .ok (.getfield 18, 3) := by decide +kernel
theorem dX6_weigh_9 : decode cX6_weigh 9 = .ok (.iconst 0, 1) := by decide +kernel
theorem dX6_weigh_10 : decode cX6_weigh 10 = .ok (.iconst 0, 1) := by decide +kernel
theorem dX6_weigh_11 : decode cX6_weigh 11 = .ok (.iastore, 1) := by decide +kernel
theorem dX6_weigh_12 : decode cX6_weigh 12 = .ok (.iconst 1, 1) := by decide +kernel
theorem dX6_weigh_13 : decode cX6_weigh 13 = .ok (.istore_n 2, 1) := by decide +kernel
theorem dX6_weigh_14 : decode cX6_weigh 14 = .ok (.iload_n 2, 1) := by decide +kernel
theorem dX6_weigh_15 : decode cX6_weigh 15 = .ok (.sipush 256, 3) := by decide +kernel
theorem dX6_weigh_18 : decode cX6_weigh 18 = .ok (.if_icmp .ge 35, 3) := by decide +kernel
theorem dX6_weigh_21 : decode cX6_weigh 21 = .ok (.iload_n 2, 1) := by decide +kernel
theorem dX6_weigh_22 : decode cX6_weigh 22 = .ok (.iload_n 1, 1) := by decide +kernel
theorem dX6_weigh_23 : decode cX6_weigh 23 = .ok (.iconst (-1), 1) := by decide +kernel
theorem dX6_weigh_24 : decode cX6_weigh 24 = .ok (.ixor, 1) := by decide +kernel
theorem dX6_weigh_25 : decode cX6_weigh 25 = .ok (.iand, 1) := by decide +kernel
theorem dX6_weigh_26 : decode cX6_weigh 26 = .ok (.ifCond .ne 21, 3) := by decide +kernel
theorem dX6_weigh_29 : decode cX6_weigh 29 = .ok (.aload_n 0, 1) := by decide +kernel
theorem dX6_weigh_30 : decode cX6_weigh 30 = .ok (.getfield 18, 3) := by decide +kernel
theorem dX6_weigh_33 : decode cX6_weigh 33 = .ok (.iload_n 2, 1) := by decide +kernel
theorem dX6_weigh_34 : decode cX6_weigh 34 = .ok (.aload_n 0, 1) := by decide +kernel
theorem dX6_weigh_35 : decode cX6_weigh 35 = .ok (.iload_n 2, 1) := by decide +kernel
theorem dX6_weigh_36 : decode cX6_weigh 36 = .ok (.aload_n 0, 1) := by decide +kernel
theorem dX6_weigh_37 : decode cX6_weigh 37 = .ok (.iload_n 2, 1) := by decide +kernel
theorem dX6_weigh_38 : decode cX6_weigh 38 = .ok (.iload_n 1, 1) := by decide +kernel
theorem dX6_weigh_39 : decode cX6_weigh 39 = .ok (.invokevirtual 31, 3) := by decide +kernel
theorem dX6_weigh_42 : decode cX6_weigh 42 = .ok (.iload_n 1, 1) := by decide +kernel
theorem dX6_weigh_43 : decode cX6_weigh 43 = .ok (.invokevirtual 35, 3) := by decide +kernel
theorem dX6_weigh_46 : decode cX6_weigh 46 = .ok (.iastore, 1) := by decide +kernel
theorem dX6_weigh_47 : decode cX6_weigh 47 = .ok (.iinc 2 1, 3) := by decide +kernel
theorem dX6_weigh_50 : decode cX6_weigh 50 = .ok (.goto (-36), 3) := by decide +kernel
theorem dX6_weigh_53 : decode cX6_weigh 53 = .ok (.return_, 1) := by decide +kernel
theorem dX6_lost_0 : decode cX6_lost 0 = .ok (.aload_n 0, 1) := by decide +kernel
theorem dX6_lost_1 : decode cX6_lost 1 = .ok (.getfield 18, 3) := by decide +kernel
theorem dX6_lost_4 : decode cX6_lost 4 = .ok (.aload_n 0, 1) := by decide +kernel
theorem dX6_lost_5 : decode cX6_lost 5 = .ok (.invokevirtual 21, 3) := by decide +kernel
theorem dX6_lost_8 : decode cX6_lost 8 = .ok (.iaload, 1) := by decide +kernel
theorem dX6_lost_9 : decode cX6_lost 9 = .ok (.ireturn, 1) := by decide +kernel
theorem dX6_flatAt_0 : decode cX6_flatAt 0 = .ok (.aload_n 0, 1) := by decide +kernel
theorem dX6_flatAt_1 : decode cX6_flatAt 1 = .ok (.invokevirtual 21, 3) := by decide +kernel
theorem dX6_flatAt_4 : decode cX6_flatAt 4 = .ok (.istore_n 2, 1) := by decide +kernel
theorem dX6_flatAt_5 : decode cX6_flatAt 5 = .ok (.iload_n 2, 1) := by decide +kernel
theorem dX6_flatAt_6 : decode cX6_flatAt 6 = .ok (.istore_n 3, 1) := by decide +kernel
theorem dX6_flatAt_7 : decode cX6_flatAt 7 = .ok (.iconst 0, 1) := by decide +kernel
theorem dX6_flatAt_8 : decode cX6_flatAt 8 = .ok (.istore 4, 2) := by decide +kernel
theorem dX6_flatAt_10 : decode cX6_flatAt 10 = .ok (.iload 4, 2) := by decide +kernel
theorem dX6_flatAt_12 : decode cX6_flatAt 12 = .ok (.bipush 8, 2) := by decide +kernel
theorem dX6_flatAt_14 : decode cX6_flatAt 14 = .ok (.if_icmp .ge 39, 3) := by decide +kernel
theorem dX6_flatAt_17 : decode cX6_flatAt 17 = .ok (.iload_n 3, 1) := by decide +kernel
theorem dX6_flatAt_18 : decode cX6_flatAt 18 = .ok (.ifCond .eq 35, 3) := by decide +kernel
theorem dX6_flatAt_21 : decode cX6_flatAt 21 = .ok (.aload_n 0, 1) := by decide +kernel
theorem dX6_flatAt_22 : decode cX6_flatAt 22 = .ok (.iload_n 3, 1) := by decide +kernel
theorem dX6_flatAt_23 : decode cX6_flatAt 23 = .ok (.iload_n 2, 1) := by decide +kernel
theorem dX6_flatAt_24 : decode cX6_flatAt 24 = .ok (.invokevirtual 31, 3) := by decide +kernel
theorem dX6_flatAt_27 : decode cX6_flatAt 27 = .ok (.istore 5, 2) := by decide +kernel
theorem dX6_flatAt_29 : decode cX6_flatAt 29 = .ok (.iload 4, 2) := by decide +kernel
theorem dX6_flatAt_31 : decode cX6_flatAt 31 = .ok (.iload_n 1, 1) := by decide +kernel
theorem dX6_flatAt_32 : decode cX6_flatAt 32 = .ok (.if_icmp .ne 6, 3) := by decide +kernel
theorem dX6_flatAt_35 : decode cX6_flatAt 35 = .ok (.iload 5, 2) := by decide +kernel
theorem dX6_flatAt_37 : decode cX6_flatAt 37 = .ok (.ireturn, 1) := by decide +kernel
theorem dX6_flatAt_38 : decode cX6_flatAt 38 = .ok (.iload_n 3, 1) := by decide +kernel
theorem dX6_flatAt_39 : decode cX6_flatAt 39 = .ok (.iconst 1, 1) := by decide +kernel
theorem dX6_flatAt_40 : decode cX6_flatAt 40 = .ok (.iload 5, 2) := by decide +kernel
theorem dX6_flatAt_42 : decode cX6_flatAt 42 = .ok (.ishl, 1) := by decide +kernel
theorem dX6_flatAt_43 : decode cX6_flatAt 43 = .ok (.iconst (-1), 1) := by decide +kernel
theorem dX6_flatAt_44 : decode cX6_flatAt 44 = .ok (.ixor, 1) := by decide +kernel
theorem dX6_flatAt_45 : decode cX6_flatAt 45 = .ok (.iand, 1) := by decide +kernel
theorem dX6_flatAt_46 : decode cX6_flatAt 46 = .ok (.istore_n 3, 1) := by decide +kernel
theorem dX6_flatAt_47 : decode cX6_flatAt 47 = .ok (.iinc 4 1, 3) := by decide +kernel
theorem dX6_flatAt_50 : decode cX6_flatAt 50 = .ok (.goto (-40), 3) := by decide +kernel
theorem dX6_flatAt_53 : decode cX6_flatAt 53 = .ok (.iconst (-1), 1) := by decide +kernel
theorem dX6_flatAt_54 : decode cX6_flatAt 54 = .ok (.ireturn, 1) := by decide +kernel
theorem dX6_firstOf_0 : decode cX6_firstOf 0 = .ok (.iconst (-1), 1) := by decide +kernel
theorem dX6_firstOf_1 : decode cX6_firstOf 1 = .ok (.istore_n 3, 1) := by decide +kernel
theorem dX6_firstOf_2 : decode cX6_firstOf 2 = .ok (.iconst 0, 1) := by decide +kernel
theorem dX6_firstOf_3 : decode cX6_firstOf 3 = .ok (.istore 4, 2) := by decide +kernel
theorem dX6_firstOf_5 : decode cX6_firstOf 5 = .ok (.iload 4, 2) := by decide +kernel
theorem dX6_firstOf_7 : decode cX6_firstOf 7 = .ok (.bipush 8, 2) := by decide +kernel
theorem dX6_firstOf_9 : decode cX6_firstOf 9 = .ok (.if_icmp .ge 44, 3) := by decide +kernel
theorem dX6_firstOf_12 : decode cX6_firstOf 12 = .ok (.iload_n 1, 1) := by decide +kernel
theorem dX6_firstOf_13 : decode cX6_firstOf 13 = .ok (.iload 4, 2) := by decide +kernel
theorem dX6_firstOf_15 : decode cX6_firstOf 15 = .ok (.invokestatic 39, 3) := by decide +kernel
theorem dX6_firstOf_18 : decode cX6_firstOf 18 = .ok (.ifCond .eq 29, 3) := by decide +kernel
theorem dX6_firstOf_21 : decode cX6_firstOf 21 = .ok (.iload_n 3, 1) := by decide +kernel
theorem dX6_firstOf_22 : decode cX6_firstOf 22 = .ok (.iconst (-1), 1) := by decide +kernel
theorem dX6_firstOf_23 : decode cX6_firstOf 23 = .ok (.if_icmp .eq 21, 3) := by decide +kernel
theorem dX6_firstOf_26 : decode cX6_firstOf 26 = .ok (.aload_n 0, 1) := by decide +kernel
theorem dX6_firstOf_27 : decode cX6_firstOf 27 = .ok (.iload_n 1, 1) := by decide +kernel
theorem dX6_firstOf_28 : decode cX6_firstOf 28 = .ok (.iload 4, 2) := by decide +kernel
theorem dX6_firstOf_30 : decode cX6_firstOf 30 = .ok (.iload_n 2, 1) := by decide +kernel
theorem dX6_firstOf_31 : decode cX6_firstOf 31 = .ok (.invokevirtual 35, 3) := by decide +kernel
theorem dX6_firstOf_34 : decode cX6_firstOf 34 = .ok (.aload_n 0, 1) := by decide +kernel
theorem dX6_firstOf_35 : decode cX6_firstOf 35 = .ok (.iload_n 1, 1) := by decide +kernel
theorem dX6_firstOf_36 : decode cX6_firstOf 36 = .ok (.iload_n 3, 1) := by decide +kernel
theorem dX6_firstOf_37 : decode cX6_firstOf 37 = .ok (.iload_n 2, 1) := by decide +kernel
theorem dX6_firstOf_38 : decode cX6_firstOf 38 = .ok (.invokevirtual 35, 3) := by decide +kernel
theorem dX6_firstOf_41 : decode cX6_firstOf 41 = .ok (.if_icmp .ge 6, 3) := by decide +kernel
theorem dX6_firstOf_44 : decode cX6_firstOf 44 = .ok (.iload 4, 2) := by decide +kernel
theorem dX6_firstOf_46 : decode cX6_firstOf 46 = .ok (.istore_n 3, 1) := by decide +kernel
theorem dX6_firstOf_47 : decode cX6_firstOf 47 = .ok (.iinc 4 1, 3) := by decide +kernel
theorem dX6_firstOf_50 : decode cX6_firstOf 50 = .ok (.goto (-45), 3) := by decide +kernel
theorem dX6_firstOf_53 : decode cX6_firstOf 53 = .ok (.iload_n 3, 1) := by decide +kernel
theorem dX6_firstOf_54 : decode cX6_firstOf 54 = .ok (.ireturn, 1) := by decide +kernel
theorem dX6_lostBy_0 : decode cX6_lostBy 0 = .ok (.iload_n 3, 1) := by decide +kernel
theorem dX6_lostBy_1 : decode cX6_lostBy 1 = .ok (.invokestatic 25, 3) := by decide +kernel
theorem dX6_lostBy_4 : decode cX6_lostBy 4 = .ok (.iload_n 1, 1) := by decide +kernel
theorem dX6_lostBy_5 : decode cX6_lostBy 5 = .ok (.invokestatic 25, 3) := by decide +kernel
theorem dX6_lostBy_8 : decode cX6_lostBy 8 = .ok (.isub, 1) := by decide +kernel
theorem dX6_lostBy_9 : decode cX6_lostBy 9 = .ok (.iconst 1, 1) := by decide +kernel
theorem dX6_lostBy_10 : decode cX6_lostBy 10 = .ok (.iadd, 1) := by decide +kernel
theorem dX6_lostBy_11 : decode cX6_lostBy 11 = .ok (.istore 4, 2) := by decide +kernel
theorem dX6_lostBy_13 : decode cX6_lostBy 13 = .ok (.iload 4, 2) := by decide +kernel
theorem dX6_lostBy_15 : decode cX6_lostBy 15 = .ok (.aload_n 0, 1) := by decide +kernel
theorem dX6_lostBy_16 : decode cX6_lostBy 16 = .ok (.getfield 15, 3) := by decide +kernel
theorem dX6_lostBy_19 : decode cX6_lostBy 19 = .ok (.iload_n 2, 1) := by decide +kernel
theorem dX6_lostBy_20 : decode cX6_lostBy 20 = .ok (.iaload, 1) := by decide +kernel
theorem dX6_lostBy_21 : decode cX6_lostBy 21 = .ok (.if_icmp .le 11, 3) := by decide +kernel
theorem dX6_lostBy_24 : decode cX6_lostBy 24 = .ok (.iload 4, 2) := by decide +kernel
theorem dX6_lostBy_26 : decode cX6_lostBy 26 = .ok (.bipush 10, 2) := by decide +kernel
theorem dX6_lostBy_28 : decode cX6_lostBy 28 = .ok (.iadd, 1) := by decide +kernel
theorem dX6_lostBy_29 : decode cX6_lostBy 29 = .ok (.goto 5, 3) := by decide +kernel
theorem dX6_lostBy_32 : decode cX6_lostBy 32 = .ok (.iload 4, 2) := by decide +kernel
theorem dX6_lostBy_34 : decode cX6_lostBy 34 = .ok (.istore 5, 2) := by decide +kernel
theorem dX6_lostBy_36 : decode cX6_lostBy 36 = .ok (.aload_n 0, 1) := by decide +kernel
theorem dX6_lostBy_37 : decode cX6_lostBy 37 = .ok (.getfield 11, 3) := by decide +kernel
theorem dX6_lostBy_40 : decode cX6_lostBy 40 = .ok (.iload_n 2, 1) := by decide +kernel
theorem dX6_lostBy_41 : decode cX6_lostBy 41 = .ok (.iaload, 1) := by decide +kernel
theorem dX6_lostBy_42 : decode cX6_lostBy 42 = .ok (.iload 5, 2) := by decide +kernel
theorem dX6_lostBy_44 : decode cX6_lostBy 44 = .ok (.imul, 1) := by decide +kernel
theorem dX6_lostBy_45 : decode cX6_lostBy 45 = .ok (.aload_n 0, 1) := by decide +kernel
theorem dX6_lostBy_46 : decode cX6_lostBy 46 = .ok (.getfield 18, 3) := by decide +kernel
theorem dX6_lostBy_49 : decode cX6_lostBy 49 = .ok (.iload_n 1, 1) := by decide +kernel
theorem dX6_lostBy_50 : decode cX6_lostBy 50 = .ok (.iconst 1, 1) := by decide +kernel
theorem dX6_lostBy_51 : decode cX6_lostBy 51 = .ok (.iload_n 2, 1) := by decide +kernel
theorem dX6_lostBy_52 : decode cX6_lostBy 52 = .ok (.ishl, 1) := by decide +kernel
theorem dX6_lostBy_53 : decode cX6_lostBy 53 = .ok (.iconst (-1), 1) := by decide +kernel
theorem dX6_lostBy_54 : decode cX6_lostBy 54 = .ok (.ixor, 1) := by decide +kernel
theorem dX6_lostBy_55 : decode cX6_lostBy 55 = .ok (.iand, 1) := by decide +kernel
theorem dX6_lostBy_56 : decode cX6_lostBy 56 = .ok (.iaload, 1) := by decide +kernel
theorem dX6_lostBy_57 : decode cX6_lostBy 57 = .ok (.iadd, 1) := by decide +kernel
theorem dX6_lostBy_58 : decode cX6_lostBy 58 = .ok (.ireturn, 1) := by decide +kernel
theorem dX7_init_0 : decode cX7_init 0 = .ok (.aload_n 0, 1) := by decide +kernel
theorem dX7_init_1 : decode cX7_init 1 = .ok (.invokespecial 3, 3) := by decide +kernel
theorem dX7_init_4 : decode cX7_init 4 = .ok (.aload_n 0, 1) := by decide +kernel
theorem dX7_init_5 : decode cX7_init 5 = .ok (.iconst 0, 1) := by decide +kernel
theorem dX7_init_6 : decode cX7_init 6 = .ok (.putfield 9, 3) := by decide +kernel
theorem dX7_init_9 : decode cX7_init 9 = .ok (.return_, 1) := by decide +kernel
theorem dX7_look_0 : decode cX7_look 0 = .ok (.aload_n 0, 1) := by decide +kernel
theorem dX7_look_1 : decode cX7_look 1 = .ok (.iload_n 1, 1) := by decide +kernel
theorem dX7_look_2 : decode cX7_look 2 = .ok (.putfield 9, 3) := by decide +kernel
theorem dX7_look_5 : decode cX7_look 5 = .ok (.aload_n 0, 1) := by decide +kernel
theorem dX7_look_6 : decode cX7_look 6 = .ok (.iload_n 2, 1) := by decide +kernel
theorem dX7_look_7 : decode cX7_look 7 = .ok (.putfield 15, 3) := by decide +kernel
theorem dX7_look_10 : decode cX7_look 10 = .ok (.aload_n 0, 1) := by decide +kernel
theorem dX7_look_11 : decode cX7_look 11 = .ok (.iload_n 3, 1) := by decide +kernel
theorem dX7_look_12 : decode cX7_look 12 = .ok (.putfield 18, 3) := by decide +kernel
theorem dX7_look_15 : decode cX7_look 15 = .ok (.aload_n 0, 1) := by decide +kernel
theorem dX7_look_16 : decode cX7_look 16 = .ok (.iload 4, 2) := by decide +kernel
theorem dX7_look_18 : decode cX7_look 18 = .ok (.putfield 21, 3) := by decide +kernel
theorem dX7_look_21 : decode cX7_look 21 = .ok (.aload_n 0, 1) := by decide +kernel
theorem dX7_look_22 : decode cX7_look 22 = .ok (.iconst 0, 1) := by decide +kernel
theorem dX7_look_23 : decode cX7_look 23 = .ok (.putfield 24, 3) := by decide +kernel
theorem dX7_look_26 : decode cX7_look 26 = .ok (.aload_n 0, 1) := by decide +kernel
theorem dX7_look_27 : decode cX7_look 27 = .ok (.iconst (-1), 1) := by decide +kernel
theorem dX7_look_28 : decode cX7_look 28 = .ok (.putfield 27, 3) := by decide +kernel
theorem dX7_look_31 : decode cX7_look 31 = .ok (.iconst 0, 1) := by decide +kernel
theorem dX7_look_32 : decode cX7_look 32 = .ok (.istore 5, 2) := by decide +kernel
theorem dX7_look_34 : decode cX7_look 34 = .ok (.iload 5, 2) := by decide +kernel
theorem dX7_look_36 : decode cX7_look 36 = .ok (.iconst 1, 1) := by decide +kernel
theorem dX7_look_37 : decode cX7_look 37 = .ok (.aload_n 0, 1) := by decide +kernel
theorem dX7_look_38 : decode cX7_look 38 = .ok (.getfield 9, 3) := by decide +kernel
theorem dX7_look_41 : decode cX7_look 41 = .ok (.ishl, 1) := by decide +kernel
theorem dX7_look_42 : decode cX7_look 42 = .ok (.if_icmp .ge 54, 3) := by decide +kernel
theorem dX7_look_45 : decode cX7_look 45 = .ok (.aload_n 0, 1) := by decide +kernel
theorem dX7_look_46 : decode cX7_look 46 = .ok (.iload 5, 2) := by decide +kernel
theorem dX7_look_48 : decode cX7_look 48 = .ok (.invokevirtual 30, 3) := by decide +kernel
theorem dX7_look_51 : decode cX7_look 51 = .ok (.istore 6, 2) := by decide +kernel
theorem dX7_look_53 : decode cX7_look 53 = .ok (.iload 5, 2) := by decide +kernel
theorem dX7_look_55 : decode cX7_look 55 = .ok (.ifCond .eq 12, 3) := by decide +kernel
theorem dX7_look_58 : decode cX7_look 58 = .ok (.iload 6, 2) := by decide +kernel
theorem dX7_look_60 : decode cX7_look 60 = .ok (.aload_n 0, 1) := by decide +kernel
theorem dX7_look_61 : decode cX7_look 61 = .ok (.getfield 34, 3) := by decide +kernel
theorem dX7_look_64 : decode cX7_look 64 = .ok (.if_icmp .le 9, 3) := by decide +kernel
theorem dX7_look_67 : decode cX7_look 67 = .ok (.aload_n 0, 1) := by decide +kernel
theorem dX7_look_68 : decode cX7_look 68 = .ok (.iload 6, 2) := by decide +kernel
theorem dX7_look_70 : decode cX7_look 70 = .ok (.putfield 34, 3) := by decide +kernel
theorem dX7_look_73 : decode cX7_look 73 = .ok (.aload_n 0, 1) := by decide +kernel
theorem dX7_look_74 : decode cX7_look 74 = .ok (.iload 5, 2) := by decide +kernel
theorem dX7_look_76 : decode cX7_look 76 = .ok (.invokevirtual 37, 3) := by decide +kernel
theorem dX7_look_79 : decode cX7_look 79 = .ok (.ifCond .eq 11, 3) := by decide +kernel
theorem dX7_look_82 : decode cX7_look 82 = .ok (.aload_n 0, 1) := by decide +kernel
theorem dX7_look_83 : decode cX7_look 83 = .ok (.iload 5, 2) := by decide +kernel
theorem dX7_look_85 : decode cX7_look 85 = .ok (.iload 6, 2) := by decide +kernel
theorem dX7_look_87 : decode cX7_look 87 = .ok (.invokevirtual 41, 3) := by decide +kernel
theorem dX7_look_90 : decode cX7_look 90 = .ok (.iinc 5 1, 3) := by decide +kernel
theorem dX7_look_93 : decode cX7_look 93 = .ok (.goto (-59), 3) := by decide +kernel
theorem dX7_look_96 : decode cX7_look 96 = .ok (.return_, 1) := by decide +kernel
theorem dX7_keepRest_0 : decode cX7_keepRest 0 = .ok (.aload_n 0, 1) := by decide +kernel
theorem dX7_keepRest_1 : decode cX7_keepRest 1 = .ok (.getfield 24, 3) := by decide +kernel
theorem dX7_keepRest_4 : decode cX7_keepRest 4 = .ok (.ifCond .eq 11, 3) := by decide +kernel
theorem dX7_keepRest_7 : decode cX7_keepRest 7 = .ok (.iload_n 2, 1) := by decide +kernel
theorem dX7_keepRest_8 : decode cX7_keepRest 8 = .ok (.aload_n 0, 1) := by decide +kernel
theorem dX7_keepRest_9 : decode cX7_keepRest 9 = .ok (.getfield 45, 3) := by decide +kernel
theorem dX7_keepRest_12 : decode cX7_keepRest 12 = .ok (.if_icmp .le 13, 3) := by decide +kernel
theorem dX7_keepRest_15 : decode cX7_keepRest 15 = .ok (.aload_n 0, 1) := by decide +kernel
theorem dX7_keepRest_16 : decode cX7_keepRest 16 = .ok (.iload_n 1, 1) := by decide +kernel
theorem dX7_keepRest_17 : decode cX7_keepRest 17 = .ok (.putfield 27, 3) := by decide +kernel
theorem dX7_keepRest_20 : decode cX7_keepRest 20 = .ok (.aload_n 0, 1) := by decide +kernel
theorem dX7_keepRest_21 : decode cX7_keepRest 21 = .ok (.iload_n 2, 1) := by decide +kernel
theorem dX7_keepRest_22 : decode cX7_keepRest 22 = .ok (.putfield 45, 3) := by decide +kernel
theorem dX7_keepRest_25 : decode cX7_keepRest 25 = .ok (.aload_n 0, 1) := by decide +kernel
theorem dX7_keepRest_26 : decode cX7_keepRest 26 = .ok (.dup, 1) := by decide +kernel
theorem dX7_keepRest_27 : decode cX7_keepRest 27 = .ok (.getfield 24, 3) := by decide +kernel
theorem dX7_keepRest_30 : decode cX7_keepRest 30 = .ok (.iconst 1, 1) := by decide +kernel
theorem dX7_keepRest_31 : decode cX7_keepRest 31 = .ok (.iadd, 1) := by decide +kernel
theorem dX7_keepRest_32 : decode cX7_keepRest 32 = .ok (.putfield 24, 3) := by decide +kernel
theorem dX7_keepRest_35 : decode cX7_keepRest 35 = .ok (.return_, 1) := by decide +kernel
theorem dX7_allHave_0 : decode cX7_allHave 0 = .ok (.iconst 0, 1) := by decide +kernel
theorem dX7_allHave_1 : decode cX7_allHave 1 = .ok (.istore_n 2, 1) := by decide +kernel
theorem dX7_allHave_2 : decode cX7_allHave 2 = .ok (.iconst 0, 1) := by decide +kernel
theorem dX7_allHave_3 : decode cX7_allHave 3 = .ok (.istore_n 3, 1) := by decide +kernel
theorem dX7_allHave_4 : decode cX7_allHave 4 = .ok (.iload_n 3, 1) := by decide +kernel
theorem dX7_allHave_5 : decode cX7_allHave 5 = .ok (.aload_n 0, 1) := by decide +kernel
theorem dX7_allHave_6 : decode cX7_allHave 6 = .ok (.getfield 9, 3) := by decide +kernel
theorem dX7_allHave_9 : decode cX7_allHave 9 = .ok (.if_icmp .ge 23, 3) := by decide +kernel
theorem dX7_allHave_12 : decode cX7_allHave 12 = .ok (.iload_n 2, 1) := by decide +kernel
theorem dX7_allHave_13 : decode cX7_allHave 13 = .ok (.aload_n 0, 1) := by decide +kernel
theorem dX7_allHave_14 : decode cX7_allHave 14 = .ok (.iload_n 3, 1) := by decide +kernel
theorem dX7_allHave_15 : decode cX7_allHave 15 = .ok (.iload_n 1, 1) := by decide +kernel
theorem dX7_allHave_16 : decode cX7_allHave 16 = .ok (.iload_n 3, 1) := by decide +kernel
theorem dX7_allHave_17 : decode cX7_allHave 17 = .ok (.invokestatic 48, 3) := by decide +kernel
theorem dX7_allHave_20 : decode cX7_allHave 20 = .ok (.iload_n 1, 1) := by decide +kernel
theorem dX7_allHave_21 : decode cX7_allHave 21 = .ok (.invokevirtual 52, 3) := by decide +kernel
theorem dX7_allHave_24 : decode cX7_allHave 24 = .ok (.iadd, 1) := by decide +kernel
theorem dX7_allHave_25 : decode cX7_allHave 25 = .ok (.istore_n 2, 1) := by decide +kernel
theorem dX7_allHave_26 : decode cX7_allHave 26 = .ok (.iinc 3 1, 3) := by decide +kernel
theorem dX7_allHave_29 : decode cX7_allHave 29 = .ok (.goto (-25), 3) := by decide +kernel
theorem dX7_allHave_32 : decode cX7_allHave 32 = .ok (.iload_n 2, 1) := by decide +kernel
theorem dX7_allHave_33 : decode cX7_allHave 33 = .ok (.ireturn, 1) := by decide +kernel
theorem dX7_isRest_0 : decode cX7_isRest 0 = .ok (.iconst 0, 1) := by decide +kernel
theorem dX7_isRest_1 : decode cX7_isRest 1 = .ok (.istore_n 2, 1) := by decide +kernel
theorem dX7_isRest_2 : decode cX7_isRest 2 = .ok (.iload_n 2, 1) := by decide +kernel
theorem dX7_isRest_3 : decode cX7_isRest 3 = .ok (.aload_n 0, 1) := by decide +kernel
theorem dX7_isRest_4 : decode cX7_isRest 4 = .ok (.getfield 9, 3) := by decide +kernel
theorem dX7_isRest_7 : decode cX7_isRest 7 = .ok (.if_icmp .ge 43, 3) := by decide +kernel
theorem dX7_isRest_10 : decode cX7_isRest 10 = .ok (.aload_n 0, 1) := by decide +kernel
theorem dX7_isRest_11 : decode cX7_isRest 11 = .ok (.iload_n 2, 1) := by decide +kernel
theorem dX7_isRest_12 : decode cX7_isRest 12 = .ok (.iconst 1, 1) := by decide +kernel
theorem dX7_isRest_13 : decode cX7_isRest 13 = .ok (.iload_n 1, 1) := by decide +kernel
theorem dX7_isRest_14 : decode cX7_isRest 14 = .ok (.invokevirtual 52, 3) := by decide +kernel
theorem dX7_isRest_17 : decode cX7_isRest 17 = .ok (.aload_n 0, 1) := by decide +kernel
theorem dX7_isRest_18 : decode cX7_isRest 18 = .ok (.iload_n 2, 1) := by decide +kernel
theorem dX7_isRest_19 : decode cX7_isRest 19 = .ok (.iconst 0, 1) := by decide +kernel
theorem dX7_isRest_20 : decode cX7_isRest 20 = .ok (.iload_n 1, 1) := by decide +kernel
theorem dX7_isRest_21 : decode cX7_isRest 21 = .ok (.invokevirtual 52, 3) := by decide +kernel
theorem dX7_isRest_24 : decode cX7_isRest 24 = .ok (.if_icmp .le 7, 3) := by decide +kernel
theorem dX7_isRest_27 : decode cX7_isRest 27 = .ok (.iconst 1, 1) := by decide +kernel
theorem dX7_isRest_28 : decode cX7_isRest 28 = .ok (.goto 4, 3) := by decide +kernel
theorem dX7_isRest_31 : decode cX7_isRest 31 = .ok (.iconst 0, 1) := by decide +kernel
theorem dX7_isRest_32 : decode cX7_isRest 32 = .ok (.istore_n 3, 1) := by decide +kernel
theorem dX7_isRest_33 : decode cX7_isRest 33 = .ok (.iload_n 3, 1) := by decide +kernel
theorem dX7_isRest_34 : decode cX7_isRest 34 = .ok (.iload_n 1, 1) := by decide +kernel
theorem dX7_isRest_35 : decode cX7_isRest 35 = .ok (.iload_n 2, 1) := by decide +kernel
theorem dX7_isRest_36 : decode cX7_isRest 36 = .ok (.invokestatic 48, 3) := by decide +kernel
theorem dX7_isRest_39 : decode cX7_isRest 39 = .ok (.if_icmp .eq 5, 3) := by decide +kernel
theorem dX7_isRest_42 : decode cX7_isRest 42 = .ok (.iconst 0, 1) := by decide +kernel
theorem dX7_isRest_43 : decode cX7_isRest 43 = .ok (.ireturn, 1) := by decide +kernel
theorem dX7_isRest_44 : decode cX7_isRest 44 = .ok (.iinc 2 1, 3) := by decide +kernel
theorem dX7_isRest_47 : decode cX7_isRest 47 = .ok (.goto (-45), 3) := by decide +kernel
theorem dX7_isRest_50 : decode cX7_isRest 50 = .ok (.iconst 1, 1) := by decide +kernel
theorem dX7_isRest_51 : decode cX7_isRest 51 = .ok (.ireturn, 1) := by decide +kernel
theorem dX7_has_0 : decode cX7_has 0 = .ok (.iconst 0, 1) := by decide +kernel
theorem dX7_has_1 : decode cX7_has 1 = .ok (.istore 4, 2) := by decide +kernel
theorem dX7_has_3 : decode cX7_has 3 = .ok (.iload_n 1, 1) := by decide +kernel
theorem dX7_has_4 : decode cX7_has 4 = .ok (.ifCond .le 16, 3) := by decide +kernel
theorem dX7_has_7 : decode cX7_has 7 = .ok (.iload_n 3, 1) := by decide +kernel
theorem dX7_has_8 : decode cX7_has 8 = .ok (.iload_n 1, 1) := by decide +kernel
theorem dX7_has_9 : decode cX7_has 9 = .ok (.iconst 1, 1) := by decide +kernel
theorem dX7_has_10 : decode cX7_has 10 = .ok (.isub, 1) := by decide +kernel
theorem dX7_has_11 : decode cX7_has 11 = .ok (.invokestatic 48, 3) := by decide +kernel
theorem dX7_has_14 : decode cX7_has 14 = .ok (.ifCond .eq 6, 3) := by decide +kernel
theorem dX7_has_17 : decode cX7_has 17 = .ok (.iinc 4 1, 3) := by decide +kernel
theorem dX7_has_20 : decode cX7_has 20 = .ok (.iload_n 1, 1) := by decide +kernel
theorem dX7_has_21 : decode cX7_has 21 = .ok (.iconst 1, 1) := by decide +kernel
theorem dX7_has_22 : decode cX7_has 22 = .ok (.iadd, 1) := by decide +kernel
theorem dX7_has_23 : decode cX7_has 23 = .ok (.aload_n 0, 1) := by decide +kernel
theorem dX7_has_24 : decode cX7_has 24 = .ok (.getfield 9, 3) := by decide +kernel
theorem dX7_has_27 : decode cX7_has 27 = .ok (.if_icmp .ge 16, 3) := by decide +kernel
theorem dX7_has_30 : decode cX7_has 30 = .ok (.iload_n 3, 1) := by decide +kernel
theorem dX7_has_31 : decode cX7_has 31 = .ok (.iload_n 1, 1) := by decide +kernel
theorem dX7_has_32 : decode cX7_has 32 = .ok (.iconst 1, 1) := by decide +kernel
theorem dX7_has_33 : decode cX7_has 33 = .ok (.iadd, 1) := by decide +kernel
theorem dX7_has_34 : decode cX7_has 34 = .ok (.invokestatic 48, 3) := by decide +kernel
theorem dX7_has_37 : decode cX7_has 37 = .ok (.ifCond .eq 6, 3) := by decide +kernel
theorem dX7_has_40 : decode cX7_has 40 = .ok (.iinc 4 1, 3) := by decide +kernel
theorem dX7_has_43 : decode cX7_has 43 = .ok (.iload_n 2, 1) := by decide +kernel
theorem dX7_has_44 : decode cX7_has 44 = .ok (.ifCond .eq 23, 3) := by decide +kernel
theorem dX7_has_47 : decode cX7_has 47 = .ok (.aload_n 0, 1) := by decide +kernel
theorem dX7_has_48 : decode cX7_has 48 = .ok (.getfield 15, 3) := by decide +kernel
theorem dX7_has_51 : decode cX7_has 51 = .ok (.aload_n 0, 1) := by decide +kernel
theorem dX7_has_52 : decode cX7_has 52 = .ok (.getfield 21, 3) := by decide +kernel
theorem dX7_has_55 : decode cX7_has 55 = .ok (.isub, 1) := by decide +kernel
theorem dX7_has_56 : decode cX7_has 56 = .ok (.iload 4, 2) := by decide +kernel
theorem dX7_has_58 : decode cX7_has 58 = .ok (.aload_n 0, 1) := by decide +kernel
theorem dX7_has_59 : decode cX7_has 59 = .ok (.getfield 18, 3) := by decide +kernel
theorem dX7_has_62 : decode cX7_has 62 = .ok (.imul, 1) := by decide +kernel
theorem dX7_has_63 : decode cX7_has 63 = .ok (.isub, 1) := by decide +kernel
theorem dX7_has_64 : decode cX7_has 64 = .ok (.goto 13, 3) := by decide +kernel
theorem dX7_has_67 : decode cX7_has 67 = .ok (.bipush (-2), 2) := by decide +kernel
theorem dX7_has_69 : decode cX7_has 69 = .ok (.iload 4, 2) := by decide +kernel
theorem dX7_has_71 : decode cX7_has 71 = .ok (.imul, 1) := by decide +kernel
theorem dX7_has_72 : decode cX7_has 72 = .ok (.aload_n 0, 1) := by decide +kernel
theorem dX7_has_73 : decode cX7_has 73 = .ok (.getfield 18, 3) := by decide +kernel
theorem dX7_has_76 : decode cX7_has 76 = .ok (.imul, 1) := by decide +kernel
theorem dX7_has_77 : decode cX7_has 77 = .ok (.ireturn, 1) := by decide +kernel
theorem dX7_rests_0 : decode cX7_rests 0 = .ok (.aload_n 0, 1) := by decide +kernel
theorem dX7_rests_1 : decode cX7_rests 1 = .ok (.getfield 24, 3) := by decide +kernel
theorem dX7_rests_4 : decode cX7_rests 4 = .ok (.ireturn, 1) := by decide +kernel
theorem dX7_bestRest_0 : decode cX7_bestRest 0 = .ok (.aload_n 0, 1) := by decide +kernel
theorem dX7_bestRest_1 : decode cX7_bestRest 1 = .ok (.getfield 27, 3) := by decide +kernel
theorem dX7_bestRest_4 : decode cX7_bestRest 4 = .ok (.ireturn, 1) := by decide +kernel
theorem dX7_mostByRest_0 : decode cX7_mostByRest 0 = .ok (.aload_n 0, 1) := by decide +kernel
theorem dX7_mostByRest_1 : decode cX7_mostByRest 1 = .ok (.getfield 45, 3) := by decide +kernel
theorem dX7_mostByRest_4 : decode cX7_mostByRest 4 = .ok (.ireturn, 1) := by decide +kernel
theorem dX7_mostByAny_0 : decode cX7_mostByAny 0 = .ok (.aload_n 0, 1) := by decide +kernel
theorem dX7_mostByAny_1 : decode cX7_mostByAny 1 = .ok (.getfield 34, 3) := by decide +kernel
theorem dX7_mostByAny_4 : decode cX7_mostByAny 4 = .ok (.ireturn, 1) := by decide +kernel
theorem dX8_init_0 : decode cX8_init 0 = .ok (.aload_n 0, 1) := by decide +kernel
theorem dX8_init_1 : decode cX8_init 1 = .ok (.invokespecial 3, 3) := by decide +kernel
theorem dX8_init_4 : decode cX8_init 4 = .ok (.aload_n 0, 1) := by decide +kernel
theorem dX8_init_5 : decode cX8_init 5 = .ok (.sipush 200, 3) := by decide +kernel
theorem dX8_init_8 : decode cX8_init 8 = .ok (.newarray .int, 2) := by decide +kernel
theorem dX8_init_10 : decode cX8_init 10 = .ok (.putfield 11, 3) := by decide +kernel
theorem dX8_init_13 : decode cX8_init 13 = .ok (.aload_n 0, 1) := by decide +kernel
theorem dX8_init_14 : decode cX8_init 14 = .ok (.iconst 0, 1) := by decide +kernel
theorem dX8_init_15 : decode cX8_init 15 = .ok (.putfield 15, 3) := by decide +kernel
theorem dX8_init_18 : decode cX8_init 18 = .ok (.return_, 1) := by decide +kernel
theorem dX8_length_0 : decode cX8_length 0 = .ok (.aload_n 0, 1) := by decide +kernel
theorem dX8_length_1 : decode cX8_length 1 = .ok (.getfield 15, 3) := by decide +kernel
theorem dX8_length_4 : decode cX8_length 4 = .ok (.ireturn, 1) := by decide +kernel
theorem dX8_hasSpaceFor_0 : decode cX8_hasSpaceFor 0 = .ok (.aload_n 0, 1) := by decide +kernel
theorem dX8_hasSpaceFor_1 : decode cX8_hasSpaceFor 1 = .ok (.getfield 15, 3) := by decide +kernel
theorem dX8_hasSpaceFor_4 : decode cX8_hasSpaceFor 4 = .ok (.iload_n 1, 1) := by decide +kernel
theorem dX8_hasSpaceFor_5 : decode cX8_hasSpaceFor 5 = .ok (.iadd, 1) := by decide +kernel
theorem dX8_hasSpaceFor_6 : decode cX8_hasSpaceFor 6 = .ok (.sipush 200, 3) := by decide +kernel
theorem dX8_hasSpaceFor_9 : decode cX8_hasSpaceFor 9 = .ok (.if_icmp .gt 7, 3) := by decide +kernel
theorem dX8_hasSpaceFor_12 : decode cX8_hasSpaceFor 12 = .ok (.iconst 1, 1) := by decide +kernel
theorem dX8_hasSpaceFor_13 : decode cX8_hasSpaceFor 13 = .ok (.goto 4, 3) := by decide +kernel
theorem dX8_hasSpaceFor_16 : decode cX8_hasSpaceFor 16 = .ok (.iconst 0, 1) := by decide +kernel
theorem dX8_hasSpaceFor_17 : decode cX8_hasSpaceFor 17 = .ok (.ireturn, 1) := by decide +kernel
theorem dX8_add_0 : decode cX8_add 0 = .ok (.aload_n 0, 1) := by decide +kernel
theorem dX8_add_1 : decode cX8_add 1 = .ok (.getfield 15, 3) := by decide +kernel
theorem dX8_add_4 : decode cX8_add 4 = .ok (.sipush 200, 3) := by decide +kernel
theorem dX8_add_7 : decode cX8_add 7 = .ok (.if_icmp .ge 20, 3) := by decide +kernel
theorem dX8_add_10 : decode cX8_add 10 = .ok (.aload_n 0, 1) := by decide +kernel
theorem dX8_add_11 : decode cX8_add 11 = .ok (.getfield 11, 3) := by decide +kernel
theorem dX8_add_14 : decode cX8_add 14 = .ok (.aload_n 0, 1) := by decide +kernel
theorem dX8_add_15 : decode cX8_add 15 = .ok (.dup, 1) := by decide +kernel
theorem dX8_add_16 : decode cX8_add 16 = .ok (.getfield 15, 3) := by decide +kernel
theorem dX8_add_19 : decode cX8_add 19 = .ok (.dup_x1, 1) := by decide +kernel
theorem dX8_add_20 : decode cX8_add 20 = .ok (.iconst 1, 1) := by decide +kernel
theorem dX8_add_21 : decode cX8_add 21 = .ok (.iadd, 1) := by decide +kernel
theorem dX8_add_22 : decode cX8_add 22 = .ok (.putfield 15, 3) := by decide +kernel
theorem dX8_add_25 : decode cX8_add 25 = .ok (.iload_n 1, 1) := by decide +kernel
theorem dX8_add_26 : decode cX8_add 26 = .ok (.iastore, 1) := by decide +kernel
theorem dX8_add_27 : decode cX8_add 27 = .ok (.return_, 1) := by decide +kernel
theorem dX8_clear_0 : decode cX8_clear 0 = .ok (.aload_n 0, 1) := by decide +kernel
theorem dX8_clear_1 : decode cX8_clear 1 = .ok (.iconst 0, 1) := by decide +kernel
theorem dX8_clear_2 : decode cX8_clear 2 = .ok (.putfield 15, 3) := by decide +kernel
theorem dX8_clear_5 : decode cX8_clear 5 = .ok (.return_, 1) := by decide +kernel
theorem dX8_at_0 : decode cX8_at 0 = .ok (.iload_n 1, 1) := by decide +kernel
theorem dX8_at_1 : decode cX8_at 1 = .ok (.ifCond .lt 20, 3) := by decide +kernel
theorem dX8_at_4 : decode cX8_at 4 = .ok (.iload_n 1, 1) := by decide +kernel
theorem dX8_at_5 : decode cX8_at 5 = .ok (.aload_n 0, 1) := by decide +kernel
theorem dX8_at_6 : decode cX8_at 6 = .ok (.getfield 15, 3) := by decide +kernel
theorem dX8_at_9 : decode cX8_at 9 = .ok (.if_icmp .ge 12, 3) := by decide +kernel
theorem dX8_at_12 : decode cX8_at 12 = .ok (.aload_n 0, 1) := by decide +kernel
theorem dX8_at_13 : decode cX8_at 13 = .ok (.getfield 11, 3) := by decide +kernel
theorem dX8_at_16 : decode cX8_at 16 = .ok (.iload_n 1, 1) := by decide +kernel
theorem dX8_at_17 : decode cX8_at 17 = .ok (.iaload, 1) := by decide +kernel
theorem dX8_at_18 : decode cX8_at 18 = .ok (.goto 4, 3) := by decide +kernel
theorem dX8_at_21 : decode cX8_at 21 = .ok (.iconst (-1), 1) := by decide +kernel
theorem dX8_at_22 : decode cX8_at 22 = .ok (.ireturn, 1) := by decide +kernel
theorem dX8_behindBlanks_0 : decode cX8_behindBlanks 0 = .ok (.iload_n 1, 1) := by decide +kernel
theorem dX8_behindBlanks_1 : decode cX8_behindBlanks 1 = .ok (.istore_n 2, 1) := by decide +kernel
theorem dX8_behindBlanks_2 : decode cX8_behindBlanks 2 = .ok (.iload_n 2, 1) := by decide +kernel
theorem dX8_behindBlanks_3 : decode cX8_behindBlanks 3 = .ok (.aload_n 0, 1) := by decide +kernel
theorem dX8_behindBlanks_4 : decode cX8_behindBlanks 4 = .ok (.getfield 15, 3) := by decide +kernel
theorem dX8_behindBlanks_7 : decode cX8_behindBlanks 7 = .ok (.if_icmp .ge 19, 3) := by decide +kernel
theorem dX8_behindBlanks_10 : decode cX8_behindBlanks 10 = .ok (.aload_n 0, 1) := by decide +kernel
theorem dX8_behindBlanks_11 : decode cX8_behindBlanks 11 = .ok (.iload_n 2, 1) := by decide +kernel
theorem dX8_behindBlanks_12 : decode cX8_behindBlanks 12 = .ok (.invokevirtual 19, 3) := by decide +kernel
theorem dX8_behindBlanks_15 : decode cX8_behindBlanks 15 = .ok (.bipush 32, 2) := by decide +kernel
theorem dX8_behindBlanks_17 : decode cX8_behindBlanks 17 = .ok (.if_icmp .ne 9, 3) := by decide +kernel
theorem dX8_behindBlanks_20 : decode cX8_behindBlanks 20 = .ok (.iinc 2 1, 3) := by decide +kernel
theorem dX8_behindBlanks_23 : decode cX8_behindBlanks 23 = .ok (.goto (-21), 3) := by decide +kernel
theorem dX8_behindBlanks_26 : decode cX8_behindBlanks 26 = .ok (.iload_n 2, 1) := by decide +kernel
theorem dX8_behindBlanks_27 : decode cX8_behindBlanks 27 = .ok (.ireturn, 1) := by decide +kernel
theorem dX8_endOfToken_0 : decode cX8_endOfToken 0 = .ok (.iload_n 1, 1) := by decide +kernel
theorem dX8_endOfToken_1 : decode cX8_endOfToken 1 = .ok (.aload_n 0, 1) := by decide +kernel
theorem dX8_endOfToken_2 : decode cX8_endOfToken 2 = .ok (.getfield 15, 3) := by decide +kernel
theorem dX8_endOfToken_5 : decode cX8_endOfToken 5 = .ok (.if_icmp .lt 5, 3) := by decide +kernel
theorem dX8_endOfToken_8 : decode cX8_endOfToken 8 = .ok (.iload_n 1, 1) := by decide +kernel
theorem dX8_endOfToken_9 : decode cX8_endOfToken 9 = .ok (.ireturn, 1) := by decide +kernel
theorem dX8_endOfToken_10 : decode cX8_endOfToken 10 = .ok (.iload_n 1, 1) := by decide +kernel
theorem dX8_endOfToken_11 : decode cX8_endOfToken 11 = .ok (.iconst 1, 1) := by decide +kernel
theorem dX8_endOfToken_12 : decode cX8_endOfToken 12 = .ok (.iadd, 1) := by decide +kernel
theorem dX8_endOfToken_13 : decode cX8_endOfToken 13 = .ok (.istore_n 2, 1) := by decide +kernel
theorem dX8_endOfToken_14 : decode cX8_endOfToken 14 = .ok (.aload_n 0, 1) := by decide +kernel
theorem dX8_endOfToken_15 : decode cX8_endOfToken 15 = .ok (.iload_n 1, 1) := by decide +kernel
theorem dX8_endOfToken_16 : decode cX8_endOfToken 16 = .ok (.invokevirtual 19, 3) := by decide +kernel
theorem dX8_endOfToken_19 : decode cX8_endOfToken 19 = .ok (.invokestatic 23, 3) := by decide +kernel
theorem dX8_endOfToken_22 : decode cX8_endOfToken 22 = .ok (.ifCond .eq 28, 3) := by decide +kernel
theorem dX8_endOfToken_25 : decode cX8_endOfToken 25 = .ok (.iload_n 2, 1) := by decide +kernel
theorem dX8_endOfToken_26 : decode cX8_endOfToken 26 = .ok (.aload_n 0, 1) := by decide +kernel
theorem dX8_endOfToken_27 : decode cX8_endOfToken 27 = .ok (.getfield 15, 3) := by decide +kernel
theorem dX8_endOfToken_30 : decode cX8_endOfToken 30 = .ok (.if_icmp .ge 56, 3) := by decide +kernel
theorem dX8_endOfToken_33 : decode cX8_endOfToken 33 = .ok (.aload_n 0, 1) := by decide +kernel
theorem dX8_endOfToken_34 : decode cX8_endOfToken 34 = .ok (.iload_n 2, 1) := by decide +kernel
theorem dX8_endOfToken_35 : decode cX8_endOfToken 35 = .ok (.invokevirtual 19, 3) := by decide +kernel
theorem dX8_endOfToken_38 : decode cX8_endOfToken 38 = .ok (.invokestatic 23, 3) := by decide +kernel
theorem dX8_endOfToken_41 : decode cX8_endOfToken 41 = .ok (.ifCond .eq 45, 3) := by decide +kernel
theorem dX8_endOfToken_44 : decode cX8_endOfToken 44 = .ok (.iinc 2 1, 3) := by decide +kernel
theorem dX8_endOfToken_47 : decode cX8_endOfToken 47 = .ok (.goto (-22), 3) := by decide +kernel
theorem dX8_endOfToken_50 : decode cX8_endOfToken 50 = .ok (.aload_n 0, 1) := by decide +kernel
theorem dX8_endOfToken_51 : decode cX8_endOfToken 51 = .ok (.iload_n 1, 1) := by decide +kernel
theorem dX8_endOfToken_52 : decode cX8_endOfToken 52 = .ok (.invokevirtual 19, 3) := by decide +kernel
theorem dX8_endOfToken_55 : decode cX8_endOfToken 55 = .ok (.invokestatic 27, 3) := by decide +kernel
theorem dX8_endOfToken_58 : decode cX8_endOfToken 58 = .ok (.ifCond .eq 28, 3) := by decide +kernel
theorem dX8_endOfToken_61 : decode cX8_endOfToken 61 = .ok (.iload_n 2, 1) := by decide +kernel
theorem dX8_endOfToken_62 : decode cX8_endOfToken 62 = .ok (.aload_n 0, 1) := by decide +kernel
theorem dX8_endOfToken_63 : decode cX8_endOfToken 63 = .ok (.getfield 15, 3) := by decide +kernel
theorem dX8_endOfToken_66 : decode cX8_endOfToken 66 = .ok (.if_icmp .ge 20, 3) := by decide +kernel
theorem dX8_endOfToken_69 : decode cX8_endOfToken 69 = .ok (.aload_n 0, 1) := by decide +kernel
theorem dX8_endOfToken_70 : decode cX8_endOfToken 70 = .ok (.iload_n 2, 1) := by decide +kernel
theorem dX8_endOfToken_71 : decode cX8_endOfToken 71 = .ok (.invokevirtual 19, 3) := by decide +kernel
theorem dX8_endOfToken_74 : decode cX8_endOfToken 74 = .ok (.invokestatic 27, 3) := by decide +kernel
theorem dX8_endOfToken_77 : decode cX8_endOfToken 77 = .ok (.ifCond .eq 9, 3) := by decide +kernel
theorem dX8_endOfToken_80 : decode cX8_endOfToken 80 = .ok (.iinc 2 1, 3) := by decide +kernel
theorem dX8_endOfToken_83 : decode cX8_endOfToken 83 = .ok (.goto (-22), 3) := by decide +kernel
theorem dX8_endOfToken_86 : decode cX8_endOfToken 86 = .ok (.iload_n 2, 1) := by decide +kernel
theorem dX8_endOfToken_87 : decode cX8_endOfToken 87 = .ok (.ireturn, 1) := by decide +kernel
theorem dX8_spells_0 : decode cX8_spells 0 = .ok (.iload_n 2, 1) := by decide +kernel
theorem dX8_spells_1 : decode cX8_spells 1 = .ok (.iload_n 1, 1) := by decide +kernel
theorem dX8_spells_2 : decode cX8_spells 2 = .ok (.isub, 1) := by decide +kernel
theorem dX8_spells_3 : decode cX8_spells 3 = .ok (.aload_n 3, 1) := by decide +kernel
theorem dX8_spells_4 : decode cX8_spells 4 = .ok (.invokevirtual 30, 3) := by decide +kernel
theorem dX8_spells_7 : decode cX8_spells 7 = .ok (.if_icmp .eq 5, 3) := by decide +kernel
theorem dX8_spells_10 : decode cX8_spells 10 = .ok (.iconst 0, 1) := by decide +kernel
theorem dX8_spells_11 : decode cX8_spells 11 = .ok (.ireturn, 1) := by decide +kernel
theorem dX8_spells_12 : decode cX8_spells 12 = .ok (.iconst 0, 1) := by decide +kernel
theorem dX8_spells_13 : decode cX8_spells 13 = .ok (.istore 4, 2) := by decide +kernel
theorem dX8_spells_15 : decode cX8_spells 15 = .ok (.iload 4, 2) := by decide +kernel
theorem dX8_spells_17 : decode cX8_spells 17 = .ok (.aload_n 3, 1) := by decide +kernel
theorem dX8_spells_18 : decode cX8_spells 18 = .ok (.invokevirtual 30, 3) := by decide +kernel
theorem dX8_spells_21 : decode cX8_spells 21 = .ok (.if_icmp .ge 28, 3) := by decide +kernel
theorem dX8_spells_24 : decode cX8_spells 24 = .ok (.aload_n 0, 1) := by decide +kernel
theorem dX8_spells_25 : decode cX8_spells 25 = .ok (.iload_n 1, 1) := by decide +kernel
theorem dX8_spells_26 : decode cX8_spells 26 = .ok (.iload 4, 2) := by decide +kernel
theorem dX8_spells_28 : decode cX8_spells 28 = .ok (.iadd, 1) := by decide +kernel
theorem dX8_spells_29 : decode cX8_spells 29 = .ok (.invokevirtual 19, 3) := by decide +kernel
theorem dX8_spells_32 : decode cX8_spells 32 = .ok (.aload_n 3, 1) := by decide +kernel
theorem dX8_spells_33 : decode cX8_spells 33 = .ok (.iload 4, 2) := by decide +kernel
theorem dX8_spells_35 : decode cX8_spells 35 = .ok (.invokevirtual 35, 3) := by decide +kernel
theorem dX8_spells_38 : decode cX8_spells 38 = .ok (.if_icmp .eq 5, 3) := by decide +kernel
theorem dX8_spells_41 : decode cX8_spells 41 = .ok (.iconst 0, 1) := by decide +kernel
theorem dX8_spells_42 : decode cX8_spells 42 = .ok (.ireturn, 1) := by decide +kernel
theorem dX8_spells_43 : decode cX8_spells 43 = .ok (.iinc 4 1, 3) := by decide +kernel
theorem dX8_spells_46 : decode cX8_spells 46 = .ok (.goto (-31), 3) := by decide +kernel
theorem dX8_spells_49 : decode cX8_spells 49 = .ok (.iconst 1, 1) := by decide +kernel
theorem dX8_spells_50 : decode cX8_spells 50 = .ok (.ireturn, 1) := by decide +kernel
theorem dX8_numberIn_0 : decode cX8_numberIn 0 = .ok (.iload_n 2, 1) := by decide +kernel
theorem dX8_numberIn_1 : decode cX8_numberIn 1 = .ok (.iload_n 1, 1) := by decide +kernel
theorem dX8_numberIn_2 : decode cX8_numberIn 2 = .ok (.isub, 1) := by decide +kernel
theorem dX8_numberIn_3 : decode cX8_numberIn 3 = .ok (.iconst 1, 1) := by decide +kernel
theorem dX8_numberIn_4 : decode cX8_numberIn 4 = .ok (.if_icmp .lt 21, 3) := by decide +kernel
theorem dX8_numberIn_7 : decode cX8_numberIn 7 = .ok (.iload_n 2, 1) := by decide +kernel
theorem dX8_numberIn_8 : decode cX8_numberIn 8 = .ok (.iload_n 1, 1) := by decide +kernel
theorem dX8_numberIn_9 : decode cX8_numberIn 9 = .ok (.isub, 1) := by decide +kernel
theorem dX8_numberIn_10 : decode cX8_numberIn 10 = .ok (.iconst 3, 1) := by decide +kernel
theorem dX8_numberIn_11 : decode cX8_numberIn 11 = .ok (.if_icmp .gt 14, 3) := by decide +kernel
theorem dX8_numberIn_14 : decode cX8_numberIn 14 = .ok (.aload_n 0, 1) := by decide +kernel
theorem dX8_numberIn_15 : decode cX8_numberIn 15 = .ok (.iload_n 1, 1) := by decide +kernel
theorem dX8_numberIn_16 : decode cX8_numberIn 16 = .ok (.invokevirtual 19, 3) := by decide +kernel
theorem dX8_numberIn_19 : decode cX8_numberIn 19 = .ok (.invokestatic 27, 3) := by decide +kernel
theorem dX8_numberIn_22 : decode cX8_numberIn 22 = .ok (.ifCond .ne 5, 3) := by decide +kernel
theorem dX8_numberIn_25 : decode cX8_numberIn 25 = .ok (.iconst (-1), 1) := by decide +kernel
theorem dX8_numberIn_26 : decode cX8_numberIn 26 = .ok (.ireturn, 1) := by decide +kernel
theorem dX8_numberIn_27 : decode cX8_numberIn 27 = .ok (.iconst 0, 1) := by decide +kernel
theorem dX8_numberIn_28 : decode cX8_numberIn 28 = .ok (.istore_n 3, 1) := by decide +kernel
theorem dX8_numberIn_29 : decode cX8_numberIn 29 = .ok (.iload_n 1, 1) := by decide +kernel
theorem dX8_numberIn_30 : decode cX8_numberIn 30 = .ok (.istore 4, 2) := by decide +kernel
theorem dX8_numberIn_32 : decode cX8_numberIn 32 = .ok (.iload 4, 2) := by decide +kernel
theorem dX8_numberIn_34 : decode cX8_numberIn 34 = .ok (.iload_n 2, 1) := by decide +kernel
theorem dX8_numberIn_35 : decode cX8_numberIn 35 = .ok (.if_icmp .ge 24, 3) := by decide +kernel
theorem dX8_numberIn_38 : decode cX8_numberIn 38 = .ok (.iload_n 3, 1) := by decide +kernel
theorem dX8_numberIn_39 : decode cX8_numberIn 39 = .ok (.bipush 10, 2) := by decide +kernel
theorem dX8_numberIn_41 : decode cX8_numberIn 41 = .ok (.imul, 1) := by decide +kernel
theorem dX8_numberIn_42 : decode cX8_numberIn 42 = .ok (.aload_n 0, 1) := by decide +kernel
theorem dX8_numberIn_43 : decode cX8_numberIn 43 = .ok (.iload 4, 2) := by decide +kernel
theorem dX8_numberIn_45 : decode cX8_numberIn 45 = .ok (.invokevirtual 19, 3) := by decide +kernel
theorem dX8_numberIn_48 : decode cX8_numberIn 48 = .ok (.iadd, 1) := by decide +kernel
theorem dX8_numberIn_49 : decode cX8_numberIn 49 = .ok (.bipush 48, 2) := by decide +kernel
theorem dX8_numberIn_51 : decode cX8_numberIn 51 = .ok (.isub, 1) := by decide +kernel
theorem dX8_numberIn_52 : decode cX8_numberIn 52 = .ok (.istore_n 3, 1) := by decide +kernel
theorem dX8_numberIn_53 : decode cX8_numberIn 53 = .ok (.iinc 4 1, 3) := by decide +kernel
theorem dX8_numberIn_56 : decode cX8_numberIn 56 = .ok (.goto (-24), 3) := by decide +kernel
theorem dX8_numberIn_59 : decode cX8_numberIn 59 = .ok (.iload_n 3, 1) := by decide +kernel
theorem dX8_numberIn_60 : decode cX8_numberIn 60 = .ok (.ireturn, 1) := by decide +kernel
theorem dX8_isLetter_0 : decode cX8_isLetter 0 = .ok (.iload_n 0, 1) := by decide +kernel
theorem dX8_isLetter_1 : decode cX8_isLetter 1 = .ok (.bipush 97, 2) := by decide +kernel
theorem dX8_isLetter_3 : decode cX8_isLetter 3 = .ok (.if_icmp .lt 13, 3) := by decide +kernel
theorem dX8_isLetter_6 : decode cX8_isLetter 6 = .ok (.iload_n 0, 1) := by decide +kernel
theorem dX8_isLetter_7 : decode cX8_isLetter 7 = .ok (.bipush 122, 2) := by decide +kernel
theorem dX8_isLetter_9 : decode cX8_isLetter 9 = .ok (.if_icmp .gt 7, 3) := by decide +kernel
theorem dX8_isLetter_12 : decode cX8_isLetter 12 = .ok (.iconst 1, 1) := by decide +kernel
theorem dX8_isLetter_13 : decode cX8_isLetter 13 = .ok (.goto 4, 3) := by decide +kernel
theorem dX8_isLetter_16 : decode cX8_isLetter 16 = .ok (.iconst 0, 1) := by decide +kernel
theorem dX8_isLetter_17 : decode cX8_isLetter 17 = .ok (.ireturn, 1) := by decide +kernel
theorem dX8_isDigit_0 : decode cX8_isDigit 0 = .ok (.iload_n 0, 1) := by decide +kernel
theorem dX8_isDigit_1 : decode cX8_isDigit 1 = .ok (.bipush 48, 2) := by decide +kernel
theorem dX8_isDigit_3 : decode cX8_isDigit 3 = .ok (.if_icmp .lt 13, 3) := by decide +kernel
theorem dX8_isDigit_6 : decode cX8_isDigit 6 = .ok (.iload_n 0, 1) := by decide +kernel
theorem dX8_isDigit_7 : decode cX8_isDigit 7 = .ok (.bipush 57, 2) := by decide +kernel
theorem dX8_isDigit_9 : decode cX8_isDigit 9 = .ok (.if_icmp .gt 7, 3) := by decide +kernel
theorem dX8_isDigit_12 : decode cX8_isDigit 12 = .ok (.iconst 1, 1) := by decide +kernel
theorem dX8_isDigit_13 : decode cX8_isDigit 13 = .ok (.goto 4, 3) := by decide +kernel
theorem dX8_isDigit_16 : decode cX8_isDigit 16 = .ok (.iconst 0, 1) := by decide +kernel
theorem dX8_isDigit_17 : decode cX8_isDigit 17 = .ok (.ireturn, 1) := by decide +kernel
theorem dX9_init_0 : decode cX9_init 0 = .ok (.aload_n 0, 1) := by decide +kernel
theorem dX9_init_1 : decode cX9_init 1 = .ok (.invokespecial 3, 3) := by decide +kernel
theorem dX9_init_4 : decode cX9_init 4 = .ok (.aload_n 0, 1) := by decide +kernel
theorem dX9_init_5 : decode cX9_init 5 = .ok (.bipush 6, 2) := by decide +kernel
theorem dX9_init_7 : decode cX9_init 7 = .ok (.newarray .int, 2) := by decide +kernel
theorem dX9_init_9 : decode cX9_init 9 = .ok (.putfield 11, 3) := by decide +kernel
theorem dX9_init_12 : decode cX9_init 12 = .ok (.aload_n 0, 1) := by decide +kernel
theorem dX9_init_13 : decode cX9_init 13 = .ok (.bipush 6, 2) := by decide +kernel
theorem dX9_init_15 : decode cX9_init 15 = .ok (.newarray .int, 2) := by decide +kernel
theorem dX9_init_17 : decode cX9_init 17 = .ok (.putfield 15, 3) := by decide +kernel
theorem dX9_init_20 : decode cX9_init 20 = .ok (.aload_n 0, 1) := by decide +kernel
theorem dX9_init_21 : decode cX9_init 21 = .ok (.bipush 6, 2) := by decide +kernel
theorem dX9_init_23 : decode cX9_init 23 = .ok (.newarray .int, 2) := by decide +kernel
theorem dX9_init_25 : decode cX9_init 25 = .ok (.putfield 18, 3) := by decide +kernel
theorem dX9_init_28 : decode cX9_init 28 = .ok (.aload_n 0, 1) := by decide +kernel
theorem dX9_init_29 : decode cX9_init 29 = .ok (.bipush 6, 2) := by decide +kernel
theorem dX9_init_31 : decode cX9_init 31 = .ok (.newarray .int, 2) := by decide +kernel
theorem dX9_init_33 : decode cX9_init 33 = .ok (.putfield 21, 3) := by decide +kernel
theorem dX9_init_36 : decode cX9_init 36 = .ok (.aload_n 0, 1) := by decide +kernel
theorem dX9_init_37 : decode cX9_init 37 = .ok (.iconst 0, 1) := by decide +kernel
theorem dX9_init_38 : decode cX9_init 38 = .ok (.putfield 24, 3) := by decide +kernel
theorem dX9_init_41 : decode cX9_init 41 = .ok (.return_, 1) := by decide +kernel
theorem dX9_size_0 : decode cX9_size 0 = .ok (.aload_n 0, 1) := by decide +kernel
theorem dX9_size_1 : decode cX9_size 1 = .ok (.getfield 24, 3) := by decide +kernel
theorem dX9_size_4 : decode cX9_size 4 = .ok (.ireturn, 1) := by decide +kernel
theorem dX9_isFull_0 : decode cX9_isFull 0 = .ok (.aload_n 0, 1) := by decide +kernel
theorem dX9_isFull_1 : decode cX9_isFull 1 = .ok (.getfield 24, 3) := by decide +kernel
theorem dX9_isFull_4 : decode cX9_isFull 4 = .ok (.bipush 6, 2) := by decide +kernel
theorem dX9_isFull_6 : decode cX9_isFull 6 = .ok (.if_icmp .lt 7, 3) := by decide +kernel
theorem dX9_isFull_9 : decode cX9_isFull 9 = .ok (.iconst 1, 1) := by decide +kernel
theorem dX9_isFull_10 : decode cX9_isFull 10 = .ok (.goto 4, 3) := by decide +kernel
theorem dX9_isFull_13 : decode cX9_isFull 13 = .ok (.iconst 0, 1) := by decide +kernel
theorem dX9_isFull_14 : decode cX9_isFull 14 = .ok (.ireturn, 1) := by decide +kernel
theorem dX9_add_0 : decode cX9_add 0 = .ok (.aload_n 0, 1) := by decide +kernel
theorem dX9_add_1 : decode cX9_add 1 = .ok (.invokevirtual 28, 3) := by decide +kernel
theorem dX9_add_4 : decode cX9_add 4 = .ok (.ifCond .eq 6, 3) := by decide +kernel
theorem dX9_add_7 : decode cX9_add 7 = .ok (.bipush (-5), 2) := by decide +kernel
theorem dX9_add_9 : decode cX9_add 9 = .ok (.ireturn, 1) := by decide +kernel
theorem dX9_add_10 : decode cX9_add 10 = .ok (.aload_n 0, 1) := by decide +kernel
theorem dX9_add_11 : decode cX9_add 11 = .ok (.getfield 11, 3) := by decide +kernel
theorem dX9_add_14 : decode cX9_add 14 = .ok (.aload_n 0, 1) := by decide +kernel
theorem dX9_add_15 : decode cX9_add 15 = .ok (.getfield 24, 3) := by decide +kernel
theorem dX9_add_18 : decode cX9_add 18 = .ok (.iload_n 1, 1) := by decide +kernel
theorem dX9_add_19 : decode cX9_add 19 = .ok (.iastore, 1) := by decide +kernel
theorem dX9_add_20 : decode cX9_add 20 = .ok (.aload_n 0, 1) := by decide +kernel
theorem dX9_add_21 : decode cX9_add 21 = .ok (.getfield 15, 3) := by decide +kernel
theorem dX9_add_24 : decode cX9_add 24 = .ok (.aload_n 0, 1) := by decide +kernel
theorem dX9_add_25 : decode cX9_add 25 = .ok (.getfield 24, 3) := by decide +kernel
theorem dX9_add_28 : decode cX9_add 28 = .ok (.iload_n 2, 1) := by decide +kernel
theorem dX9_add_29 : decode cX9_add 29 = .ok (.iastore, 1) := by decide +kernel
theorem dX9_add_30 : decode cX9_add 30 = .ok (.aload_n 0, 1) := by decide +kernel
theorem dX9_add_31 : decode cX9_add 31 = .ok (.getfield 18, 3) := by decide +kernel
theorem dX9_add_34 : decode cX9_add 34 = .ok (.aload_n 0, 1) := by decide +kernel
theorem dX9_add_35 : decode cX9_add 35 = .ok (.getfield 24, 3) := by decide +kernel
theorem dX9_add_38 : decode cX9_add 38 = .ok (.iload_n 3, 1) := by decide +kernel
theorem dX9_add_39 : decode cX9_add 39 = .ok (.iastore, 1) := by decide +kernel
theorem dX9_add_40 : decode cX9_add 40 = .ok (.aload_n 0, 1) := by decide +kernel
theorem dX9_add_41 : decode cX9_add 41 = .ok (.getfield 21, 3) := by decide +kernel
theorem dX9_add_44 : decode cX9_add 44 = .ok (.aload_n 0, 1) := by decide +kernel
theorem dX9_add_45 : decode cX9_add 45 = .ok (.getfield 24, 3) := by decide +kernel
theorem dX9_add_48 : decode cX9_add 48 = .ok (.iload 4, 2) := by decide +kernel
theorem dX9_add_50 : decode cX9_add 50 = .ok (.iastore, 1) := by decide +kernel
theorem dX9_add_51 : decode cX9_add 51 = .ok (.aload_n 0, 1) := by decide +kernel
theorem dX9_add_52 : decode cX9_add 52 = .ok (.dup, 1) := by decide +kernel
theorem dX9_add_53 : decode cX9_add 53 = .ok (.getfield 24, 3) := by decide +kernel
theorem dX9_add_56 : decode cX9_add 56 = .ok (.dup_x1, 1) := by decide +kernel
theorem dX9_add_57 : decode cX9_add 57 = .ok (.iconst 1, 1) := by decide +kernel
theorem dX9_add_58 : decode cX9_add 58 = .ok (.iadd, 1) := by decide +kernel
theorem dX9_add_59 : decode cX9_add 59 = .ok (.putfield 24, 3) := by decide +kernel
theorem dX9_add_62 : decode cX9_add 62 = .ok (.ireturn, 1) := by decide +kernel
theorem dX9_findFor_0 : decode cX9_findFor 0 = .ok (.aload_n 3, 1) := by decide +kernel
theorem dX9_findFor_1 : decode cX9_findFor 1 = .ok (.aload_n 2, 1) := by decide +kernel
theorem dX9_findFor_2 : decode cX9_findFor 2 = .ok (.invokevirtual 32, 3) := by decide +kernel
theorem dX9_findFor_5 : decode cX9_findFor 5 = .ok (.iconst 0, 1) := by decide +kernel
theorem dX9_findFor_6 : decode cX9_findFor 6 = .ok (.istore 5, 2) := by decide +kernel
theorem dX9_findFor_8 : decode cX9_findFor 8 = .ok (.iload 5, 2) := by decide +kernel
theorem dX9_findFor_10 : decode cX9_findFor 10 = .ok (.iconst 1, 1) := by decide +kernel
theorem dX9_findFor_11 : decode cX9_findFor 11 = .ok (.aload_n 0, 1) := by decide +kernel
theorem dX9_findFor_12 : decode cX9_findFor 12 = .ok (.getfield 24, 3) := by decide +kernel
theorem dX9_findFor_15 : decode cX9_findFor 15 = .ok (.ishl, 1) := by decide +kernel
theorem dX9_findFor_16 : decode cX9_findFor 16 = .ok (.if_icmp .ge 75, 3) := by decide +kernel
theorem dX9_findFor_19 : decode cX9_findFor 19 = .ok (.aload_n 0, 1) := by decide +kernel
theorem dX9_findFor_20 : decode cX9_findFor 20 = .ok (.iload 5, 2) := by decide +kernel
theorem dX9_findFor_22 : decode cX9_findFor 22 = .ok (.invokevirtual 38, 3) := by decide +kernel
theorem dX9_findFor_25 : decode cX9_findFor 25 = .ok (.iload_n 1, 1) := by decide +kernel
theorem dX9_findFor_26 : decode cX9_findFor 26 = .ok (.if_icmp .le 6, 3) := by decide +kernel
theorem dX9_findFor_29 : decode cX9_findFor 29 = .ok (.goto 56, 3) := by decide +kernel
theorem dX9_findFor_32 : decode cX9_findFor 32 = .ok (.aload_n 3, 1) := by decide +kernel
theorem dX9_findFor_33 : decode cX9_findFor 33 = .ok (.aload_n 2, 1) := by decide +kernel
theorem dX9_findFor_34 : decode cX9_findFor 34 = .ok (.invokevirtual 42, 3) := by decide +kernel
theorem dX9_findFor_37 : decode cX9_findFor 37 = .ok (.aload_n 0, 1) := by decide +kernel
theorem dX9_findFor_38 : decode cX9_findFor 38 = .ok (.iload 5, 2) := by decide +kernel
theorem dX9_findFor_40 : decode cX9_findFor 40 = .ok (.aload_n 3, 1) := by decide +kernel
theorem dX9_findFor_41 : decode cX9_findFor 41 = .ok (.invokevirtual 45, 3) := by decide +kernel
theorem dX9_findFor_44 : decode cX9_findFor 44 = .ok (.aload 4, 2) := by decide +kernel
theorem dX9_findFor_46 : decode cX9_findFor 46 = .ok (.aload_n 2, 1) := by decide +kernel
theorem dX9_findFor_47 : decode cX9_findFor 47 = .ok (.aload_n 3, 1) := by decide +kernel
theorem dX9_findFor_48 : decode cX9_findFor 48 = .ok (.invokevirtual 49, 3) := by decide +kernel
theorem dX9_findFor_51 : decode cX9_findFor 51 = .ok (.aload 4, 2) := by decide +kernel
theorem dX9_findFor_53 : decode cX9_findFor 53 = .ok (.aload_n 2, 1) := by decide +kernel
theorem dX9_findFor_54 : decode cX9_findFor 54 = .ok (.invokevirtual 55, 3) := by decide +kernel
theorem dX9_findFor_57 : decode cX9_findFor 57 = .ok (.istore 6, 2) := by decide +kernel
theorem dX9_findFor_59 : decode cX9_findFor 59 = .ok (.iload 5, 2) := by decide +kernel
theorem dX9_findFor_61 : decode cX9_findFor 61 = .ok (.ifCond .eq 12, 3) := by decide +kernel
theorem dX9_findFor_64 : decode cX9_findFor 64 = .ok (.iload 6, 2) := by decide +kernel
theorem dX9_findFor_66 : decode cX9_findFor 66 = .ok (.aload_n 0, 1) := by decide +kernel
theorem dX9_findFor_67 : decode cX9_findFor 67 = .ok (.getfield 59, 3) := by decide +kernel
theorem dX9_findFor_70 : decode cX9_findFor 70 = .ok (.if_icmp .ge 15, 3) := by decide +kernel
theorem dX9_findFor_73 : decode cX9_findFor 73 = .ok (.aload_n 0, 1) := by decide +kernel
theorem dX9_findFor_74 : decode cX9_findFor 74 = .ok (.iload 5, 2) := by decide +kernel
theorem dX9_findFor_76 : decode cX9_findFor 76 = .ok (.putfield 62, 3) := by decide +kernel
theorem dX9_findFor_79 : decode cX9_findFor 79 = .ok (.aload_n 0, 1) := by decide +kernel
theorem dX9_findFor_80 : decode cX9_findFor 80 = .ok (.iload 6, 2) := by decide +kernel
theorem dX9_findFor_82 : decode cX9_findFor 82 = .ok (.putfield 59, 3) := by decide +kernel
theorem dX9_findFor_85 : decode cX9_findFor 85 = .ok (.iinc 5 1, 3) := by decide +kernel
theorem dX9_findFor_88 : decode cX9_findFor 88 = .ok (.goto (-80), 3) := by decide +kernel
theorem dX9_findFor_91 : decode cX9_findFor 91 = .ok (.return_, 1) := by decide +kernel
theorem dX9_costOf_0 : decode cX9_costOf 0 = .ok (.iconst 0, 1) := by decide +kernel
theorem dX9_costOf_1 : decode cX9_costOf 1 = .ok (.istore_n 2, 1) := by decide +kernel
theorem dX9_costOf_2 : decode cX9_costOf 2 = .ok (.iconst 0, 1) := by decide +kernel
theorem dX9_costOf_3 : decode cX9_costOf 3 = .ok (.istore_n 3, 1) := by decide +kernel
theorem dX9_costOf_4 : decode cX9_costOf 4 = .ok (.iload_n 3, 1) := by decide +kernel
theorem dX9_costOf_5 : decode cX9_costOf 5 = .ok (.aload_n 0, 1) := by decide +kernel
theorem dX9_costOf_6 : decode cX9_costOf 6 = .ok (.getfield 24, 3) := by decide +kernel
theorem dX9_costOf_9 : decode cX9_costOf 9 = .ok (.if_icmp .ge 26, 3) := by decide +kernel
theorem dX9_costOf_12 : decode cX9_costOf 12 = .ok (.iload_n 1, 1) := by decide +kernel
theorem dX9_costOf_13 : decode cX9_costOf 13 = .ok (.iload_n 3, 1) := by decide +kernel
theorem dX9_costOf_14 : decode cX9_costOf 14 = .ok (.invokestatic 65, 3) := by decide +kernel
theorem dX9_costOf_17 : decode cX9_costOf 17 = .ok (.ifCond .eq 12, 3) := by decide +kernel
theorem dX9_costOf_20 : decode cX9_costOf 20 = .ok (.iload_n 2, 1) := by decide +kernel
theorem dX9_costOf_21 : decode cX9_costOf 21 = .ok (.aload_n 0, 1) := by decide +kernel
theorem dX9_costOf_22 : decode cX9_costOf 22 = .ok (.getfield 15, 3) := by decide +kernel
theorem dX9_costOf_25 : decode cX9_costOf 25 = .ok (.iload_n 3, 1) := by decide +kernel
theorem dX9_costOf_26 : decode cX9_costOf 26 = .ok (.iaload, 1) := by decide +kernel
theorem dX9_costOf_27 : decode cX9_costOf 27 = .ok (.iadd, 1) := by decide +kernel
theorem dX9_costOf_28 : decode cX9_costOf 28 = .ok (.istore_n 2, 1) := by decide +kernel
theorem dX9_costOf_29 : decode cX9_costOf 29 = .ok (.iinc 3 1, 3) := by decide +kernel
theorem dX9_costOf_32 : decode cX9_costOf 32 = .ok (.goto (-28), 3) := by decide +kernel
theorem dX9_costOf_35 : decode cX9_costOf 35 = .ok (.iload_n 2, 1) := by decide +kernel
theorem dX9_costOf_36 : decode cX9_costOf 36 = .ok (.ireturn, 1) := by decide +kernel
theorem dX9_put_0 : decode cX9_put 0 = .ok (.iconst 0, 1) := by decide +kernel
theorem dX9_put_1 : decode cX9_put 1 = .ok (.istore_n 3, 1) := by decide +kernel
theorem dX9_put_2 : decode cX9_put 2 = .ok (.iload_n 3, 1) := by decide +kernel
theorem dX9_put_3 : decode cX9_put 3 = .ok (.aload_n 0, 1) := by decide +kernel
theorem dX9_put_4 : decode cX9_put 4 = .ok (.getfield 24, 3) := by decide +kernel
theorem dX9_put_7 : decode cX9_put 7 = .ok (.if_icmp .ge 39, 3) := by decide +kernel
theorem dX9_put_10 : decode cX9_put 10 = .ok (.iload_n 1, 1) := by decide +kernel
theorem dX9_put_11 : decode cX9_put 11 = .ok (.iload_n 3, 1) := by decide +kernel
theorem dX9_put_12 : decode cX9_put 12 = .ok (.invokestatic 65, 3) := by decide +kernel
theorem dX9_put_15 : decode cX9_put 15 = .ok (.ifCond .eq 25, 3) := by decide +kernel
theorem dX9_put_18 : decode cX9_put 18 = .ok (.aload_n 2, 1) := by decide +kernel
theorem dX9_put_19 : decode cX9_put 19 = .ok (.aload_n 0, 1) := by decide +kernel
theorem dX9_put_20 : decode cX9_put 20 = .ok (.getfield 11, 3) := by decide +kernel
theorem dX9_put_23 : decode cX9_put 23 = .ok (.iload_n 3, 1) := by decide +kernel
theorem dX9_put_24 : decode cX9_put 24 = .ok (.iaload, 1) := by decide +kernel
theorem dX9_put_25 : decode cX9_put 25 = .ok (.aload_n 0, 1) := by decide +kernel
theorem dX9_put_26 : decode cX9_put 26 = .ok (.getfield 18, 3) := by decide +kernel
theorem dX9_put_29 : decode cX9_put 29 = .ok (.iload_n 3, 1) := by decide +kernel
theorem dX9_put_30 : decode cX9_put 30 = .ok (.iaload, 1) := by decide +kernel
theorem dX9_put_31 : decode cX9_put 31 = .ok (.aload_n 0, 1) := by decide +kernel
theorem dX9_put_32 : decode cX9_put 32 = .ok (.getfield 21, 3) := by decide +kernel
theorem dX9_put_35 : decode cX9_put 35 = .ok (.iload_n 3, 1) := by decide +kernel
theorem dX9_put_36 : decode cX9_put 36 = .ok (.iaload, 1) := by decide +kernel
theorem dX9_put_37 : decode cX9_put 37 = .ok (.invokevirtual 69, 3) := by decide +kernel
theorem dX9_put_40 : decode cX9_put 40 = .ok (.iinc 3 1, 3) := by decide +kernel
theorem dX9_put_43 : decode cX9_put 43 = .ok (.goto (-41), 3) := by decide +kernel
theorem dX9_put_46 : decode cX9_put 46 = .ok (.return_, 1) := by decide +kernel
theorem dX9_bestSet_0 : decode cX9_bestSet 0 = .ok (.aload_n 0, 1) := by decide +kernel
theorem dX9_bestSet_1 : decode cX9_bestSet 1 = .ok (.getfield 62, 3) := by decide +kernel
theorem dX9_bestSet_4 : decode cX9_bestSet 4 = .ok (.ireturn, 1) := by decide +kernel
theorem dX9_bestNight_0 : decode cX9_bestNight 0 = .ok (.aload_n 0, 1) := by decide +kernel
theorem dX9_bestNight_1 : decode cX9_bestNight 1 = .ok (.getfield 59, 3) := by decide +kernel
theorem dX9_bestNight_4 : decode cX9_bestNight 4 = .ok (.ireturn, 1) := by decide +kernel
theorem dX10_init_0 : decode cX10_init 0 = .ok (.aload_n 0, 1) := by decide +kernel
theorem dX10_init_1 : decode cX10_init 1 = .ok (.invokespecial 3, 3) := by decide +kernel
theorem dX10_init_4 : decode cX10_init 4 = .ok (.aload_n 0, 1) := by decide +kernel
theorem dX10_init_5 : decode cX10_init 5 = .ok (.new 9, 3) := by decide +kernel
theorem dX10_init_8 : decode cX10_init 8 = .ok (.dup, 1) := by decide +kernel
theorem dX10_init_9 : decode cX10_init 9 = .ok (.invokespecial 11, 3) := by decide +kernel
theorem dX10_init_12 : decode cX10_init 12 = .ok (.putfield 12, 3) := by decide +kernel
theorem dX10_init_15 : decode cX10_init 15 = .ok (.aload_n 0, 1) := by decide +kernel
theorem dX10_init_16 : decode cX10_init 16 = .ok (.new 16, 3) := by decide +kernel
theorem dX10_init_19 : decode cX10_init 19 = .ok (.dup, 1) := by decide +kernel
theorem dX10_init_20 : decode cX10_init 20 = .ok (.invokespecial 18, 3) := by decide +kernel
theorem dX10_init_23 : decode cX10_init 23 = .ok (.putfield 19, 3) := by decide +kernel
theorem dX10_init_26 : decode cX10_init 26 = .ok (.aload_n 0, 1) := by decide +kernel
theorem dX10_init_27 : decode cX10_init 27 = .ok (.new 23, 3) := by decide +kernel
theorem dX10_init_30 : decode cX10_init 30 = .ok (.dup, 1) := by decide +kernel
theorem dX10_init_31 : decode cX10_init 31 = .ok (.invokespecial 25, 3) := by decide +kernel
theorem dX10_init_34 : decode cX10_init 34 = .ok (.putfield 26, 3) := by decide +kernel
theorem dX10_init_37 : decode cX10_init 37 = .ok (.aload_n 0, 1) := by decide +kernel
theorem dX10_init_38 : decode cX10_init 38 = .ok (.new 30, 3) := by decide +kernel
theorem dX10_init_41 : decode cX10_init 41 = .ok (.dup, 1) := by decide +kernel
theorem dX10_init_42 : decode cX10_init 42 = .ok (.invokespecial 32, 3) := by decide +kernel
theorem dX10_init_45 : decode cX10_init 45 = .ok (.putfield 33, 3) := by decide +kernel
theorem dX10_init_48 : decode cX10_init 48 = .ok (.aload_n 0, 1) := by decide +kernel
theorem dX10_init_49 : decode cX10_init 49 = .ok (.new 37, 3) := by decide +kernel
theorem dX10_init_52 : decode cX10_init 52 = .ok (.dup, 1) := by decide +kernel
theorem dX10_init_53 : decode cX10_init 53 = .ok (.invokespecial 39, 3) := by decide +kernel
theorem dX10_init_56 : decode cX10_init 56 = .ok (.putfield 40, 3) := by decide +kernel
theorem dX10_init_59 : decode cX10_init 59 = .ok (.aload_n 0, 1) := by decide +kernel
theorem dX10_init_60 : decode cX10_init 60 = .ok (.new 37, 3) := by decide +kernel
theorem dX10_init_63 : decode cX10_init 63 = .ok (.dup, 1) := by decide +kernel
theorem dX10_init_64 : decode cX10_init 64 = .ok (.invokespecial 39, 3) := by decide +kernel
theorem dX10_init_67 : decode cX10_init 67 = .ok (.putfield 44, 3) := by decide +kernel
theorem dX10_init_70 : decode cX10_init 70 = .ok (.aload_n 0, 1) := by decide +kernel
theorem dX10_init_71 : decode cX10_init 71 = .ok (.new 47, 3) := by decide +kernel
theorem dX10_init_74 : decode cX10_init 74 = .ok (.dup, 1) := by decide +kernel
theorem dX10_init_75 : decode cX10_init 75 = .ok (.invokespecial 49, 3) := by decide +kernel
theorem dX10_init_78 : decode cX10_init 78 = .ok (.putfield 50, 3) := by decide +kernel
theorem dX10_init_81 : decode cX10_init 81 = .ok (.aload_n 0, 1) := by decide +kernel
theorem dX10_init_82 : decode cX10_init 82 = .ok (.new 54, 3) := by decide +kernel
theorem dX10_init_85 : decode cX10_init 85 = .ok (.dup, 1) := by decide +kernel
theorem dX10_init_86 : decode cX10_init 86 = .ok (.invokespecial 56, 3) := by decide +kernel
theorem dX10_init_89 : decode cX10_init 89 = .ok (.putfield 57, 3) := by decide +kernel
theorem dX10_init_92 : decode cX10_init 92 = .ok (.aload_n 0, 1) := by decide +kernel
theorem dX10_init_93 : decode cX10_init 93 = .ok (.new 61, 3) := by decide +kernel
theorem dX10_init_96 : decode cX10_init 96 = .ok (.dup, 1) := by decide +kernel
theorem dX10_init_97 : decode cX10_init 97 = .ok (.invokespecial 63, 3) := by decide +kernel
theorem dX10_init_100 : decode cX10_init 100 = .ok (.putfield 64, 3) := by decide +kernel
theorem dX10_init_103 : decode cX10_init 103 = .ok (.aload_n 0, 1) := by decide +kernel
theorem dX10_init_104 : decode cX10_init 104 = .ok (.new 68, 3) := by decide +kernel
theorem dX10_init_107 : decode cX10_init 107 = .ok (.dup, 1) := by decide +kernel
theorem dX10_init_108 : decode cX10_init 108 = .ok (.invokespecial 70, 3) := by decide +kernel
theorem dX10_init_111 : decode cX10_init 111 = .ok (.putfield 71, 3) := by decide +kernel
theorem dX10_init_114 : decode cX10_init 114 = .ok (.aload_n 0, 1) := by decide +kernel
theorem dX10_init_115 : decode cX10_init 115 = .ok (.new 75, 3) := by decide +kernel
theorem dX10_init_118 : decode cX10_init 118 = .ok (.dup, 1) := by decide +kernel
theorem dX10_init_119 : decode cX10_init 119 = .ok (.invokespecial 77, 3) := by decide +kernel
theorem dX10_init_122 : decode cX10_init 122 = .ok (.putfield 78, 3) := by decide +kernel
theorem dX10_init_125 : decode cX10_init 125 = .ok (.aload_n 0, 1) := by decide +kernel
theorem dX10_init_126 : decode cX10_init 126 = .ok (.iconst 0, 1) := by decide +kernel
theorem dX10_init_127 : decode cX10_init 127 = .ok (.putfield 82, 3) := by decide +kernel
theorem dX10_init_130 : decode cX10_init 130 = .ok (.return_, 1) := by decide +kernel
theorem dX10_write_0 : decode cX10_write 0 = .ok (.iload_n 3, 1) := by decide +kernel
theorem dX10_write_1 : decode cX10_write 1 = .ok (.iconst 1, 1) := by decide +kernel
theorem dX10_write_2 : decode cX10_write 2 = .ok (.bipush 8, 2) := by decide +kernel
theorem dX10_write_4 : decode cX10_write 4 = .ok (.invokestatic 86, 3) := by decide +kernel
theorem dX10_write_7 : decode cX10_write 7 = .ok (.ifCond .ne 6, 3) := by decide +kernel
theorem dX10_write_10 : decode cX10_write 10 = .ok (.bipush (-3), 2) := by decide +kernel
theorem dX10_write_12 : decode cX10_write 12 = .ok (.ireturn, 1) := by decide +kernel
theorem dX10_write_13 : decode cX10_write 13 = .ok (.aload_n 0, 1) := by decide +kernel
theorem dX10_write_14 : decode cX10_write 14 = .ok (.getfield 12, 3) := by decide +kernel
theorem dX10_write_17 : decode cX10_write 17 = .ok (.iload_n 3, 1) := by decide +kernel
theorem dX10_write_18 : decode cX10_write 18 = .ok (.invokevirtual 90, 3) := by decide +kernel
theorem dX10_write_21 : decode cX10_write 21 = .ok (.ifCond .ne 6, 3) := by decide +kernel
theorem dX10_write_24 : decode cX10_write 24 = .ok (.bipush (-5), 2) := by decide +kernel
theorem dX10_write_26 : decode cX10_write 26 = .ok (.ireturn, 1) := by decide +kernel
theorem dX10_write_27 : decode cX10_write 27 = .ok (.iconst 0, 1) := by decide +kernel
theorem dX10_write_28 : decode cX10_write 28 = .ok (.istore 4, 2) := by decide +kernel
theorem dX10_write_30 : decode cX10_write 30 = .ok (.iload 4, 2) := by decide +kernel
theorem dX10_write_32 : decode cX10_write 32 = .ok (.iload_n 3, 1) := by decide +kernel
theorem dX10_write_33 : decode cX10_write 33 = .ok (.if_icmp .ge 28, 3) := by decide +kernel
theorem dX10_write_36 : decode cX10_write 36 = .ok (.aload_n 0, 1) := by decide +kernel
theorem dX10_write_37 : decode cX10_write 37 = .ok (.getfield 12, 3) := by decide +kernel
theorem dX10_write_40 : decode cX10_write 40 = .ok (.lload_n 1, 1) := by decide +kernel
theorem dX10_write_41 : decode cX10_write 41 = .ok (.bipush 8, 2) := by decide +kernel
theorem dX10_write_43 : decode cX10_write 43 = .ok (.iload 4, 2) := by decide +kernel
theorem dX10_write_45 : decode cX10_write 45 = .ok (.imul, 1) := by decide +kernel
theorem dX10_write_46 : decode cX10_write 46 = .ok (.lshr, 1) := by decide +kernel
theorem dX10_write_47 : decode cX10_write 47 = .ok (.ldc2_w 94, 3) := by decide +kernel
theorem dX10_write_50 : decode cX10_write 50 = .ok (.land, 1) := by decide +kernel
theorem dX10_write_51 : decode cX10_write 51 = .ok (.l2i, 1) := by decide +kernel
theorem dX10_write_52 : decode cX10_write 52 = .ok (.invokevirtual 96, 3) := by decide +kernel
theorem dX10_write_55 : decode cX10_write 55 = .ok (.iinc 4 1, 3) := by decide +kernel
theorem dX10_write_58 : decode cX10_write 58 = .ok (.goto (-28), 3) := by decide +kernel
theorem dX10_write_61 : decode cX10_write 61 = .ok (.aload_n 0, 1) := by decide +kernel
theorem dX10_write_62 : decode cX10_write 62 = .ok (.getfield 12, 3) := by decide +kernel
theorem dX10_write_65 : decode cX10_write 65 = .ok (.invokevirtual 100, 3) := by decide +kernel
theorem dX10_write_68 : decode cX10_write 68 = .ok (.ireturn, 1) := by decide +kernel
theorem dX10_erase_0 : decode cX10_erase 0 = .ok (.aload_n 0, 1) := by decide +kernel
theorem dX10_erase_1 : decode cX10_erase 1 = .ok (.getfield 12, 3) := by decide +kernel
theorem dX10_erase_4 : decode cX10_erase 4 = .ok (.invokevirtual 100, 3) := by decide +kernel
theorem dX10_erase_7 : decode cX10_erase 7 = .ok (.istore_n 1, 1) := by decide +kernel
theorem dX10_erase_8 : decode cX10_erase 8 = .ok (.aload_n 0, 1) := by decide +kernel
theorem dX10_erase_9 : decode cX10_erase 9 = .ok (.getfield 12, 3) := by decide +kernel
theorem dX10_erase_12 : decode cX10_erase 12 = .ok (.invokevirtual 104, 3) := by decide +kernel
theorem dX10_erase_15 : decode cX10_erase 15 = .ok (.iload_n 1, 1) := by decide +kernel
theorem dX10_erase_16 : decode cX10_erase 16 = .ok (.ireturn, 1) := by decide +kernel
theorem dX10_fault_0 : decode cX10_fault 0 = .ok (.aload_n 0, 1) := by decide +kernel
theorem dX10_fault_1 : decode cX10_fault 1 = .ok (.getfield 19, 3) := by decide +kernel
theorem dX10_fault_4 : decode cX10_fault 4 = .ok (.aload_n 0, 1) := by decide +kernel
theorem dX10_fault_5 : decode cX10_fault 5 = .ok (.getfield 12, 3) := by decide +kernel
theorem dX10_fault_8 : decode cX10_fault 8 = .ok (.invokevirtual 107, 3) := by decide +kernel
theorem dX10_fault_11 : decode cX10_fault 11 = .ok (.ireturn, 1) := by decide +kernel
theorem dX10_week_0 : decode cX10_week 0 = .ok (.aload_n 0, 1) := by decide +kernel
theorem dX10_week_1 : decode cX10_week 1 = .ok (.getfield 19, 3) := by decide +kernel
theorem dX10_week_4 : decode cX10_week 4 = .ok (.aload_n 0, 1) := by decide +kernel
theorem dX10_week_5 : decode cX10_week 5 = .ok (.getfield 12, 3) := by decide +kernel
theorem dX10_week_8 : decode cX10_week 8 = .ok (.invokevirtual 107, 3) := by decide +kernel
theorem dX10_week_11 : decode cX10_week 11 = .ok (.iconst (-1), 1) := by decide +kernel
theorem dX10_week_12 : decode cX10_week 12 = .ok (.if_icmp .eq 6, 3) := by decide +kernel
theorem dX10_week_15 : decode cX10_week 15 = .ok (.bipush (-4), 2) := by decide +kernel
theorem dX10_week_17 : decode cX10_week 17 = .ok (.ireturn, 1) := by decide +kernel
theorem dX10_week_18 : decode cX10_week 18 = .ok (.aload_n 0, 1) := by decide +kernel
theorem dX10_week_19 : decode cX10_week 19 = .ok (.getfield 19, 3) := by decide +kernel
theorem dX10_week_22 : decode cX10_week 22 = .ok (.invokevirtual 111, 3) := by decide +kernel
theorem dX10_week_25 : decode cX10_week 25 = .ok (.istore_n 1, 1) := by decide +kernel
theorem dX10_week_26 : decode cX10_week 26 = .ok (.iconst 0, 1) := by decide +kernel
theorem dX10_week_27 : decode cX10_week 27 = .ok (.istore_n 2, 1) := by decide +kernel
theorem dX10_week_28 : decode cX10_week 28 = .ok (.iload_n 2, 1) := by decide +kernel
theorem dX10_week_29 : decode cX10_week 29 = .ok (.iload_n 1, 1) := by decide +kernel
theorem dX10_week_30 : decode cX10_week 30 = .ok (.if_icmp .ge 32, 3) := by decide +kernel
theorem dX10_week_33 : decode cX10_week 33 = .ok (.aload_n 0, 1) := by decide +kernel
theorem dX10_week_34 : decode cX10_week 34 = .ok (.getfield 26, 3) := by decide +kernel
theorem dX10_week_37 : decode cX10_week 37 = .ok (.aload_n 0, 1) := by decide +kernel
theorem dX10_week_38 : decode cX10_week 38 = .ok (.getfield 19, 3) := by decide +kernel
theorem dX10_week_41 : decode cX10_week 41 = .ok (.iload_n 2, 1) := by decide +kernel
theorem dX10_week_42 : decode cX10_week 42 = .ok (.invokevirtual 114, 3) := by decide +kernel
theorem dX10_week_45 : decode cX10_week 45 = .ok (.aload_n 0, 1) := by decide +kernel
theorem dX10_week_46 : decode cX10_week 46 = .ok (.getfield 19, 3) := by decide +kernel
theorem dX10_week_49 : decode cX10_week 49 = .ok (.iload_n 2, 1) := by decide +kernel
theorem dX10_week_50 : decode cX10_week 50 = .ok (.invokevirtual 118, 3) := by decide +kernel
theorem dX10_week_53 : decode cX10_week 53 = .ok (.invokevirtual 122, 3) := by decide +kernel
theorem dX10_week_56 : decode cX10_week 56 = .ok (.iinc 2 1, 3) := by decide +kernel
theorem dX10_week_59 : decode cX10_week 59 = .ok (.goto (-31), 3) := by decide +kernel
theorem dX10_week_62 : decode cX10_week 62 = .ok (.aload_n 0, 1) := by decide +kernel
theorem dX10_week_63 : decode cX10_week 63 = .ok (.getfield 12, 3) := by decide +kernel
theorem dX10_week_66 : decode cX10_week 66 = .ok (.invokevirtual 104, 3) := by decide +kernel
theorem dX10_week_69 : decode cX10_week 69 = .ok (.aload_n 0, 1) := by decide +kernel
theorem dX10_week_70 : decode cX10_week 70 = .ok (.iconst 0, 1) := by decide +kernel
theorem dX10_week_71 : decode cX10_week 71 = .ok (.putfield 82, 3) := by decide +kernel
theorem dX10_week_74 : decode cX10_week 74 = .ok (.aload_n 0, 1) := by decide +kernel
theorem dX10_week_75 : decode cX10_week 75 = .ok (.getfield 50, 3) := by decide +kernel
theorem dX10_week_78 : decode cX10_week 78 = .ok (.invokevirtual 126, 3) := by decide +kernel
theorem dX10_week_81 : decode cX10_week 81 = .ok (.iload_n 1, 1) := by decide +kernel
theorem dX10_week_82 : decode cX10_week 82 = .ok (.ireturn, 1) := by decide +kernel
theorem dX10_room_0 : decode cX10_room 0 = .ok (.aload_n 0, 1) := by decide +kernel
theorem dX10_room_1 : decode cX10_room 1 = .ok (.getfield 26, 3) := by decide +kernel
theorem dX10_room_4 : decode cX10_room 4 = .ok (.iload_n 1, 1) := by decide +kernel
theorem dX10_room_5 : decode cX10_room 5 = .ok (.invokevirtual 129, 3) := by decide +kernel
theorem dX10_room_8 : decode cX10_room 8 = .ok (.ifCond .ne 6, 3) := by decide +kernel
theorem dX10_room_11 : decode cX10_room 11 = .ok (.bipush (-2), 2) := by decide +kernel
theorem dX10_room_13 : decode cX10_room 13 = .ok (.ireturn, 1) := by decide +kernel
theorem dX10_room_14 : decode cX10_room 14 = .ok (.iload_n 2, 1) := by decide +kernel
theorem dX10_room_15 : decode cX10_room 15 = .ok (.tableswitch 104 0 6 #[41, 50, 59, 68, 77, 86, 95], 41) := by decide +kernel
theorem dX10_room_56 : decode cX10_room 56 = .ok (.aload_n 0, 1) := by decide +kernel
theorem dX10_room_57 : decode cX10_room 57 = .ok (.getfield 26, 3) := by decide +kernel
theorem dX10_room_60 : decode cX10_room 60 = .ok (.iload_n 1, 1) := by decide +kernel
theorem dX10_room_61 : decode cX10_room 61 = .ok (.invokevirtual 132, 3) := by decide +kernel
theorem dX10_room_64 : decode cX10_room 64 = .ok (.ireturn, 1) := by decide +kernel
theorem dX10_room_65 : decode cX10_room 65 = .ok (.aload_n 0, 1) := by decide +kernel
theorem dX10_room_66 : decode cX10_room 66 = .ok (.getfield 26, 3) := by decide +kernel
theorem dX10_room_69 : decode cX10_room 69 = .ok (.iload_n 1, 1) := by decide +kernel
theorem dX10_room_70 : decode cX10_room 70 = .ok (.invokevirtual 135, 3) := by decide +kernel
theorem dX10_room_73 : decode cX10_room 73 = .ok (.ireturn, 1) := by decide +kernel
theorem dX10_room_74 : decode cX10_room 74 = .ok (.aload_n 0, 1) := by decide +kernel
theorem dX10_room_75 : decode cX10_room 75 = .ok (.getfield 26, 3) := by decide +kernel
theorem dX10_room_78 : decode cX10_room 78 = .ok (.iload_n 1, 1) := by decide +kernel
theorem dX10_room_79 : decode cX10_room 79 = .ok (.invokevirtual 138, 3) := by decide +kernel
theorem dX10_room_82 : decode cX10_room 82 = .ok (.ireturn, 1) := by decide +kernel
theorem dX10_room_83 : decode cX10_room 83 = .ok (.aload_n 0, 1) := by decide +kernel
theorem dX10_room_84 : decode cX10_room 84 = .ok (.getfield 26, 3) := by decide +kernel
theorem dX10_room_87 : decode cX10_room 87 = .ok (.iload_n 1, 1) := by decide +kernel
theorem dX10_room_88 : decode cX10_room 88 = .ok (.invokevirtual 141, 3) := by decide +kernel
theorem dX10_room_91 : decode cX10_room 91 = .ok (.ireturn, 1) := by decide +kernel
theorem dX10_room_92 : decode cX10_room 92 = .ok (.aload_n 0, 1) := by decide +kernel
theorem dX10_room_93 : decode cX10_room 93 = .ok (.getfield 26, 3) := by decide +kernel
theorem dX10_room_96 : decode cX10_room 96 = .ok (.iload_n 1, 1) := by decide +kernel
theorem dX10_room_97 : decode cX10_room 97 = .ok (.invokevirtual 144, 3) := by decide +kernel
theorem dX10_room_100 : decode cX10_room 100 = .ok (.ireturn, 1) := by decide +kernel
theorem dX10_room_101 : decode cX10_room 101 = .ok (.aload_n 0, 1) := by decide +kernel
theorem dX10_room_102 : decode cX10_room 102 = .ok (.getfield 26, 3) := by decide +kernel
theorem dX10_room_105 : decode cX10_room 105 = .ok (.iload_n 1, 1) := by decide +kernel
theorem dX10_room_106 : decode cX10_room 106 = .ok (.invokevirtual 147, 3) := by decide +kernel
theorem dX10_room_109 : decode cX10_room 109 = .ok (.ireturn, 1) := by decide +kernel
theorem dX10_room_110 : decode cX10_room 110 = .ok (.aload_n 0, 1) := by decide +kernel
theorem dX10_room_111 : decode cX10_room 111 = .ok (.getfield 26, 3) := by decide +kernel
theorem dX10_room_114 : decode cX10_room 114 = .ok (.iload_n 1, 1) := by decide +kernel
theorem dX10_room_115 : decode cX10_room 115 = .ok (.invokevirtual 150, 3) := by decide +kernel
theorem dX10_room_118 : decode cX10_room 118 = .ok (.ireturn, 1) := by decide +kernel
theorem dX10_room_119 : decode cX10_room 119 = .ok (.bipush (-3), 2) := by decide +kernel
theorem dX10_room_121 : decode cX10_room 121 = .ok (.ireturn, 1) := by decide +kernel
theorem dX10_door_0 : decode cX10_door 0 = .ok (.iload_n 1, 1) := by decide +kernel
theorem dX10_door_1 : decode cX10_door 1 = .ok (.invokestatic 153, 3) := by decide +kernel
theorem dX10_door_4 : decode cX10_door 4 = .ok (.ifCond .eq 15, 3) := by decide +kernel
theorem dX10_door_7 : decode cX10_door 7 = .ok (.iload_n 2, 1) := by decide +kernel
theorem dX10_door_8 : decode cX10_door 8 = .ok (.invokestatic 153, 3) := by decide +kernel
theorem dX10_door_11 : decode cX10_door 11 = .ok (.ifCond .eq 8, 3) := by decide +kernel
theorem dX10_door_14 : decode cX10_door 14 = .ok (.iload_n 1, 1) := by decide +kernel
theorem dX10_door_15 : decode cX10_door 15 = .ok (.iload_n 2, 1) := by decide +kernel
theorem dX10_door_16 : decode cX10_door 16 = .ok (.if_icmp .ne 6, 3) := by decide +kernel
theorem dX10_door_19 : decode cX10_door 19 = .ok (.bipush (-2), 2) := by decide +kernel
theorem dX10_door_21 : decode cX10_door 21 = .ok (.ireturn, 1) := by decide +kernel
theorem dX10_door_22 : decode cX10_door 22 = .ok (.aload_n 0, 1) := by decide +kernel
theorem dX10_door_23 : decode cX10_door 23 = .ok (.getfield 26, 3) := by decide +kernel
theorem dX10_door_26 : decode cX10_door 26 = .ok (.iload_n 1, 1) := by decide +kernel
theorem dX10_door_27 : decode cX10_door 27 = .ok (.iload_n 2, 1) := by decide +kernel
theorem dX10_door_28 : decode cX10_door 28 = .ok (.invokevirtual 156, 3) := by decide +kernel
theorem dX10_door_31 : decode cX10_door 31 = .ok (.ireturn, 1) := by decide +kernel
theorem dX10_out_0 : decode cX10_out 0 = .ok (.iload_n 1, 1) := by decide +kernel
theorem dX10_out_1 : decode cX10_out 1 = .ok (.invokestatic 160, 3) := by decide +kernel
theorem dX10_out_4 : decode cX10_out 4 = .ok (.ifCond .eq 14, 3) := by decide +kernel
theorem dX10_out_7 : decode cX10_out 7 = .ok (.aload_n 0, 1) := by decide +kernel
theorem dX10_out_8 : decode cX10_out 8 = .ok (.getfield 26, 3) := by decide +kernel
theorem dX10_out_11 : decode cX10_out 11 = .ok (.iload_n 1, 1) := by decide +kernel
theorem dX10_out_12 : decode cX10_out 12 = .ok (.invokevirtual 163, 3) := by decide +kernel
theorem dX10_out_15 : decode cX10_out 15 = .ok (.goto 5, 3) := by decide +kernel
theorem dX10_out_18 : decode cX10_out 18 = .ok (.bipush (-2), 2) := by decide +kernel
theorem dX10_out_20 : decode cX10_out 20 = .ok (.ireturn, 1) := by decide +kernel
theorem dX10_warm_0 : decode cX10_warm 0 = .ok (.aload_n 0, 1) := by decide +kernel
theorem dX10_warm_1 : decode cX10_warm 1 = .ok (.getfield 26, 3) := by decide +kernel
theorem dX10_warm_4 : decode cX10_warm 4 = .ok (.iload_n 1, 1) := by decide +kernel
theorem dX10_warm_5 : decode cX10_warm 5 = .ok (.invokevirtual 129, 3) := by decide +kernel
theorem dX10_warm_8 : decode cX10_warm 8 = .ok (.ifCond .eq 10, 3) := by decide +kernel
theorem dX10_warm_11 : decode cX10_warm 11 = .ok (.iload_n 2, 1) := by decide +kernel
theorem dX10_warm_12 : decode cX10_warm 12 = .ok (.invokestatic 160, 3) := by decide +kernel
theorem dX10_warm_15 : decode cX10_warm 15 = .ok (.ifCond .ne 6, 3) := by decide +kernel
theorem dX10_warm_18 : decode cX10_warm 18 = .ok (.bipush (-2), 2) := by decide +kernel
theorem dX10_warm_20 : decode cX10_warm 20 = .ok (.ireturn, 1) := by decide +kernel
theorem dX10_warm_21 : decode cX10_warm 21 = .ok (.iload_n 3, 1) := by decide +kernel
theorem dX10_warm_22 : decode cX10_warm 22 = .ok (.tableswitch 56 0 2 #[26, 36, 46], 26) := by decide +kernel
theorem dX10_warm_48 : decode cX10_warm 48 = .ok (.aload_n 0, 1) := by decide +kernel
theorem dX10_warm_49 : decode cX10_warm 49 = .ok (.invokevirtual 166, 3) := by decide +kernel
theorem dX10_warm_52 : decode cX10_warm 52 = .ok (.iload_n 1, 1) := by decide +kernel
theorem dX10_warm_53 : decode cX10_warm 53 = .ok (.iload_n 2, 1) := by decide +kernel
theorem dX10_warm_54 : decode cX10_warm 54 = .ok (.invokevirtual 170, 3) := by decide +kernel
theorem dX10_warm_57 : decode cX10_warm 57 = .ok (.ireturn, 1) := by decide +kernel
theorem dX10_warm_58 : decode cX10_warm 58 = .ok (.aload_n 0, 1) := by decide +kernel
theorem dX10_warm_59 : decode cX10_warm 59 = .ok (.invokevirtual 166, 3) := by decide +kernel
theorem dX10_warm_62 : decode cX10_warm 62 = .ok (.iload_n 1, 1) := by decide +kernel
theorem dX10_warm_63 : decode cX10_warm 63 = .ok (.iload_n 2, 1) := by decide +kernel
theorem dX10_warm_64 : decode cX10_warm 64 = .ok (.invokevirtual 173, 3) := by decide +kernel
theorem dX10_warm_67 : decode cX10_warm 67 = .ok (.ireturn, 1) := by decide +kernel
theorem dX10_warm_68 : decode cX10_warm 68 = .ok (.aload_n 0, 1) := by decide +kernel
theorem dX10_warm_69 : decode cX10_warm 69 = .ok (.invokevirtual 166, 3) := by decide +kernel
theorem dX10_warm_72 : decode cX10_warm 72 = .ok (.iload_n 1, 1) := by decide +kernel
theorem dX10_warm_73 : decode cX10_warm 73 = .ok (.iload_n 2, 1) := by decide +kernel
theorem dX10_warm_74 : decode cX10_warm 74 = .ok (.invokevirtual 176, 3) := by decide +kernel
theorem dX10_warm_77 : decode cX10_warm 77 = .ok (.ireturn, 1) := by decide +kernel
theorem dX10_warm_78 : decode cX10_warm 78 = .ok (.bipush (-3), 2) := by decide +kernel
theorem dX10_warm_80 : decode cX10_warm 80 = .ok (.ireturn, 1) := by decide +kernel
theorem dX10_night_0 : decode cX10_night 0 = .ok (.iload_n 1, 1) := by decide +kernel
theorem dX10_night_1 : decode cX10_night 1 = .ok (.iconst (-1), 1) := by decide +kernel
theorem dX10_night_2 : decode cX10_night 2 = .ok (.if_icmp .ne 15, 3) := by decide +kernel
theorem dX10_night_5 : decode cX10_night 5 = .ok (.aload_n 0, 1) := by decide +kernel
theorem dX10_night_6 : decode cX10_night 6 = .ok (.invokevirtual 166, 3) := by decide +kernel
theorem dX10_night_9 : decode cX10_night 9 = .ok (.aload_n 0, 1) := by decide +kernel
theorem dX10_night_10 : decode cX10_night 10 = .ok (.getfield 26, 3) := by decide +kernel
theorem dX10_night_13 : decode cX10_night 13 = .ok (.invokevirtual 179, 3) := by decide +kernel
theorem dX10_night_16 : decode cX10_night 16 = .ok (.ireturn, 1) := by decide +kernel
theorem dX10_night_17 : decode cX10_night 17 = .ok (.aload_n 0, 1) := by decide +kernel
theorem dX10_night_18 : decode cX10_night 18 = .ok (.getfield 26, 3) := by decide +kernel
theorem dX10_night_21 : decode cX10_night 21 = .ok (.iload_n 1, 1) := by decide +kernel
theorem dX10_night_22 : decode cX10_night 22 = .ok (.invokevirtual 129, 3) := by decide +kernel
theorem dX10_night_25 : decode cX10_night 25 = .ok (.ifCond .eq 14, 3) := by decide +kernel
theorem dX10_night_28 : decode cX10_night 28 = .ok (.aload_n 0, 1) := by decide +kernel
theorem dX10_night_29 : decode cX10_night 29 = .ok (.invokevirtual 166, 3) := by decide +kernel
theorem dX10_night_32 : decode cX10_night 32 = .ok (.iload_n 1, 1) := by decide +kernel
theorem dX10_night_33 : decode cX10_night 33 = .ok (.invokevirtual 183, 3) := by decide +kernel
theorem dX10_night_36 : decode cX10_night 36 = .ok (.goto 5, 3) := by decide +kernel
theorem dX10_night_39 : decode cX10_night 39 = .ok (.bipush (-2), 2) := by decide +kernel
theorem dX10_night_41 : decode cX10_night 41 = .ok (.ireturn, 1) := by decide +kernel
theorem dX10_above_0 : decode cX10_above 0 = .ok (.aload_n 0, 1) := by decide +kernel
theorem dX10_above_1 : decode cX10_above 1 = .ok (.getfield 26, 3) := by decide +kernel
theorem dX10_above_4 : decode cX10_above 4 = .ok (.iload_n 1, 1) := by decide +kernel
theorem dX10_above_5 : decode cX10_above 5 = .ok (.invokevirtual 129, 3) := by decide +kernel
theorem dX10_above_8 : decode cX10_above 8 = .ok (.ifCond .ne 6, 3) := by decide +kernel
theorem dX10_above_11 : decode cX10_above 11 = .ok (.bipush (-2), 2) := by decide +kernel
theorem dX10_above_13 : decode cX10_above 13 = .ok (.ireturn, 1) := by decide +kernel
theorem dX10_above_14 : decode cX10_above 14 = .ok (.iload_n 2, 1) := by decide +kernel
theorem dX10_above_15 : decode cX10_above 15 = .ok (.sipush (-999), 3) := by decide +kernel
theorem dX10_above_18 : decode cX10_above 18 = .ok (.sipush 9999, 3) := by decide +kernel
theorem dX10_above_21 : decode cX10_above 21 = .ok (.invokestatic 86, 3) := by decide +kernel
theorem dX10_above_24 : decode cX10_above 24 = .ok (.ifCond .ne 6, 3) := by decide +kernel
theorem dX10_above_27 : decode cX10_above 27 = .ok (.bipush (-3), 2) := by decide +kernel
theorem dX10_above_29 : decode cX10_above 29 = .ok (.ireturn, 1) := by decide +kernel
theorem dX10_above_30 : decode cX10_above 30 = .ok (.aload_n 0, 1) := by decide +kernel
theorem dX10_above_31 : decode cX10_above 31 = .ok (.invokevirtual 166, 3) := by decide +kernel
theorem dX10_above_34 : decode cX10_above 34 = .ok (.iload_n 1, 1) := by decide +kernel
theorem dX10_above_35 : decode cX10_above 35 = .ok (.iload_n 2, 1) := by decide +kernel
theorem dX10_above_36 : decode cX10_above 36 = .ok (.invokevirtual 186, 3) := by decide +kernel
theorem dX10_above_39 : decode cX10_above 39 = .ok (.ireturn, 1) := by decide +kernel
theorem dX10_costs_0 : decode cX10_costs 0 = .ok (.aload_n 0, 1) := by decide +kernel
theorem dX10_costs_1 : decode cX10_costs 1 = .ok (.getfield 26, 3) := by decide +kernel
theorem dX10_costs_4 : decode cX10_costs 4 = .ok (.iload_n 1, 1) := by decide +kernel
theorem dX10_costs_5 : decode cX10_costs 5 = .ok (.invokevirtual 129, 3) := by decide +kernel
theorem dX10_costs_8 : decode cX10_costs 8 = .ok (.ifCond .ne 6, 3) := by decide +kernel
theorem dX10_costs_11 : decode cX10_costs 11 = .ok (.bipush (-2), 2) := by decide +kernel
theorem dX10_costs_13 : decode cX10_costs 13 = .ok (.ireturn, 1) := by decide +kernel
theorem dX10_costs_14 : decode cX10_costs 14 = .ok (.aload_n 0, 1) := by decide +kernel
theorem dX10_costs_15 : decode cX10_costs 15 = .ok (.getfield 33, 3) := by decide +kernel
theorem dX10_costs_18 : decode cX10_costs 18 = .ok (.aload_n 0, 1) := by decide +kernel
theorem dX10_costs_19 : decode cX10_costs 19 = .ok (.getfield 26, 3) := by decide +kernel
theorem dX10_costs_22 : decode cX10_costs 22 = .ok (.invokevirtual 189, 3) := by decide +kernel
theorem dX10_costs_25 : decode cX10_costs 25 = .ok (.aload_n 0, 1) := by decide +kernel
theorem dX10_costs_26 : decode cX10_costs 26 = .ok (.getfield 33, 3) := by decide +kernel
theorem dX10_costs_29 : decode cX10_costs 29 = .ok (.iload_n 1, 1) := by decide +kernel
theorem dX10_costs_30 : decode cX10_costs 30 = .ok (.iconst 1, 1) := by decide +kernel
theorem dX10_costs_31 : decode cX10_costs 31 = .ok (.invokevirtual 193, 3) := by decide +kernel
theorem dX10_costs_34 : decode cX10_costs 34 = .ok (.aload_n 0, 1) := by decide +kernel
theorem dX10_costs_35 : decode cX10_costs 35 = .ok (.getfield 44, 3) := by decide +kernel
theorem dX10_costs_38 : decode cX10_costs 38 = .ok (.aload_n 0, 1) := by decide +kernel
theorem dX10_costs_39 : decode cX10_costs 39 = .ok (.getfield 26, 3) := by decide +kernel
theorem dX10_costs_42 : decode cX10_costs 42 = .ok (.aload_n 0, 1) := by decide +kernel
theorem dX10_costs_43 : decode cX10_costs 43 = .ok (.getfield 33, 3) := by decide +kernel
theorem dX10_costs_46 : decode cX10_costs 46 = .ok (.invokevirtual 197, 3) := by decide +kernel
theorem dX10_costs_49 : decode cX10_costs 49 = .ok (.ldc 201, 2) := by decide +kernel
theorem dX10_costs_51 : decode cX10_costs 51 = .ok (.aload_n 0, 1) := by decide +kernel
theorem dX10_costs_52 : decode cX10_costs 52 = .ok (.invokevirtual 166, 3) := by decide +kernel
theorem dX10_costs_55 : decode cX10_costs 55 = .ok (.aload_n 0, 1) := by decide +kernel
theorem dX10_costs_56 : decode cX10_costs 56 = .ok (.getfield 26, 3) := by decide +kernel
theorem dX10_costs_59 : decode cX10_costs 59 = .ok (.invokevirtual 179, 3) := by decide +kernel
theorem dX10_costs_62 : decode cX10_costs 62 = .ok (.iadd, 1) := by decide +kernel
theorem dX10_costs_63 : decode cX10_costs 63 = .ok (.aload_n 0, 1) := by decide +kernel
theorem dX10_costs_64 : decode cX10_costs 64 = .ok (.getfield 44, 3) := by decide +kernel
theorem dX10_costs_67 : decode cX10_costs 67 = .ok (.aload_n 0, 1) := by decide +kernel
theorem dX10_costs_68 : decode cX10_costs 68 = .ok (.getfield 26, 3) := by decide +kernel
theorem dX10_costs_71 : decode cX10_costs 71 = .ok (.invokevirtual 179, 3) := by decide +kernel
theorem dX10_costs_74 : decode cX10_costs 74 = .ok (.isub, 1) := by decide +kernel
theorem dX10_costs_75 : decode cX10_costs 75 = .ok (.ireturn, 1) := by decide +kernel
theorem dX10_clock_0 : decode cX10_clock 0 = .ok (.iload_n 1, 1) := by decide +kernel
theorem dX10_clock_1 : decode cX10_clock 1 = .ok (.iconst 0, 1) := by decide +kernel
theorem dX10_clock_2 : decode cX10_clock 2 = .ok (.iconst 3, 1) := by decide +kernel
theorem dX10_clock_3 : decode cX10_clock 3 = .ok (.invokestatic 86, 3) := by decide +kernel
theorem dX10_clock_6 : decode cX10_clock 6 = .ok (.ifCond .ne 6, 3) := by decide +kernel
theorem dX10_clock_9 : decode cX10_clock 9 = .ok (.bipush (-3), 2) := by decide +kernel
theorem dX10_clock_11 : decode cX10_clock 11 = .ok (.ireturn, 1) := by decide +kernel
theorem dX10_clock_12 : decode cX10_clock 12 = .ok (.aload_n 0, 1) := by decide +kernel
theorem dX10_clock_13 : decode cX10_clock 13 = .ok (.getfield 50, 3) := by decide +kernel
theorem dX10_clock_16 : decode cX10_clock 16 = .ok (.aload_n 0, 1) := by decide +kernel
theorem dX10_clock_17 : decode cX10_clock 17 = .ok (.getfield 26, 3) := by decide +kernel
theorem dX10_clock_20 : decode cX10_clock 20 = .ok (.aload_n 0, 1) := by decide +kernel
theorem dX10_clock_21 : decode cX10_clock 21 = .ok (.getfield 33, 3) := by decide +kernel
theorem dX10_clock_24 : decode cX10_clock 24 = .ok (.aload_n 0, 1) := by decide +kernel
theorem dX10_clock_25 : decode cX10_clock 25 = .ok (.getfield 44, 3) := by decide +kernel
theorem dX10_clock_28 : decode cX10_clock 28 = .ok (.invokevirtual 202, 3) := by decide +kernel
theorem dX10_clock_31 : decode cX10_clock 31 = .ok (.iload_n 1, 1) := by decide +kernel
theorem dX10_clock_32 : decode cX10_clock 32 = .ok (.tableswitch 52 0 2 #[28, 36, 44], 28) := by decide +kernel
theorem dX10_clock_60 : decode cX10_clock 60 = .ok (.aload_n 0, 1) := by decide +kernel
theorem dX10_clock_61 : decode cX10_clock 61 = .ok (.getfield 50, 3) := by decide +kernel
theorem dX10_clock_64 : decode cX10_clock 64 = .ok (.invokevirtual 206, 3) := by decide +kernel
theorem dX10_clock_67 : decode cX10_clock 67 = .ok (.ireturn, 1) := by decide +kernel
theorem dX10_clock_68 : decode cX10_clock 68 = .ok (.aload_n 0, 1) := by decide +kernel
theorem dX10_clock_69 : decode cX10_clock 69 = .ok (.getfield 50, 3) := by decide +kernel
theorem dX10_clock_72 : decode cX10_clock 72 = .ok (.invokevirtual 209, 3) := by decide +kernel
theorem dX10_clock_75 : decode cX10_clock 75 = .ok (.ireturn, 1) := by decide +kernel
theorem dX10_clock_76 : decode cX10_clock 76 = .ok (.aload_n 0, 1) := by decide +kernel
theorem dX10_clock_77 : decode cX10_clock 77 = .ok (.getfield 50, 3) := by decide +kernel
theorem dX10_clock_80 : decode cX10_clock 80 = .ok (.invokevirtual 212, 3) := by decide +kernel
theorem dX10_clock_83 : decode cX10_clock 83 = .ok (.ireturn, 1) := by decide +kernel
theorem dX10_clock_84 : decode cX10_clock 84 = .ok (.ldc 201, 2) := by decide +kernel
theorem dX10_clock_86 : decode cX10_clock 86 = .ok (.aload_n 0, 1) := by decide +kernel
theorem dX10_clock_87 : decode cX10_clock 87 = .ok (.getfield 50, 3) := by decide +kernel
theorem dX10_clock_90 : decode cX10_clock 90 = .ok (.invokevirtual 214, 3) := by decide +kernel
theorem dX10_clock_93 : decode cX10_clock 93 = .ok (.iadd, 1) := by decide +kernel
theorem dX10_clock_94 : decode cX10_clock 94 = .ok (.ireturn, 1) := by decide +kernel
theorem dX10_work_0 : decode cX10_work 0 = .ok (.iload_n 1, 1) := by decide +kernel
theorem dX10_work_1 : decode cX10_work 1 = .ok (.invokestatic 153, 3) := by decide +kernel
theorem dX10_work_4 : decode cX10_work 4 = .ok (.ifCond .ne 6, 3) := by decide +kernel
theorem dX10_work_7 : decode cX10_work 7 = .ok (.bipush (-2), 2) := by decide +kernel
theorem dX10_work_9 : decode cX10_work 9 = .ok (.ireturn, 1) := by decide +kernel
theorem dX10_work_10 : decode cX10_work 10 = .ok (.iload_n 2, 1) := by decide +kernel
theorem dX10_work_11 : decode cX10_work 11 = .ok (.iconst 1, 1) := by decide +kernel
theorem dX10_work_12 : decode cX10_work 12 = .ok (.sipush 999, 3) := by decide +kernel
theorem dX10_work_15 : decode cX10_work 15 = .ok (.invokestatic 86, 3) := by decide +kernel
theorem dX10_work_18 : decode cX10_work 18 = .ok (.ifCond .eq 24, 3) := by decide +kernel
theorem dX10_work_21 : decode cX10_work 21 = .ok (.iload_n 3, 1) := by decide +kernel
theorem dX10_work_22 : decode cX10_work 22 = .ok (.iconst 0, 1) := by decide +kernel
theorem dX10_work_23 : decode cX10_work 23 = .ok (.bipush 100, 2) := by decide +kernel
theorem dX10_work_25 : decode cX10_work 25 = .ok (.invokestatic 86, 3) := by decide +kernel
theorem dX10_work_28 : decode cX10_work 28 = .ok (.ifCond .eq 14, 3) := by decide +kernel
theorem dX10_work_31 : decode cX10_work 31 = .ok (.iload 4, 2) := by decide +kernel
theorem dX10_work_33 : decode cX10_work 33 = .ok (.iconst 0, 1) := by decide +kernel
theorem dX10_work_34 : decode cX10_work 34 = .ok (.bipush 20, 2) := by decide +kernel
theorem dX10_work_36 : decode cX10_work 36 = .ok (.invokestatic 86, 3) := by decide +kernel
theorem dX10_work_39 : decode cX10_work 39 = .ok (.ifCond .ne 6, 3) := by decide +kernel
theorem dX10_work_42 : decode cX10_work 42 = .ok (.bipush (-3), 2) := by decide +kernel
theorem dX10_work_44 : decode cX10_work 44 = .ok (.ireturn, 1) := by decide +kernel
theorem dX10_work_45 : decode cX10_work 45 = .ok (.aload_n 0, 1) := by decide +kernel
theorem dX10_work_46 : decode cX10_work 46 = .ok (.getfield 57, 3) := by decide +kernel
theorem dX10_work_49 : decode cX10_work 49 = .ok (.invokevirtual 217, 3) := by decide +kernel
theorem dX10_work_52 : decode cX10_work 52 = .ok (.ifCond .eq 8, 3) := by decide +kernel
theorem dX10_work_55 : decode cX10_work 55 = .ok (.bipush (-5), 2) := by decide +kernel
theorem dX10_work_57 : decode cX10_work 57 = .ok (.goto 15, 3) := by decide +kernel
theorem dX10_work_60 : decode cX10_work 60 = .ok (.aload_n 0, 1) := by decide +kernel
theorem dX10_work_61 : decode cX10_work 61 = .ok (.getfield 57, 3) := by decide +kernel
theorem dX10_work_64 : decode cX10_work 64 = .ok (.iload_n 1, 1) := by decide +kernel
theorem dX10_work_65 : decode cX10_work 65 = .ok (.iload_n 2, 1) := by decide +kernel
theorem dX10_work_66 : decode cX10_work 66 = .ok (.iload_n 3, 1) := by decide +kernel
theorem dX10_work_67 : decode cX10_work 67 = .ok (.iload 4, 2) := by decide +kernel
theorem dX10_work_69 : decode cX10_work 69 = .ok (.invokevirtual 221, 3) := by decide +kernel
theorem dX10_work_72 : decode cX10_work 72 = .ok (.ireturn, 1) := by decide +kernel
theorem dX10_works_0 : decode cX10_works 0 = .ok (.iload_n 1, 1) := by decide +kernel
theorem dX10_works_1 : decode cX10_works 1 = .ok (.iconst 0, 1) := by decide +kernel
theorem dX10_works_2 : decode cX10_works 2 = .ok (.sipush 9999, 3) := by decide +kernel
theorem dX10_works_5 : decode cX10_works 5 = .ok (.invokestatic 86, 3) := by decide +kernel
theorem dX10_works_8 : decode cX10_works 8 = .ok (.ifCond .eq 12, 3) := by decide +kernel
theorem dX10_works_11 : decode cX10_works 11 = .ok (.iload_n 2, 1) := by decide +kernel
theorem dX10_works_12 : decode cX10_works 12 = .ok (.iconst 0, 1) := by decide +kernel
theorem dX10_works_13 : decode cX10_works 13 = .ok (.iconst 1, 1) := by decide +kernel
theorem dX10_works_14 : decode cX10_works 14 = .ok (.invokestatic 86, 3) := by decide +kernel
theorem dX10_works_17 : decode cX10_works 17 = .ok (.ifCond .ne 6, 3) := by decide +kernel
theorem dX10_works_20 : decode cX10_works 20 = .ok (.bipush (-3), 2) := by decide +kernel
theorem dX10_works_22 : decode cX10_works 22 = .ok (.ireturn, 1) := by decide +kernel
theorem dX10_works_23 : decode cX10_works 23 = .ok (.aload_n 0, 1) := by decide +kernel
theorem dX10_works_24 : decode cX10_works 24 = .ok (.getfield 57, 3) := by decide +kernel
theorem dX10_works_27 : decode cX10_works 27 = .ok (.iload_n 1, 1) := by decide +kernel
theorem dX10_works_28 : decode cX10_works 28 = .ok (.aload_n 0, 1) := by decide +kernel
theorem dX10_works_29 : decode cX10_works 29 = .ok (.getfield 26, 3) := by decide +kernel
theorem dX10_works_32 : decode cX10_works 32 = .ok (.aload_n 0, 1) := by decide +kernel
theorem dX10_works_33 : decode cX10_works 33 = .ok (.getfield 33, 3) := by decide +kernel
theorem dX10_works_36 : decode cX10_works 36 = .ok (.aload_n 0, 1) := by decide +kernel
theorem dX10_works_37 : decode cX10_works 37 = .ok (.getfield 44, 3) := by decide +kernel
theorem dX10_works_40 : decode cX10_works 40 = .ok (.invokevirtual 224, 3) := by decide +kernel
theorem dX10_works_43 : decode cX10_works 43 = .ok (.iload_n 2, 1) := by decide +kernel
theorem dX10_works_44 : decode cX10_works 44 = .ok (.ifCond .ne 13, 3) := by decide +kernel
theorem dX10_works_47 : decode cX10_works 47 = .ok (.aload_n 0, 1) := by decide +kernel
theorem dX10_works_48 : decode cX10_works 48 = .ok (.getfield 57, 3) := by decide +kernel
theorem dX10_works_51 : decode cX10_works 51 = .ok (.invokevirtual 228, 3) := by decide +kernel
theorem dX10_works_54 : decode cX10_works 54 = .ok (.goto 10, 3) := by decide +kernel
theorem dX10_works_57 : decode cX10_works 57 = .ok (.aload_n 0, 1) := by decide +kernel
theorem dX10_works_58 : decode cX10_works 58 = .ok (.getfield 57, 3) := by decide +kernel
theorem dX10_works_61 : decode cX10_works 61 = .ok (.invokevirtual 231, 3) := by decide +kernel
theorem dX10_works_64 : decode cX10_works 64 = .ok (.ireturn, 1) := by decide +kernel
theorem dX10_read_0 : decode cX10_read 0 = .ok (.iload_n 1, 1) := by decide +kernel
theorem dX10_read_1 : decode cX10_read 1 = .ok (.invokestatic 153, 3) := by decide +kernel
theorem dX10_read_4 : decode cX10_read 4 = .ok (.ifCond .eq 10, 3) := by decide +kernel
theorem dX10_read_7 : decode cX10_read 7 = .ok (.iload_n 2, 1) := by decide +kernel
theorem dX10_read_8 : decode cX10_read 8 = .ok (.invokestatic 160, 3) := by decide +kernel
theorem dX10_read_11 : decode cX10_read 11 = .ok (.ifCond .ne 6, 3) := by decide +kernel
theorem dX10_read_14 : decode cX10_read 14 = .ok (.bipush (-2), 2) := by decide +kernel
theorem dX10_read_16 : decode cX10_read 16 = .ok (.ireturn, 1) := by decide +kernel
theorem dX10_read_17 : decode cX10_read 17 = .ok (.iload_n 3, 1) := by decide +kernel
theorem dX10_read_18 : decode cX10_read 18 = .ok (.sipush (-999), 3) := by decide +kernel
theorem dX10_read_21 : decode cX10_read 21 = .ok (.sipush 9999, 3) := by decide +kernel
theorem dX10_read_24 : decode cX10_read 24 = .ok (.invokestatic 86, 3) := by decide +kernel
theorem dX10_read_27 : decode cX10_read 27 = .ok (.ifCond .ne 6, 3) := by decide +kernel
theorem dX10_read_30 : decode cX10_read 30 = .ok (.bipush (-3), 2) := by decide +kernel
theorem dX10_read_32 : decode cX10_read 32 = .ok (.ireturn, 1) := by decide +kernel
theorem dX10_read_33 : decode cX10_read 33 = .ok (.aload_n 0, 1) := by decide +kernel
theorem dX10_read_34 : decode cX10_read 34 = .ok (.getfield 64, 3) := by decide +kernel
theorem dX10_read_37 : decode cX10_read 37 = .ok (.invokevirtual 234, 3) := by decide +kernel
theorem dX10_read_40 : decode cX10_read 40 = .ok (.ifCond .eq 8, 3) := by decide +kernel
theorem dX10_read_43 : decode cX10_read 43 = .ok (.bipush (-5), 2) := by decide +kernel
theorem dX10_read_45 : decode cX10_read 45 = .ok (.goto 13, 3) := by decide +kernel
theorem dX10_read_48 : decode cX10_read 48 = .ok (.aload_n 0, 1) := by decide +kernel
theorem dX10_read_49 : decode cX10_read 49 = .ok (.getfield 64, 3) := by decide +kernel
theorem dX10_read_52 : decode cX10_read 52 = .ok (.iload_n 1, 1) := by decide +kernel
theorem dX10_read_53 : decode cX10_read 53 = .ok (.iload_n 2, 1) := by decide +kernel
theorem dX10_read_54 : decode cX10_read 54 = .ok (.iload_n 3, 1) := by decide +kernel
theorem dX10_read_55 : decode cX10_read 55 = .ok (.invokevirtual 235, 3) := by decide +kernel
theorem dX10_read_58 : decode cX10_read 58 = .ok (.ireturn, 1) := by decide +kernel
theorem dX10_learnt_0 : decode cX10_learnt 0 = .ok (.iload_n 1, 1) := by decide +kernel
theorem dX10_learnt_1 : decode cX10_learnt 1 = .ok (.iconst 0, 1) := by decide +kernel
theorem dX10_learnt_2 : decode cX10_learnt 2 = .ok (.sipush 999, 3) := by decide +kernel
theorem dX10_learnt_5 : decode cX10_learnt 5 = .ok (.invokestatic 86, 3) := by decide +kernel
theorem dX10_learnt_8 : decode cX10_learnt 8 = .ok (.ifCond .eq 12, 3) := by decide +kernel
theorem dX10_learnt_11 : decode cX10_learnt 11 = .ok (.iload_n 2, 1) := by decide +kernel
theorem dX10_learnt_12 : decode cX10_learnt 12 = .ok (.iconst 0, 1) := by decide +kernel
theorem dX10_learnt_13 : decode cX10_learnt 13 = .ok (.iconst 4, 1) := by decide +kernel
theorem dX10_learnt_14 : decode cX10_learnt 14 = .ok (.invokestatic 86, 3) := by decide +kernel
theorem dX10_learnt_17 : decode cX10_learnt 17 = .ok (.ifCond .ne 6, 3) := by decide +kernel
theorem dX10_learnt_20 : decode cX10_learnt 20 = .ok (.bipush (-3), 2) := by decide +kernel
theorem dX10_learnt_22 : decode cX10_learnt 22 = .ok (.ireturn, 1) := by decide +kernel
theorem dX10_learnt_23 : decode cX10_learnt 23 = .ok (.aload_n 0, 1) := by decide +kernel
theorem dX10_learnt_24 : decode cX10_learnt 24 = .ok (.getfield 64, 3) := by decide +kernel
theorem dX10_learnt_27 : decode cX10_learnt 27 = .ok (.iload_n 1, 1) := by decide +kernel
theorem dX10_learnt_28 : decode cX10_learnt 28 = .ok (.aload_n 0, 1) := by decide +kernel
theorem dX10_learnt_29 : decode cX10_learnt 29 = .ok (.getfield 26, 3) := by decide +kernel
theorem dX10_learnt_32 : decode cX10_learnt 32 = .ok (.aload_n 0, 1) := by decide +kernel
theorem dX10_learnt_33 : decode cX10_learnt 33 = .ok (.getfield 33, 3) := by decide +kernel
theorem dX10_learnt_36 : decode cX10_learnt 36 = .ok (.aload_n 0, 1) := by decide +kernel
theorem dX10_learnt_37 : decode cX10_learnt 37 = .ok (.getfield 44, 3) := by decide +kernel
theorem dX10_learnt_40 : decode cX10_learnt 40 = .ok (.invokevirtual 238, 3) := by decide +kernel
theorem dX10_learnt_43 : decode cX10_learnt 43 = .ok (.iload_n 2, 1) := by decide +kernel
theorem dX10_learnt_44 : decode cX10_learnt 44 = .ok (.ifCond .ne 11, 3) := by decide +kernel
theorem dX10_learnt_47 : decode cX10_learnt 47 = .ok (.aload_n 0, 1) := by decide +kernel
theorem dX10_learnt_48 : decode cX10_learnt 48 = .ok (.getfield 64, 3) := by decide +kernel
theorem dX10_learnt_51 : decode cX10_learnt 51 = .ok (.invokevirtual 241, 3) := by decide +kernel
theorem dX10_learnt_54 : decode cX10_learnt 54 = .ok (.ireturn, 1) := by decide +kernel
theorem dX10_learnt_55 : decode cX10_learnt 55 = .ok (.aload_n 0, 1) := by decide +kernel
theorem dX10_learnt_56 : decode cX10_learnt 56 = .ok (.getfield 64, 3) := by decide +kernel
theorem dX10_learnt_59 : decode cX10_learnt 59 = .ok (.invokevirtual 241, 3) := by decide +kernel
theorem dX10_learnt_62 : decode cX10_learnt 62 = .ok (.ifCond .ne 7, 3) := by decide +kernel
theorem dX10_learnt_65 : decode cX10_learnt 65 = .ok (.iconst (-1), 1) := by decide +kernel
theorem dX10_learnt_66 : decode cX10_learnt 66 = .ok (.goto 11, 3) := by decide +kernel
theorem dX10_learnt_69 : decode cX10_learnt 69 = .ok (.aload_n 0, 1) := by decide +kernel
theorem dX10_learnt_70 : decode cX10_learnt 70 = .ok (.getfield 64, 3) := by decide +kernel
theorem dX10_learnt_73 : decode cX10_learnt 73 = .ok (.iload_n 2, 1) := by decide +kernel
theorem dX10_learnt_74 : decode cX10_learnt 74 = .ok (.invokevirtual 244, 3) := by decide +kernel
theorem dX10_learnt_77 : decode cX10_learnt 77 = .ok (.ireturn, 1) := by decide +kernel
theorem dX10_flat_0 : decode cX10_flat 0 = .ok (.iload_n 1, 1) := by decide +kernel
theorem dX10_flat_1 : decode cX10_flat 1 = .ok (.iconst 0, 1) := by decide +kernel
theorem dX10_flat_2 : decode cX10_flat 2 = .ok (.bipush 7, 2) := by decide +kernel
theorem dX10_flat_4 : decode cX10_flat 4 = .ok (.invokestatic 86, 3) := by decide +kernel
theorem dX10_flat_7 : decode cX10_flat 7 = .ok (.ifCond .ne 6, 3) := by decide +kernel
theorem dX10_flat_10 : decode cX10_flat 10 = .ok (.bipush (-2), 2) := by decide +kernel
theorem dX10_flat_12 : decode cX10_flat 12 = .ok (.ireturn, 1) := by decide +kernel
theorem dX10_flat_13 : decode cX10_flat 13 = .ok (.iload_n 2, 1) := by decide +kernel
theorem dX10_flat_14 : decode cX10_flat 14 = .ok (.iconst 0, 1) := by decide +kernel
theorem dX10_flat_15 : decode cX10_flat 15 = .ok (.bipush 99, 2) := by decide +kernel
theorem dX10_flat_17 : decode cX10_flat 17 = .ok (.invokestatic 86, 3) := by decide +kernel
theorem dX10_flat_20 : decode cX10_flat 20 = .ok (.ifCond .eq 13, 3) := by decide +kernel
theorem dX10_flat_23 : decode cX10_flat 23 = .ok (.iload_n 3, 1) := by decide +kernel
theorem dX10_flat_24 : decode cX10_flat 24 = .ok (.iconst 1, 1) := by decide +kernel
theorem dX10_flat_25 : decode cX10_flat 25 = .ok (.bipush 8, 2) := by decide +kernel
theorem dX10_flat_27 : decode cX10_flat 27 = .ok (.invokestatic 86, 3) := by decide +kernel
theorem dX10_flat_30 : decode cX10_flat 30 = .ok (.ifCond .ne 6, 3) := by decide +kernel
theorem dX10_flat_33 : decode cX10_flat 33 = .ok (.bipush (-3), 2) := by decide +kernel
theorem dX10_flat_35 : decode cX10_flat 35 = .ok (.ireturn, 1) := by decide +kernel
theorem dX10_flat_36 : decode cX10_flat 36 = .ok (.aload_n 0, 1) := by decide +kernel
theorem dX10_flat_37 : decode cX10_flat 37 = .ok (.getfield 71, 3) := by decide +kernel
theorem dX10_flat_40 : decode cX10_flat 40 = .ok (.iload_n 1, 1) := by decide +kernel
theorem dX10_flat_41 : decode cX10_flat 41 = .ok (.iload_n 2, 1) := by decide +kernel
theorem dX10_flat_42 : decode cX10_flat 42 = .ok (.iload_n 3, 1) := by decide +kernel
theorem dX10_flat_43 : decode cX10_flat 43 = .ok (.invokevirtual 247, 3) := by decide +kernel
theorem dX10_flat_46 : decode cX10_flat 46 = .ok (.iconst 1, 1) := by decide +kernel
theorem dX10_flat_47 : decode cX10_flat 47 = .ok (.ireturn, 1) := by decide +kernel
theorem dX10_ring_0 : decode cX10_ring 0 = .ok (.iload_n 1, 1) := by decide +kernel
theorem dX10_ring_1 : decode cX10_ring 1 = .ok (.iconst (-1), 1) := by decide +kernel
theorem dX10_ring_2 : decode cX10_ring 2 = .ok (.if_icmp .ge 6, 3) := by decide +kernel
theorem dX10_ring_5 : decode cX10_ring 5 = .ok (.bipush (-3), 2) := by decide +kernel
theorem dX10_ring_7 : decode cX10_ring 7 = .ok (.ireturn, 1) := by decide +kernel
theorem dX10_ring_8 : decode cX10_ring 8 = .ok (.aload_n 0, 1) := by decide +kernel
theorem dX10_ring_9 : decode cX10_ring 9 = .ok (.getfield 71, 3) := by decide +kernel
theorem dX10_ring_12 : decode cX10_ring 12 = .ok (.invokevirtual 250, 3) := by decide +kernel
theorem dX10_ring_15 : decode cX10_ring 15 = .ok (.iload_n 1, 1) := by decide +kernel
theorem dX10_ring_16 : decode cX10_ring 16 = .ok (.iconst (-1), 1) := by decide +kernel
theorem dX10_ring_17 : decode cX10_ring 17 = .ok (.if_icmp .ne 13, 3) := by decide +kernel
theorem dX10_ring_20 : decode cX10_ring 20 = .ok (.aload_n 0, 1) := by decide +kernel
theorem dX10_ring_21 : decode cX10_ring 21 = .ok (.getfield 71, 3) := by decide +kernel
theorem dX10_ring_24 : decode cX10_ring 24 = .ok (.invokevirtual 253, 3) := by decide +kernel
theorem dX10_ring_27 : decode cX10_ring 27 = .ok (.goto 11, 3) := by decide +kernel
theorem dX10_ring_30 : decode cX10_ring 30 = .ok (.aload_n 0, 1) := by decide +kernel
theorem dX10_ring_31 : decode cX10_ring 31 = .ok (.getfield 71, 3) := by decide +kernel
theorem dX10_ring_34 : decode cX10_ring 34 = .ok (.iload_n 1, 1) := by decide +kernel
theorem dX10_ring_35 : decode cX10_ring 35 = .ok (.invokevirtual 256, 3) := by decide +kernel
theorem dX10_ring_38 : decode cX10_ring 38 = .ok (.ireturn, 1) := by decide +kernel
theorem dX10_street_0 : decode cX10_street 0 = .ok (.iload_n 1, 1) := by decide +kernel
theorem dX10_street_1 : decode cX10_street 1 = .ok (.iconst 1, 1) := by decide +kernel
theorem dX10_street_2 : decode cX10_street 2 = .ok (.bipush 8, 2) := by decide +kernel
theorem dX10_street_4 : decode cX10_street 4 = .ok (.invokestatic 86, 3) := by decide +kernel
theorem dX10_street_7 : decode cX10_street 7 = .ok (.ifCond .eq 44, 3) := by decide +kernel
theorem dX10_street_10 : decode cX10_street 10 = .ok (.iload_n 2, 1) := by decide +kernel
theorem dX10_street_11 : decode cX10_street 11 = .ok (.iconst 0, 1) := by decide +kernel
theorem dX10_street_12 : decode cX10_street 12 = .ok (.bipush 99, 2) := by decide +kernel
theorem dX10_street_14 : decode cX10_street 14 = .ok (.invokestatic 86, 3) := by decide +kernel
theorem dX10_street_17 : decode cX10_street 17 = .ok (.ifCond .eq 34, 3) := by decide +kernel
theorem dX10_street_20 : decode cX10_street 20 = .ok (.iload_n 3, 1) := by decide +kernel
theorem dX10_street_21 : decode cX10_street 21 = .ok (.iconst 0, 1) := by decide +kernel
theorem dX10_street_22 : decode cX10_street 22 = .ok (.bipush 99, 2) := by decide +kernel
theorem dX10_street_24 : decode cX10_street 24 = .ok (.invokestatic 86, 3) := by decide +kernel
theorem dX10_street_27 : decode cX10_street 27 = .ok (.ifCond .eq 24, 3) := by decide +kernel
theorem dX10_street_30 : decode cX10_street 30 = .ok (.iload 4, 2) := by decide +kernel
theorem dX10_street_32 : decode cX10_street 32 = .ok (.iconst 0, 1) := by decide +kernel
theorem dX10_street_33 : decode cX10_street 33 = .ok (.bipush 99, 2) := by decide +kernel
theorem dX10_street_35 : decode cX10_street 35 = .ok (.invokestatic 86, 3) := by decide +kernel
theorem dX10_street_38 : decode cX10_street 38 = .ok (.ifCond .eq 13, 3) := by decide +kernel
theorem dX10_street_41 : decode cX10_street 41 = .ok (.iload 5, 2) := by decide +kernel
theorem dX10_street_43 : decode cX10_street 43 = .ok (.iconst 0, 1) := by decide +kernel
theorem dX10_street_44 : decode cX10_street 44 = .ok (.iconst 3, 1) := by decide +kernel
theorem dX10_street_45 : decode cX10_street 45 = .ok (.invokestatic 86, 3) := by decide +kernel
theorem dX10_street_48 : decode cX10_street 48 = .ok (.ifCond .ne 6, 3) := by decide +kernel
theorem dX10_street_51 : decode cX10_street 51 = .ok (.bipush (-3), 2) := by decide +kernel
theorem dX10_street_53 : decode cX10_street 53 = .ok (.ireturn, 1) := by decide +kernel
theorem dX10_street_54 : decode cX10_street 54 = .ok (.aload_n 0, 1) := by decide +kernel
theorem dX10_street_55 : decode cX10_street 55 = .ok (.getfield 78, 3) := by decide +kernel
theorem dX10_street_58 : decode cX10_street 58 = .ok (.iload_n 1, 1) := by decide +kernel
theorem dX10_street_59 : decode cX10_street 59 = .ok (.iload_n 2, 1) := by decide +kernel
theorem dX10_street_60 : decode cX10_street 60 = .ok (.iload_n 3, 1) := by decide +kernel
theorem dX10_street_61 : decode cX10_street 61 = .ok (.iload 4, 2) := by decide +kernel
theorem dX10_street_63 : decode cX10_street 63 = .ok (.invokevirtual 259, 3) := by decide +kernel
theorem dX10_street_66 : decode cX10_street 66 = .ok (.iload 5, 2) := by decide +kernel
theorem dX10_street_68 : decode cX10_street 68 = .ok (.tableswitch 70 0 2 #[28, 36, 44], 28) := by decide +kernel
theorem dX10_street_96 : decode cX10_street 96 = .ok (.aload_n 0, 1) := by decide +kernel
theorem dX10_street_97 : decode cX10_street 97 = .ok (.getfield 78, 3) := by decide +kernel
theorem dX10_street_100 : decode cX10_street 100 = .ok (.invokevirtual 263, 3) := by decide +kernel
theorem dX10_street_103 : decode cX10_street 103 = .ok (.ireturn, 1) := by decide +kernel
theorem dX10_street_104 : decode cX10_street 104 = .ok (.aload_n 0, 1) := by decide +kernel
theorem dX10_street_105 : decode cX10_street 105 = .ok (.getfield 78, 3) := by decide +kernel
theorem dX10_street_108 : decode cX10_street 108 = .ok (.invokevirtual 266, 3) := by decide +kernel
theorem dX10_street_111 : decode cX10_street 111 = .ok (.ireturn, 1) := by decide +kernel
theorem dX10_street_112 : decode cX10_street 112 = .ok (.aload_n 0, 1) := by decide +kernel
theorem dX10_street_113 : decode cX10_street 113 = .ok (.getfield 78, 3) := by decide +kernel
theorem dX10_street_116 : decode cX10_street 116 = .ok (.invokevirtual 263, 3) := by decide +kernel
theorem dX10_street_119 : decode cX10_street 119 = .ok (.ifCond .ne 7, 3) := by decide +kernel
theorem dX10_street_122 : decode cX10_street 122 = .ok (.iconst (-1), 1) := by decide +kernel
theorem dX10_street_123 : decode cX10_street 123 = .ok (.goto 14, 3) := by decide +kernel
theorem dX10_street_126 : decode cX10_street 126 = .ok (.ldc_w 269, 3) := by decide +kernel
theorem dX10_street_129 : decode cX10_street 129 = .ok (.aload_n 0, 1) := by decide +kernel
theorem dX10_street_130 : decode cX10_street 130 = .ok (.getfield 78, 3) := by decide +kernel
theorem dX10_street_133 : decode cX10_street 133 = .ok (.invokevirtual 270, 3) := by decide +kernel
theorem dX10_street_136 : decode cX10_street 136 = .ok (.iadd, 1) := by decide +kernel
theorem dX10_street_137 : decode cX10_street 137 = .ok (.ireturn, 1) := by decide +kernel
theorem dX10_street_138 : decode cX10_street 138 = .ok (.ldc_w 269, 3) := by decide +kernel
theorem dX10_street_141 : decode cX10_street 141 = .ok (.aload_n 0, 1) := by decide +kernel
theorem dX10_street_142 : decode cX10_street 142 = .ok (.getfield 78, 3) := by decide +kernel
theorem dX10_street_145 : decode cX10_street 145 = .ok (.invokevirtual 273, 3) := by decide +kernel
theorem dX10_street_148 : decode cX10_street 148 = .ok (.iadd, 1) := by decide +kernel
theorem dX10_street_149 : decode cX10_street 149 = .ok (.ireturn, 1) := by decide +kernel
theorem dX10_count_0 : decode cX10_count 0 = .ok (.iload_n 1, 1) := by decide +kernel
theorem dX10_count_1 : decode cX10_count 1 = .ok (.tableswitch 87 0 5 #[39, 47, 55, 63, 71, 79], 39) := by decide +kernel
theorem dX10_count_40 : decode cX10_count 40 = .ok (.aload_n 0, 1) := by decide +kernel
theorem dX10_count_41 : decode cX10_count 41 = .ok (.getfield 26, 3) := by decide +kernel
theorem dX10_count_44 : decode cX10_count 44 = .ok (.invokevirtual 276, 3) := by decide +kernel
theorem dX10_count_47 : decode cX10_count 47 = .ok (.ireturn, 1) := by decide +kernel
theorem dX10_count_48 : decode cX10_count 48 = .ok (.aload_n 0, 1) := by decide +kernel
theorem dX10_count_49 : decode cX10_count 49 = .ok (.getfield 12, 3) := by decide +kernel
theorem dX10_count_52 : decode cX10_count 52 = .ok (.invokevirtual 100, 3) := by decide +kernel
theorem dX10_count_55 : decode cX10_count 55 = .ok (.ireturn, 1) := by decide +kernel
theorem dX10_count_56 : decode cX10_count 56 = .ok (.aload_n 0, 1) := by decide +kernel
theorem dX10_count_57 : decode cX10_count 57 = .ok (.getfield 57, 3) := by decide +kernel
theorem dX10_count_60 : decode cX10_count 60 = .ok (.invokevirtual 279, 3) := by decide +kernel
theorem dX10_count_63 : decode cX10_count 63 = .ok (.ireturn, 1) := by decide +kernel
theorem dX10_count_64 : decode cX10_count 64 = .ok (.aload_n 0, 1) := by decide +kernel
theorem dX10_count_65 : decode cX10_count 65 = .ok (.getfield 64, 3) := by decide +kernel
theorem dX10_count_68 : decode cX10_count 68 = .ok (.invokevirtual 282, 3) := by decide +kernel
theorem dX10_count_71 : decode cX10_count 71 = .ok (.ireturn, 1) := by decide +kernel
theorem dX10_count_72 : decode cX10_count 72 = .ok (.aload_n 0, 1) := by decide +kernel
theorem dX10_count_73 : decode cX10_count 73 = .ok (.getfield 71, 3) := by decide +kernel
theorem dX10_count_76 : decode cX10_count 76 = .ok (.invokevirtual 283, 3) := by decide +kernel
theorem dX10_count_79 : decode cX10_count 79 = .ok (.ireturn, 1) := by decide +kernel
theorem dX10_count_80 : decode cX10_count 80 = .ok (.aload_n 0, 1) := by decide +kernel
theorem dX10_count_81 : decode cX10_count 81 = .ok (.getfield 26, 3) := by decide +kernel
theorem dX10_count_84 : decode cX10_count 84 = .ok (.invokevirtual 286, 3) := by decide +kernel
theorem dX10_count_87 : decode cX10_count 87 = .ok (.ireturn, 1) := by decide +kernel
theorem dX10_count_88 : decode cX10_count 88 = .ok (.bipush (-3), 2) := by decide +kernel
theorem dX10_count_90 : decode cX10_count 90 = .ok (.ireturn, 1) := by decide +kernel
theorem dX10_courseAsTold_0 : decode cX10_courseAsTold 0 = .ok (.aload_n 0, 1) := by decide +kernel
theorem dX10_courseAsTold_1 : decode cX10_courseAsTold 1 = .ok (.getfield 82, 3) := by decide +kernel
theorem dX10_courseAsTold_4 : decode cX10_courseAsTold 4 = .ok (.ifCond .ne 34, 3) := by decide +kernel
theorem dX10_courseAsTold_7 : decode cX10_courseAsTold 7 = .ok (.aload_n 0, 1) := by decide +kernel
theorem dX10_courseAsTold_8 : decode cX10_courseAsTold 8 = .ok (.getfield 33, 3) := by decide +kernel
theorem dX10_courseAsTold_11 : decode cX10_courseAsTold 11 = .ok (.aload_n 0, 1) := by decide +kernel
theorem dX10_courseAsTold_12 : decode cX10_courseAsTold 12 = .ok (.getfield 26, 3) := by decide +kernel
theorem dX10_courseAsTold_15 : decode cX10_courseAsTold 15 = .ok (.invokevirtual 189, 3) := by decide +kernel
theorem dX10_courseAsTold_18 : decode cX10_courseAsTold 18 = .ok (.aload_n 0, 1) := by decide +kernel
theorem dX10_courseAsTold_19 : decode cX10_courseAsTold 19 = .ok (.getfield 40, 3) := by decide +kernel
theorem dX10_courseAsTold_22 : decode cX10_courseAsTold 22 = .ok (.aload_n 0, 1) := by decide +kernel
theorem dX10_courseAsTold_23 : decode cX10_courseAsTold 23 = .ok (.getfield 26, 3) := by decide +kernel
theorem dX10_courseAsTold_26 : decode cX10_courseAsTold 26 = .ok (.aload_n 0, 1) := by decide +kernel
theorem dX10_courseAsTold_27 : decode cX10_courseAsTold 27 = .ok (.getfield 33, 3) := by decide +kernel
theorem dX10_courseAsTold_30 : decode cX10_courseAsTold 30 = .ok (.invokevirtual 197, 3) := by decide +kernel
theorem dX10_courseAsTold_33 : decode cX10_courseAsTold 33 = .ok (.aload_n 0, 1) := by decide +kernel
theorem dX10_courseAsTold_34 : decode cX10_courseAsTold 34 = .ok (.iconst 1, 1) := by decide +kernel
theorem dX10_courseAsTold_35 : decode cX10_courseAsTold 35 = .ok (.putfield 82, 3) := by decide +kernel
theorem dX10_courseAsTold_38 : decode cX10_courseAsTold 38 = .ok (.aload_n 0, 1) := by decide +kernel
theorem dX10_courseAsTold_39 : decode cX10_courseAsTold 39 = .ok (.getfield 40, 3) := by decide +kernel
theorem dX10_courseAsTold_42 : decode cX10_courseAsTold 42 = .ok (.areturn, 1) := by decide +kernel
theorem dX10_isWithin_0 : decode cX10_isWithin 0 = .ok (.iload_n 0, 1) := by decide +kernel
theorem dX10_isWithin_1 : decode cX10_isWithin 1 = .ok (.iload_n 1, 1) := by decide +kernel
theorem dX10_isWithin_2 : decode cX10_isWithin 2 = .ok (.if_icmp .lt 12, 3) := by decide +kernel
theorem dX10_isWithin_5 : decode cX10_isWithin 5 = .ok (.iload_n 0, 1) := by decide +kernel
theorem dX10_isWithin_6 : decode cX10_isWithin 6 = .ok (.iload_n 2, 1) := by decide +kernel
theorem dX10_isWithin_7 : decode cX10_isWithin 7 = .ok (.if_icmp .gt 7, 3) := by decide +kernel
theorem dX10_isWithin_10 : decode cX10_isWithin 10 = .ok (.iconst 1, 1) := by decide +kernel
theorem dX10_isWithin_11 : decode cX10_isWithin 11 = .ok (.goto 4, 3) := by decide +kernel
theorem dX10_isWithin_14 : decode cX10_isWithin 14 = .ok (.iconst 0, 1) := by decide +kernel
theorem dX10_isWithin_15 : decode cX10_isWithin 15 = .ok (.ireturn, 1) := by decide +kernel
theorem dX10_isRoom_0 : decode cX10_isRoom 0 = .ok (.iload_n 0, 1) := by decide +kernel
theorem dX10_isRoom_1 : decode cX10_isRoom 1 = .ok (.iconst 0, 1) := by decide +kernel
theorem dX10_isRoom_2 : decode cX10_isRoom 2 = .ok (.iconst 4, 1) := by decide +kernel
theorem dX10_isRoom_3 : decode cX10_isRoom 3 = .ok (.invokestatic 86, 3) := by decide +kernel
theorem dX10_isRoom_6 : decode cX10_isRoom 6 = .ok (.ireturn, 1) := by decide +kernel
theorem dX10_isHour_0 : decode cX10_isHour 0 = .ok (.iload_n 0, 1) := by decide +kernel
theorem dX10_isHour_1 : decode cX10_isHour 1 = .ok (.iconst 0, 1) := by decide +kernel
theorem dX10_isHour_2 : decode cX10_isHour 2 = .ok (.bipush 95, 2) := by decide +kernel
theorem dX10_isHour_4 : decode cX10_isHour 4 = .ok (.invokestatic 86, 3) := by decide +kernel
theorem dX10_isHour_7 : decode cX10_isHour 7 = .ok (.ireturn, 1) := by decide +kernel
theorem dX10_hasBit_0 : decode cX10_hasBit 0 = .ok (.iload_n 0, 1) := by decide +kernel
theorem dX10_hasBit_1 : decode cX10_hasBit 1 = .ok (.iload_n 1, 1) := by decide +kernel
theorem dX10_hasBit_2 : decode cX10_hasBit 2 = .ok (.ishr, 1) := by decide +kernel
theorem dX10_hasBit_3 : decode cX10_hasBit 3 = .ok (.iconst 1, 1) := by decide +kernel
theorem dX10_hasBit_4 : decode cX10_hasBit 4 = .ok (.iand, 1) := by decide +kernel
theorem dX10_hasBit_5 : decode cX10_hasBit 5 = .ok (.iconst 1, 1) := by decide +kernel
theorem dX10_hasBit_6 : decode cX10_hasBit 6 = .ok (.if_icmp .ne 7, 3) := by decide +kernel
theorem dX10_hasBit_9 : decode cX10_hasBit 9 = .ok (.iconst 1, 1) := by decide +kernel
theorem dX10_hasBit_10 : decode cX10_hasBit 10 = .ok (.goto 4, 3) := by decide +kernel
theorem dX10_hasBit_13 : decode cX10_hasBit 13 = .ok (.iconst 0, 1) := by decide +kernel
theorem dX10_hasBit_14 : decode cX10_hasBit 14 = .ok (.ireturn, 1) := by decide +kernel
theorem dX10_hoursFrom_0 : decode cX10_hoursFrom 0 = .ok (.iconst 0, 1) := by decide +kernel
theorem dX10_hoursFrom_1 : decode cX10_hoursFrom 1 = .ok (.istore_n 2, 1) := by decide +kernel
theorem dX10_hoursFrom_2 : decode cX10_hoursFrom 2 = .ok (.iconst 0, 1) := by decide +kernel
theorem dX10_hoursFrom_3 : decode cX10_hoursFrom 3 = .ok (.istore_n 3, 1) := by decide +kernel
theorem dX10_hoursFrom_4 : decode cX10_hoursFrom 4 = .ok (.iload_n 3, 1) := by decide +kernel
theorem dX10_hoursFrom_5 : decode cX10_hoursFrom 5 = .ok (.bipush 24, 2) := by decide +kernel
theorem dX10_hoursFrom_7 : decode cX10_hoursFrom 7 = .ok (.if_icmp .ge 33, 3) := by decide +kernel
theorem dX10_hoursFrom_10 : decode cX10_hoursFrom 10 = .ok (.iload_n 0, 1) := by decide +kernel
theorem dX10_hoursFrom_11 : decode cX10_hoursFrom 11 = .ok (.iload_n 3, 1) := by decide +kernel
theorem dX10_hoursFrom_12 : decode cX10_hoursFrom 12 = .ok (.iadd, 1) := by decide +kernel
theorem dX10_hoursFrom_13 : decode cX10_hoursFrom 13 = .ok (.bipush 24, 2) := by decide +kernel
theorem dX10_hoursFrom_15 : decode cX10_hoursFrom 15 = .ok (.irem, 1) := by decide +kernel
theorem dX10_hoursFrom_16 : decode cX10_hoursFrom 16 = .ok (.istore 4, 2) := by decide +kernel
theorem dX10_hoursFrom_18 : decode cX10_hoursFrom 18 = .ok (.iload 4, 2) := by decide +kernel
theorem dX10_hoursFrom_20 : decode cX10_hoursFrom 20 = .ok (.iload_n 1, 1) := by decide +kernel
theorem dX10_hoursFrom_21 : decode cX10_hoursFrom 21 = .ok (.if_icmp .ne 6, 3) := by decide +kernel
theorem dX10_hoursFrom_24 : decode cX10_hoursFrom 24 = .ok (.goto 16, 3) := by decide +kernel
theorem dX10_hoursFrom_27 : decode cX10_hoursFrom 27 = .ok (.iload_n 2, 1) := by decide +kernel
theorem dX10_hoursFrom_28 : decode cX10_hoursFrom 28 = .ok (.iconst 1, 1) := by decide +kernel
theorem dX10_hoursFrom_29 : decode cX10_hoursFrom 29 = .ok (.iload 4, 2) := by decide +kernel
theorem dX10_hoursFrom_31 : decode cX10_hoursFrom 31 = .ok (.ishl, 1) := by decide +kernel
theorem dX10_hoursFrom_32 : decode cX10_hoursFrom 32 = .ok (.ior, 1) := by decide +kernel
theorem dX10_hoursFrom_33 : decode cX10_hoursFrom 33 = .ok (.istore_n 2, 1) := by decide +kernel
theorem dX10_hoursFrom_34 : decode cX10_hoursFrom 34 = .ok (.iinc 3 1, 3) := by decide +kernel
theorem dX10_hoursFrom_37 : decode cX10_hoursFrom 37 = .ok (.goto (-33), 3) := by decide +kernel
theorem dX10_hoursFrom_40 : decode cX10_hoursFrom 40 = .ok (.iload_n 2, 1) := by decide +kernel
theorem dX10_hoursFrom_41 : decode cX10_hoursFrom 41 = .ok (.ireturn, 1) := by decide +kernel
end
section
theorem dX11_init_0 : decode cX11_init 0 = .ok (.aload_n 0, 1) := by decide +kernel
theorem dX11_init_1 : decode cX11_init 1 = .ok (.invokespecial 1, 3) := by decide +kernel
theorem dX11_init_4 : decode cX11_init 4 = .ok (.aload_n 0, 1) := by decide +kernel
theorem dX11_init_5 : decode cX11_init 5 = .ok (.bipush 20, 2) := by decide +kernel
theorem dX11_init_7 : decode cX11_init 7 = .ok (.newarray .int, 2) := by decide +kernel
theorem dX11_init_9 : decode cX11_init 9 = .ok (.putfield 7, 3) := by decide +kernel
theorem dX11_init_12 : decode cX11_init 12 = .ok (.aload_n 0, 1) := by decide +kernel
theorem dX11_init_13 : decode cX11_init 13 = .ok (.iconst 5, 1) := by decide +kernel
theorem dX11_init_14 : decode cX11_init 14 = .ok (.newarray .int, 2) := by decide +kernel
theorem dX11_init_16 : decode cX11_init 16 = .ok (.putfield 13, 3) := by decide +kernel
theorem dX11_init_19 : decode cX11_init 19 = .ok (.aload_n 0, 1) := by decide +kernel
theorem dX11_init_20 : decode cX11_init 20 = .ok (.iconst 5, 1) := by decide +kernel
theorem dX11_init_21 : decode cX11_init 21 = .ok (.newarray .int, 2) := by decide +kernel
theorem dX11_init_23 : decode cX11_init 23 = .ok (.putfield 16, 3) := by decide +kernel
theorem dX11_init_26 : decode cX11_init 26 = .ok (.aload_n 0, 1) := by decide +kernel
theorem dX11_init_27 : decode cX11_init 27 = .ok (.iconst 5, 1) := by decide +kernel
theorem dX11_init_28 : decode cX11_init 28 = .ok (.newarray .int, 2) := by decide +kernel
theorem dX11_init_30 : decode cX11_init 30 = .ok (.putfield 19, 3) := by decide +kernel
theorem dX11_init_33 : decode cX11_init 33 = .ok (.aload_n 0, 1) := by decide +kernel
theorem dX11_init_34 : decode cX11_init 34 = .ok (.bipush 25, 2) := by decide +kernel
theorem dX11_init_36 : decode cX11_init 36 = .ok (.newarray .int, 2) := by decide +kernel
theorem dX11_init_38 : decode cX11_init 38 = .ok (.putfield 22, 3) := by decide +kernel
theorem dX11_init_41 : decode cX11_init 41 = .ok (.aload_n 0, 1) := by decide +kernel
theorem dX11_init_42 : decode cX11_init 42 = .ok (.sipush 200, 3) := by decide +kernel
theorem dX11_init_45 : decode cX11_init 45 = .ok (.putfield 25, 3) := by decide +kernel
theorem dX11_init_48 : decode cX11_init 48 = .ok (.aload_n 0, 1) := by decide +kernel
theorem dX11_init_49 : decode cX11_init 49 = .ok (.sipush 320, 3) := by decide +kernel
theorem dX11_init_52 : decode cX11_init 52 = .ok (.putfield 29, 3) := by decide +kernel
theorem dX11_init_55 : decode cX11_init 55 = .ok (.aload_n 0, 1) := by decide +kernel
theorem dX11_init_56 : decode cX11_init 56 = .ok (.bipush 10, 2) := by decide +kernel
theorem dX11_init_58 : decode cX11_init 58 = .ok (.putfield 32, 3) := by decide +kernel
theorem dX11_init_61 : decode cX11_init 61 = .ok (.aload_n 0, 1) := by decide +kernel
theorem dX11_init_62 : decode cX11_init 62 = .ok (.bipush 20, 2) := by decide +kernel
theorem dX11_init_64 : decode cX11_init 64 = .ok (.putfield 35, 3) := by decide +kernel
theorem dX11_init_67 : decode cX11_init 67 = .ok (.aload_n 0, 1) := by decide +kernel
theorem dX11_init_68 : decode cX11_init 68 = .ok (.bipush 20, 2) := by decide +kernel
theorem dX11_init_70 : decode cX11_init 70 = .ok (.putfield 38, 3) := by decide +kernel
theorem dX11_init_73 : decode cX11_init 73 = .ok (.aload_n 0, 1) := by decide +kernel
theorem dX11_init_74 : decode cX11_init 74 = .ok (.bipush 10, 2) := by decide +kernel
theorem dX11_init_76 : decode cX11_init 76 = .ok (.putfield 41, 3) := by decide +kernel
theorem dX11_init_79 : decode cX11_init 79 = .ok (.aload_n 0, 1) := by decide +kernel
theorem dX11_init_80 : decode cX11_init 80 = .ok (.iconst 3, 1) := by decide +kernel
theorem dX11_init_81 : decode cX11_init 81 = .ok (.putfield 44, 3) := by decide +kernel
theorem dX11_init_84 : decode cX11_init 84 = .ok (.aload_n 0, 1) := by decide +kernel
theorem dX11_init_85 : decode cX11_init 85 = .ok (.bipush 40, 2) := by decide +kernel
theorem dX11_init_87 : decode cX11_init 87 = .ok (.putfield 47, 3) := by decide +kernel
theorem dX11_init_90 : decode cX11_init 90 = .ok (.aload_n 0, 1) := by decide +kernel
theorem dX11_init_91 : decode cX11_init 91 = .ok (.ldc 50, 2) := by decide +kernel
theorem dX11_init_93 : decode cX11_init 93 = .ok (.putfield 51, 3) := by decide +kernel
theorem dX11_init_96 : decode cX11_init 96 = .ok (.aload_n 0, 1) := by decide +kernel
theorem dX11_init_97 : decode cX11_init 97 = .ok (.sipush 200, 3) := by decide +kernel
theorem dX11_init_100 : decode cX11_init 100 = .ok (.newarray .int, 2) := by decide +kernel
theorem dX11_init_102 : decode cX11_init 102 = .ok (.putfield 54, 3) := by decide +kernel
theorem dX11_init_105 : decode cX11_init 105 = .ok (.aload_n 0, 1) := by decide +kernel
theorem dX11_init_106 : decode cX11_init 106 = .ok (.bipush 48, 2) := by decide +kernel
theorem dX11_init_108 : decode cX11_init 108 = .ok (.newarray .int, 2) := by decide +kernel
theorem dX11_init_110 : decode cX11_init 110 = .ok (.putfield 57, 3) := by decide +kernel
theorem dX11_init_113 : decode cX11_init 113 = .ok (.aload_n 0, 1) := by decide +kernel
theorem dX11_init_114 : decode cX11_init 114 = .ok (.sipush 480, 3) := by decide +kernel
theorem dX11_init_117 : decode cX11_init 117 = .ok (.newarray .int, 2) := by decide +kernel
theorem dX11_init_119 : decode cX11_init 119 = .ok (.putfield 60, 3) := by decide +kernel
theorem dX11_init_122 : decode cX11_init 122 = .ok (.aload_n 0, 1) := by decide +kernel
theorem dX11_init_123 : decode cX11_init 123 = .ok (.sipush 480, 3) := by decide +kernel
theorem dX11_init_126 : decode cX11_init 126 = .ok (.newarray .int, 2) := by decide +kernel
theorem dX11_init_128 : decode cX11_init 128 = .ok (.putfield 63, 3) := by decide +kernel
theorem dX11_init_131 : decode cX11_init 131 = .ok (.aload_n 0, 1) := by decide +kernel
theorem dX11_init_132 : decode cX11_init 132 = .ok (.sipush 480, 3) := by decide +kernel
theorem dX11_init_135 : decode cX11_init 135 = .ok (.newarray .int, 2) := by decide +kernel
theorem dX11_init_137 : decode cX11_init 137 = .ok (.putfield 66, 3) := by decide +kernel
theorem dX11_init_140 : decode cX11_init 140 = .ok (.aload_n 0, 1) := by decide +kernel
theorem dX11_init_141 : decode cX11_init 141 = .ok (.iconst 5, 1) := by decide +kernel
theorem dX11_init_142 : decode cX11_init 142 = .ok (.newarray .int, 2) := by decide +kernel
theorem dX11_init_144 : decode cX11_init 144 = .ok (.putfield 69, 3) := by decide +kernel
theorem dX11_init_147 : decode cX11_init 147 = .ok (.aload_n 0, 1) := by decide +kernel
theorem dX11_init_148 : decode cX11_init 148 = .ok (.iconst 5, 1) := by decide +kernel
theorem dX11_init_149 : decode cX11_init 149 = .ok (.newarray .int, 2) := by decide +kernel
theorem dX11_init_151 : decode cX11_init 151 = .ok (.putfield 72, 3) := by decide +kernel
theorem dX11_init_154 : decode cX11_init 154 = .ok (.aload_n 0, 1) := by decide +kernel
theorem dX11_init_155 : decode cX11_init 155 = .ok (.iconst 5, 1) := by decide +kernel
theorem dX11_init_156 : decode cX11_init 156 = .ok (.newarray .int, 2) := by decide +kernel
theorem dX11_init_158 : decode cX11_init 158 = .ok (.putfield 75, 3) := by decide +kernel
theorem dX11_init_161 : decode cX11_init 161 = .ok (.aload_n 0, 1) := by decide +kernel
theorem dX11_init_162 : decode cX11_init 162 = .ok (.iconst 5, 1) := by decide +kernel
theorem dX11_init_163 : decode cX11_init 163 = .ok (.newarray .int, 2) := by decide +kernel
theorem dX11_init_165 : decode cX11_init 165 = .ok (.putfield 78, 3) := by decide +kernel
theorem dX11_init_168 : decode cX11_init 168 = .ok (.aload_n 0, 1) := by decide +kernel
theorem dX11_init_169 : decode cX11_init 169 = .ok (.iconst 5, 1) := by decide +kernel
theorem dX11_init_170 : decode cX11_init 170 = .ok (.newarray .int, 2) := by decide +kernel
theorem dX11_init_172 : decode cX11_init 172 = .ok (.putfield 81, 3) := by decide +kernel
theorem dX11_init_175 : decode cX11_init 175 = .ok (.aload_n 0, 1) := by decide +kernel
theorem dX11_init_176 : decode cX11_init 176 = .ok (.iconst 5, 1) := by decide +kernel
theorem dX11_init_177 : decode cX11_init 177 = .ok (.newarray .int, 2) := by decide +kernel
theorem dX11_init_179 : decode cX11_init 179 = .ok (.putfield 84, 3) := by decide +kernel
theorem dX11_init_182 : decode cX11_init 182 = .ok (.aload_n 0, 1) := by decide +kernel
theorem dX11_init_183 : decode cX11_init 183 = .ok (.bipush 6, 2) := by decide +kernel
theorem dX11_init_185 : decode cX11_init 185 = .ok (.newarray .int, 2) := by decide +kernel
theorem dX11_init_187 : decode cX11_init 187 = .ok (.putfield 87, 3) := by decide +kernel
theorem dX11_init_190 : decode cX11_init 190 = .ok (.aload_n 0, 1) := by decide +kernel
theorem dX11_init_191 : decode cX11_init 191 = .ok (.bipush 6, 2) := by decide +kernel
theorem dX11_init_193 : decode cX11_init 193 = .ok (.newarray .int, 2) := by decide +kernel
theorem dX11_init_195 : decode cX11_init 195 = .ok (.putfield 90, 3) := by decide +kernel
theorem dX11_init_198 : decode cX11_init 198 = .ok (.aload_n 0, 1) := by decide +kernel
theorem dX11_init_199 : decode cX11_init 199 = .ok (.bipush 6, 2) := by decide +kernel
theorem dX11_init_201 : decode cX11_init 201 = .ok (.newarray .int, 2) := by decide +kernel
theorem dX11_init_203 : decode cX11_init 203 = .ok (.putfield 93, 3) := by decide +kernel
theorem dX11_init_206 : decode cX11_init 206 = .ok (.aload_n 0, 1) := by decide +kernel
theorem dX11_init_207 : decode cX11_init 207 = .ok (.bipush 6, 2) := by decide +kernel
theorem dX11_init_209 : decode cX11_init 209 = .ok (.newarray .int, 2) := by decide +kernel
theorem dX11_init_211 : decode cX11_init 211 = .ok (.putfield 96, 3) := by decide +kernel
theorem dX11_init_214 : decode cX11_init 214 = .ok (.aload_n 0, 1) := by decide +kernel
theorem dX11_init_215 : decode cX11_init 215 = .ok (.bipush 8, 2) := by decide +kernel
theorem dX11_init_217 : decode cX11_init 217 = .ok (.newarray .int, 2) := by decide +kernel
theorem dX11_init_219 : decode cX11_init 219 = .ok (.putfield 99, 3) := by decide +kernel
theorem dX11_init_222 : decode cX11_init 222 = .ok (.aload_n 0, 1) := by decide +kernel
theorem dX11_init_223 : decode cX11_init 223 = .ok (.bipush 8, 2) := by decide +kernel
theorem dX11_init_225 : decode cX11_init 225 = .ok (.newarray .int, 2) := by decide +kernel
theorem dX11_init_227 : decode cX11_init 227 = .ok (.putfield 102, 3) := by decide +kernel
theorem dX11_init_230 : decode cX11_init 230 = .ok (.aload_n 0, 1) := by decide +kernel
theorem dX11_init_231 : decode cX11_init 231 = .ok (.bipush 8, 2) := by decide +kernel
theorem dX11_init_233 : decode cX11_init 233 = .ok (.newarray .int, 2) := by decide +kernel
theorem dX11_init_235 : decode cX11_init 235 = .ok (.putfield 105, 3) := by decide +kernel
theorem dX11_init_238 : decode cX11_init 238 = .ok (.aload_n 0, 1) := by decide +kernel
theorem dX11_init_239 : decode cX11_init 239 = .ok (.bipush 8, 2) := by decide +kernel
theorem dX11_init_241 : decode cX11_init 241 = .ok (.newarray .int, 2) := by decide +kernel
theorem dX11_init_243 : decode cX11_init 243 = .ok (.putfield 108, 3) := by decide +kernel
theorem dX11_init_246 : decode cX11_init 246 = .ok (.aload_n 0, 1) := by decide +kernel
theorem dX11_init_247 : decode cX11_init 247 = .ok (.bipush 8, 2) := by decide +kernel
theorem dX11_init_249 : decode cX11_init 249 = .ok (.newarray .int, 2) := by decide +kernel
theorem dX11_init_251 : decode cX11_init 251 = .ok (.putfield 111, 3) := by decide +kernel
theorem dX11_init_254 : decode cX11_init 254 = .ok (.aload_n 0, 1) := by decide +kernel
theorem dX11_init_255 : decode cX11_init 255 = .ok (.sipush 256, 3) := by decide +kernel
theorem dX11_init_258 : decode cX11_init 258 = .ok (.newarray .int, 2) := by decide +kernel
theorem dX11_init_260 : decode cX11_init 260 = .ok (.putfield 114, 3) := by decide +kernel
theorem dX11_init_263 : decode cX11_init 263 = .ok (.aload_n 0, 1) := by decide +kernel
theorem dX11_init_264 : decode cX11_init 264 = .ok (.iconst 5, 1) := by decide +kernel
theorem dX11_init_265 : decode cX11_init 265 = .ok (.newarray .int, 2) := by decide +kernel
theorem dX11_init_267 : decode cX11_init 267 = .ok (.putfield 117, 3) := by decide +kernel
theorem dX11_init_270 : decode cX11_init 270 = .ok (.return_, 1) := by decide +kernel
theorem dX11_in_0 : decode cX11_in 0 = .ok (.iload_n 0, 1) := by decide +kernel
theorem dX11_in_1 : decode cX11_in 1 = .ok (.iload_n 1, 1) := by decide +kernel
theorem dX11_in_2 : decode cX11_in 2 = .ok (.if_icmp .lt 12, 3) := by decide +kernel
theorem dX11_in_5 : decode cX11_in 5 = .ok (.iload_n 0, 1) := by decide +kernel
theorem dX11_in_6 : decode cX11_in 6 = .ok (.iload_n 2, 1) := by decide +kernel
theorem dX11_in_7 : decode cX11_in 7 = .ok (.if_icmp .gt 7, 3) := by decide +kernel
theorem dX11_in_10 : decode cX11_in 10 = .ok (.iconst 1, 1) := by decide +kernel
theorem dX11_in_11 : decode cX11_in 11 = .ok (.goto 4, 3) := by decide +kernel
theorem dX11_in_14 : decode cX11_in 14 = .ok (.iconst 0, 1) := by decide +kernel
theorem dX11_in_15 : decode cX11_in 15 = .ok (.ireturn, 1) := by decide +kernel
theorem dX11_has_0 : decode cX11_has 0 = .ok (.iload_n 0, 1) := by decide +kernel
theorem dX11_has_1 : decode cX11_has 1 = .ok (.iload_n 1, 1) := by decide +kernel
theorem dX11_has_2 : decode cX11_has 2 = .ok (.ishr, 1) := by decide +kernel
theorem dX11_has_3 : decode cX11_has 3 = .ok (.iconst 1, 1) := by decide +kernel
theorem dX11_has_4 : decode cX11_has 4 = .ok (.iand, 1) := by decide +kernel
theorem dX11_has_5 : decode cX11_has 5 = .ok (.iconst 1, 1) := by decide +kernel
theorem dX11_has_6 : decode cX11_has 6 = .ok (.if_icmp .ne 7, 3) := by decide +kernel
theorem dX11_has_9 : decode cX11_has 9 = .ok (.iconst 1, 1) := by decide +kernel
theorem dX11_has_10 : decode cX11_has 10 = .ok (.goto 4, 3) := by decide +kernel
theorem dX11_has_13 : decode cX11_has 13 = .ok (.iconst 0, 1) := by decide +kernel
theorem dX11_has_14 : decode cX11_has 14 = .ok (.ireturn, 1) := by decide +kernel
theorem dX11_bits_0 : decode cX11_bits 0 = .ok (.iconst 0, 1) := by decide +kernel
theorem dX11_bits_1 : decode cX11_bits 1 = .ok (.istore_n 1, 1) := by decide +kernel
theorem dX11_bits_2 : decode cX11_bits 2 = .ok (.iconst 0, 1) := by decide +kernel
theorem dX11_bits_3 : decode cX11_bits 3 = .ok (.istore_n 2, 1) := by decide +kernel
theorem dX11_bits_4 : decode cX11_bits 4 = .ok (.iload_n 2, 1) := by decide +kernel
theorem dX11_bits_5 : decode cX11_bits 5 = .ok (.bipush 24, 2) := by decide +kernel
theorem dX11_bits_7 : decode cX11_bits 7 = .ok (.if_icmp .ge 17, 3) := by decide +kernel
theorem dX11_bits_10 : decode cX11_bits 10 = .ok (.iload_n 1, 1) := by decide +kernel
theorem dX11_bits_11 : decode cX11_bits 11 = .ok (.iload_n 0, 1) := by decide +kernel
theorem dX11_bits_12 : decode cX11_bits 12 = .ok (.iload_n 2, 1) := by decide +kernel
theorem dX11_bits_13 : decode cX11_bits 13 = .ok (.ishr, 1) := by decide +kernel
theorem dX11_bits_14 : decode cX11_bits 14 = .ok (.iconst 1, 1) := by decide +kernel
theorem dX11_bits_15 : decode cX11_bits 15 = .ok (.iand, 1) := by decide +kernel
theorem dX11_bits_16 : decode cX11_bits 16 = .ok (.iadd, 1) := by decide +kernel
theorem dX11_bits_17 : decode cX11_bits 17 = .ok (.istore_n 1, 1) := by decide +kernel
theorem dX11_bits_18 : decode cX11_bits 18 = .ok (.iinc 2 1, 3) := by decide +kernel
theorem dX11_bits_21 : decode cX11_bits 21 = .ok (.goto (-17), 3) := by decide +kernel
theorem dX11_bits_24 : decode cX11_bits 24 = .ok (.iload_n 1, 1) := by decide +kernel
theorem dX11_bits_25 : decode cX11_bits 25 = .ok (.ireturn, 1) := by decide +kernel
theorem dX11_isRoom_0 : decode cX11_isRoom 0 = .ok (.iload_n 1, 1) := by decide +kernel
theorem dX11_isRoom_1 : decode cX11_isRoom 1 = .ok (.iconst 0, 1) := by decide +kernel
theorem dX11_isRoom_2 : decode cX11_isRoom 2 = .ok (.iconst 4, 1) := by decide +kernel
theorem dX11_isRoom_3 : decode cX11_isRoom 3 = .ok (.invokestatic 120, 3) := by decide +kernel
theorem dX11_isRoom_6 : decode cX11_isRoom 6 = .ok (.ifCond .eq 18, 3) := by decide +kernel
theorem dX11_isRoom_9 : decode cX11_isRoom 9 = .ok (.aload_n 0, 1) := by decide +kernel
theorem dX11_isRoom_10 : decode cX11_isRoom 10 = .ok (.getfield 124, 3) := by decide +kernel
theorem dX11_isRoom_13 : decode cX11_isRoom 13 = .ok (.iload_n 1, 1) := by decide +kernel
theorem dX11_isRoom_14 : decode cX11_isRoom 14 = .ok (.invokestatic 127, 3) := by decide +kernel
theorem dX11_isRoom_17 : decode cX11_isRoom 17 = .ok (.ifCond .eq 7, 3) := by decide +kernel
theorem dX11_isRoom_20 : decode cX11_isRoom 20 = .ok (.iconst 1, 1) := by decide +kernel
theorem dX11_isRoom_21 : decode cX11_isRoom 21 = .ok (.goto 4, 3) := by decide +kernel
theorem dX11_isRoom_24 : decode cX11_isRoom 24 = .ok (.iconst 0, 1) := by decide +kernel
theorem dX11_isRoom_25 : decode cX11_isRoom 25 = .ok (.ireturn, 1) := by decide +kernel
theorem dX11_write_0 : decode cX11_write 0 = .ok (.iload_n 3, 1) := by decide +kernel
theorem dX11_write_1 : decode cX11_write 1 = .ok (.iconst 1, 1) := by decide +kernel
theorem dX11_write_2 : decode cX11_write 2 = .ok (.bipush 8, 2) := by decide +kernel
theorem dX11_write_4 : decode cX11_write 4 = .ok (.invokestatic 120, 3) := by decide +kernel
theorem dX11_write_7 : decode cX11_write 7 = .ok (.ifCond .ne 6, 3) := by decide +kernel
theorem dX11_write_10 : decode cX11_write 10 = .ok (.bipush (-3), 2) := by decide +kernel
theorem dX11_write_12 : decode cX11_write 12 = .ok (.ireturn, 1) := by decide +kernel
theorem dX11_write_13 : decode cX11_write 13 = .ok (.aload_n 0, 1) := by decide +kernel
theorem dX11_write_14 : decode cX11_write 14 = .ok (.getfield 131, 3) := by decide +kernel
theorem dX11_write_17 : decode cX11_write 17 = .ok (.iload_n 3, 1) := by decide +kernel
theorem dX11_write_18 : decode cX11_write 18 = .ok (.iadd, 1) := by decide +kernel
theorem dX11_write_19 : decode cX11_write 19 = .ok (.sipush 200, 3) := by decide +kernel
theorem dX11_write_22 : decode cX11_write 22 = .ok (.if_icmp .le 6, 3) := by decide +kernel
theorem dX11_write_25 : decode cX11_write 25 = .ok (.bipush (-5), 2) := by decide +kernel
theorem dX11_write_27 : decode cX11_write 27 = .ok (.ireturn, 1) := by decide +kernel
theorem dX11_write_28 : decode cX11_write 28 = .ok (.iconst 0, 1) := by decide +kernel
theorem dX11_write_29 : decode cX11_write 29 = .ok (.istore 4, 2) := by decide +kernel
theorem dX11_write_31 : decode cX11_write 31 = .ok (.iload 4, 2) := by decide +kernel
theorem dX11_write_33 : decode cX11_write 33 = .ok (.iload_n 3, 1) := by decide +kernel
theorem dX11_write_34 : decode cX11_write 34 = .ok (.if_icmp .ge 33, 3) := by decide +kernel
theorem dX11_write_37 : decode cX11_write 37 = .ok (.aload_n 0, 1) := by decide +kernel
theorem dX11_write_38 : decode cX11_write 38 = .ok (.getfield 54, 3) := by decide +kernel
theorem dX11_write_41 : decode cX11_write 41 = .ok (.aload_n 0, 1) := by decide +kernel
theorem dX11_write_42 : decode cX11_write 42 = .ok (.getfield 131, 3) := by decide +kernel
theorem dX11_write_45 : decode cX11_write 45 = .ok (.iload 4, 2) := by decide +kernel
theorem dX11_write_47 : decode cX11_write 47 = .ok (.iadd, 1) := by decide +kernel
theorem dX11_write_48 : decode cX11_write 48 = .ok (.lload_n 1, 1) := by decide +kernel
theorem dX11_write_49 : decode cX11_write 49 = .ok (.bipush 8, 2) := by decide +kernel
theorem dX11_write_51 : decode cX11_write 51 = .ok (.iload 4, 2) := by decide +kernel
theorem dX11_write_53 : decode cX11_write 53 = .ok (.imul, 1) := by decide +kernel
theorem dX11_write_54 : decode cX11_write 54 = .ok (.lshr, 1) := by decide +kernel
theorem dX11_write_55 : decode cX11_write 55 = .ok (.ldc2_w 134, 3) := by decide +kernel
theorem dX11_write_58 : decode cX11_write 58 = .ok (.land, 1) := by decide +kernel
theorem dX11_write_59 : decode cX11_write 59 = .ok (.l2i, 1) := by decide +kernel
theorem dX11_write_60 : decode cX11_write 60 = .ok (.iastore, 1) := by decide +kernel
theorem dX11_write_61 : decode cX11_write 61 = .ok (.iinc 4 1, 3) := by decide +kernel
theorem dX11_write_64 : decode cX11_write 64 = .ok (.goto (-33), 3) := by decide +kernel
theorem dX11_write_67 : decode cX11_write 67 = .ok (.aload_n 0, 1) := by decide +kernel
theorem dX11_write_68 : decode cX11_write 68 = .ok (.dup, 1) := by decide +kernel
theorem dX11_write_69 : decode cX11_write 69 = .ok (.getfield 131, 3) := by decide +kernel
theorem dX11_write_72 : decode cX11_write 72 = .ok (.iload_n 3, 1) := by decide +kernel
theorem dX11_write_73 : decode cX11_write 73 = .ok (.iadd, 1) := by decide +kernel
theorem dX11_write_74 : decode cX11_write 74 = .ok (.putfield 131, 3) := by decide +kernel
theorem dX11_write_77 : decode cX11_write 77 = .ok (.aload_n 0, 1) := by decide +kernel
theorem dX11_write_78 : decode cX11_write 78 = .ok (.getfield 131, 3) := by decide +kernel
theorem dX11_write_81 : decode cX11_write 81 = .ok (.ireturn, 1) := by decide +kernel
theorem dX11_erase_0 : decode cX11_erase 0 = .ok (.aload_n 0, 1) := by decide +kernel
theorem dX11_erase_1 : decode cX11_erase 1 = .ok (.getfield 131, 3) := by decide +kernel
theorem dX11_erase_4 : decode cX11_erase 4 = .ok (.istore_n 1, 1) := by decide +kernel
theorem dX11_erase_5 : decode cX11_erase 5 = .ok (.aload_n 0, 1) := by decide +kernel
theorem dX11_erase_6 : decode cX11_erase 6 = .ok (.iconst 0, 1) := by decide +kernel
theorem dX11_erase_7 : decode cX11_erase 7 = .ok (.putfield 131, 3) := by decide +kernel
theorem dX11_erase_10 : decode cX11_erase 10 = .ok (.iload_n 1, 1) := by decide +kernel
theorem dX11_erase_11 : decode cX11_erase 11 = .ok (.ireturn, 1) := by decide +kernel
theorem dX11_nextToken_0 : decode cX11_nextToken 0 = .ok (.aload_n 0, 1) := by decide +kernel
theorem dX11_nextToken_1 : decode cX11_nextToken 1 = .ok (.getfield 136, 3) := by decide +kernel
theorem dX11_nextToken_4 : decode cX11_nextToken 4 = .ok (.aload_n 0, 1) := by decide +kernel
theorem dX11_nextToken_5 : decode cX11_nextToken 5 = .ok (.getfield 131, 3) := by decide +kernel
theorem dX11_nextToken_8 : decode cX11_nextToken 8 = .ok (.if_icmp .ge 30, 3) := by decide +kernel
theorem dX11_nextToken_11 : decode cX11_nextToken 11 = .ok (.aload_n 0, 1) := by decide +kernel
theorem dX11_nextToken_12 : decode cX11_nextToken 12 = .ok (.getfield 54, 3) := by decide +kernel
theorem dX11_nextToken_15 : decode cX11_nextToken 15 = .ok (.aload_n 0, 1) := by decide +kernel
theorem dX11_nextToken_16 : decode cX11_nextToken 16 = .ok (.getfield 136, 3) := by decide +kernel
theorem dX11_nextToken_19 : decode cX11_nextToken 19 = .ok (.iaload, 1) := by decide +kernel
theorem dX11_nextToken_20 : decode cX11_nextToken 20 = .ok (.bipush 32, 2) := by decide +kernel
theorem dX11_nextToken_22 : decode cX11_nextToken 22 = .ok (.if_icmp .ne 16, 3) := by decide +kernel
theorem dX11_nextToken_25 : decode cX11_nextToken 25 = .ok (.aload_n 0, 1) := by decide +kernel
theorem dX11_nextToken_26 : decode cX11_nextToken 26 = .ok (.dup, 1) := by decide +kernel
theorem dX11_nextToken_27 : decode cX11_nextToken 27 = .ok (.getfield 136, 3) := by decide +kernel
theorem dX11_nextToken_30 : decode cX11_nextToken 30 = .ok (.iconst 1, 1) := by decide +kernel
theorem dX11_nextToken_31 : decode cX11_nextToken 31 = .ok (.iadd, 1) := by decide +kernel
theorem dX11_nextToken_32 : decode cX11_nextToken 32 = .ok (.putfield 136, 3) := by decide +kernel
theorem dX11_nextToken_35 : decode cX11_nextToken 35 = .ok (.goto (-35), 3) := by decide +kernel
theorem dX11_nextToken_38 : decode cX11_nextToken 38 = .ok (.aload_n 0, 1) := by decide +kernel
theorem dX11_nextToken_39 : decode cX11_nextToken 39 = .ok (.aload_n 0, 1) := by decide +kernel
theorem dX11_nextToken_40 : decode cX11_nextToken 40 = .ok (.getfield 136, 3) := by decide +kernel
theorem dX11_nextToken_43 : decode cX11_nextToken 43 = .ok (.putfield 139, 3) := by decide +kernel
theorem dX11_nextToken_46 : decode cX11_nextToken 46 = .ok (.aload_n 0, 1) := by decide +kernel
theorem dX11_nextToken_47 : decode cX11_nextToken 47 = .ok (.iconst 0, 1) := by decide +kernel
theorem dX11_nextToken_48 : decode cX11_nextToken 48 = .ok (.putfield 142, 3) := by decide +kernel
theorem dX11_nextToken_51 : decode cX11_nextToken 51 = .ok (.aload_n 0, 1) := by decide +kernel
theorem dX11_nextToken_52 : decode cX11_nextToken 52 = .ok (.iconst 0, 1) := by decide +kernel
theorem dX11_nextToken_53 : decode cX11_nextToken 53 = .ok (.putfield 145, 3) := by decide +kernel
theorem dX11_nextToken_56 : decode cX11_nextToken 56 = .ok (.aload_n 0, 1) := by decide +kernel
theorem dX11_nextToken_57 : decode cX11_nextToken 57 = .ok (.getfield 136, 3) := by decide +kernel
theorem dX11_nextToken_60 : decode cX11_nextToken 60 = .ok (.aload_n 0, 1) := by decide +kernel
theorem dX11_nextToken_61 : decode cX11_nextToken 61 = .ok (.getfield 131, 3) := by decide +kernel
theorem dX11_nextToken_64 : decode cX11_nextToken 64 = .ok (.if_icmp .ne 13, 3) := by decide +kernel
theorem dX11_nextToken_67 : decode cX11_nextToken 67 = .ok (.aload_n 0, 1) := by decide +kernel
theorem dX11_nextToken_68 : decode cX11_nextToken 68 = .ok (.ldc2_w 148, 3) := by decide +kernel
theorem dX11_nextToken_71 : decode cX11_nextToken 71 = .ok (.putfield 150, 3) := by decide +kernel
theorem dX11_nextToken_74 : decode cX11_nextToken 74 = .ok (.goto 320, 3) := by decide +kernel
theorem dX11_nextToken_77 : decode cX11_nextToken 77 = .ok (.aload_n 0, 1) := by decide +kernel
theorem dX11_nextToken_78 : decode cX11_nextToken 78 = .ok (.getfield 54, 3) := by decide +kernel
theorem dX11_nextToken_81 : decode cX11_nextToken 81 = .ok (.aload_n 0, 1) := by decide +kernel
theorem dX11_nextToken_82 : decode cX11_nextToken 82 = .ok (.getfield 136, 3) := by decide +kernel
theorem dX11_nextToken_85 : decode cX11_nextToken 85 = .ok (.iaload, 1) := by decide +kernel
theorem dX11_nextToken_86 : decode cX11_nextToken 86 = .ok (.bipush 97, 2) := by decide +kernel
theorem dX11_nextToken_88 : decode cX11_nextToken 88 = .ok (.bipush 122, 2) := by decide +kernel
theorem dX11_nextToken_90 : decode cX11_nextToken 90 = .ok (.invokestatic 120, 3) := by decide +kernel
theorem dX11_nextToken_93 : decode cX11_nextToken 93 = .ok (.ifCond .eq 129, 3) := by decide +kernel
theorem dX11_nextToken_96 : decode cX11_nextToken 96 = .ok (.aload_n 0, 1) := by decide +kernel
theorem dX11_nextToken_97 : decode cX11_nextToken 97 = .ok (.lconst 0, 1) := by decide +kernel
theorem dX11_nextToken_98 : decode cX11_nextToken 98 = .ok (.putfield 150, 3) := by decide +kernel
theorem dX11_nextToken_101 : decode cX11_nextToken 101 = .ok (.aload_n 0, 1) := by decide +kernel
theorem dX11_nextToken_102 : decode cX11_nextToken 102 = .ok (.getfield 136, 3) := by decide +kernel
theorem dX11_nextToken_105 : decode cX11_nextToken 105 = .ok (.aload_n 0, 1) := by decide +kernel
theorem dX11_nextToken_106 : decode cX11_nextToken 106 = .ok (.getfield 131, 3) := by decide +kernel
theorem dX11_nextToken_109 : decode cX11_nextToken 109 = .ok (.if_icmp .ge 82, 3) := by decide +kernel
theorem dX11_nextToken_112 : decode cX11_nextToken 112 = .ok (.aload_n 0, 1) := by decide +kernel
theorem dX11_nextToken_113 : decode cX11_nextToken 113 = .ok (.getfield 54, 3) := by decide +kernel
theorem dX11_nextToken_116 : decode cX11_nextToken 116 = .ok (.aload_n 0, 1) := by decide +kernel
theorem dX11_nextToken_117 : decode cX11_nextToken 117 = .ok (.getfield 136, 3) := by decide +kernel
theorem dX11_nextToken_120 : decode cX11_nextToken 120 = .ok (.iaload, 1) := by decide +kernel
theorem dX11_nextToken_121 : decode cX11_nextToken 121 = .ok (.bipush 97, 2) := by decide +kernel
theorem dX11_nextToken_123 : decode cX11_nextToken 123 = .ok (.bipush 122, 2) := by decide +kernel
theorem dX11_nextToken_125 : decode cX11_nextToken 125 = .ok (.invokestatic 120, 3) := by decide +kernel
theorem dX11_nextToken_128 : decode cX11_nextToken 128 = .ok (.ifCond .eq 63, 3) := by decide +kernel
theorem dX11_nextToken_131 : decode cX11_nextToken 131 = .ok (.aload_n 0, 1) := by decide +kernel
theorem dX11_nextToken_132 : decode cX11_nextToken 132 = .ok (.aload_n 0, 1) := by decide +kernel
theorem dX11_nextToken_133 : decode cX11_nextToken 133 = .ok (.getfield 136, 3) := by decide +kernel
theorem dX11_nextToken_136 : decode cX11_nextToken 136 = .ok (.aload_n 0, 1) := by decide +kernel
theorem dX11_nextToken_137 : decode cX11_nextToken 137 = .ok (.getfield 139, 3) := by decide +kernel
theorem dX11_nextToken_140 : decode cX11_nextToken 140 = .ok (.isub, 1) := by decide +kernel
theorem dX11_nextToken_141 : decode cX11_nextToken 141 = .ok (.bipush 9, 2) := by decide +kernel
theorem dX11_nextToken_143 : decode cX11_nextToken 143 = .ok (.if_icmp .ge 29, 3) := by decide +kernel
theorem dX11_nextToken_146 : decode cX11_nextToken 146 = .ok (.ldc2_w 154, 3) := by decide +kernel
theorem dX11_nextToken_149 : decode cX11_nextToken 149 = .ok (.aload_n 0, 1) := by decide +kernel
theorem dX11_nextToken_150 : decode cX11_nextToken 150 = .ok (.getfield 150, 3) := by decide +kernel
theorem dX11_nextToken_153 : decode cX11_nextToken 153 = .ok (.lmul, 1) := by decide +kernel
theorem dX11_nextToken_154 : decode cX11_nextToken 154 = .ok (.aload_n 0, 1) := by decide +kernel
theorem dX11_nextToken_155 : decode cX11_nextToken 155 = .ok (.getfield 54, 3) := by decide +kernel
theorem dX11_nextToken_158 : decode cX11_nextToken 158 = .ok (.aload_n 0, 1) := by decide +kernel
theorem dX11_nextToken_159 : decode cX11_nextToken 159 = .ok (.getfield 136, 3) := by decide +kernel
theorem dX11_nextToken_162 : decode cX11_nextToken 162 = .ok (.iaload, 1) := by decide +kernel
theorem dX11_nextToken_163 : decode cX11_nextToken 163 = .ok (.i2l, 1) := by decide +kernel
theorem dX11_nextToken_164 : decode cX11_nextToken 164 = .ok (.ladd, 1) := by decide +kernel
theorem dX11_nextToken_165 : decode cX11_nextToken 165 = .ok (.ldc2_w 156, 3) := by decide +kernel
theorem dX11_nextToken_168 : decode cX11_nextToken 168 = .ok (.lsub, 1) := by decide +kernel
theorem dX11_nextToken_169 : decode cX11_nextToken 169 = .ok (.goto 6, 3) := by decide +kernel
theorem dX11_nextToken_172 : decode cX11_nextToken 172 = .ok (.ldc2_w 158, 3) := by decide +kernel
theorem dX11_nextToken_175 : decode cX11_nextToken 175 = .ok (.putfield 150, 3) := by decide +kernel
theorem dX11_nextToken_178 : decode cX11_nextToken 178 = .ok (.aload_n 0, 1) := by decide +kernel
theorem dX11_nextToken_179 : decode cX11_nextToken 179 = .ok (.dup, 1) := by decide +kernel
theorem dX11_nextToken_180 : decode cX11_nextToken 180 = .ok (.getfield 136, 3) := by decide +kernel
theorem dX11_nextToken_183 : decode cX11_nextToken 183 = .ok (.iconst 1, 1) := by decide +kernel
theorem dX11_nextToken_184 : decode cX11_nextToken 184 = .ok (.iadd, 1) := by decide +kernel
theorem dX11_nextToken_185 : decode cX11_nextToken 185 = .ok (.putfield 136, 3) := by decide +kernel
theorem dX11_nextToken_188 : decode cX11_nextToken 188 = .ok (.goto (-87), 3) := by decide +kernel
theorem dX11_nextToken_191 : decode cX11_nextToken 191 = .ok (.aload_n 0, 1) := by decide +kernel
theorem dX11_nextToken_192 : decode cX11_nextToken 192 = .ok (.aload_n 0, 1) := by decide +kernel
theorem dX11_nextToken_193 : decode cX11_nextToken 193 = .ok (.getfield 136, 3) := by decide +kernel
theorem dX11_nextToken_196 : decode cX11_nextToken 196 = .ok (.aload_n 0, 1) := by decide +kernel
theorem dX11_nextToken_197 : decode cX11_nextToken 197 = .ok (.getfield 139, 3) := by decide +kernel
theorem dX11_nextToken_200 : decode cX11_nextToken 200 = .ok (.isub, 1) := by decide +kernel
theorem dX11_nextToken_201 : decode cX11_nextToken 201 = .ok (.bipush 9, 2) := by decide +kernel
theorem dX11_nextToken_203 : decode cX11_nextToken 203 = .ok (.if_icmp .le 9, 3) := by decide +kernel
theorem dX11_nextToken_206 : decode cX11_nextToken 206 = .ok (.ldc2_w 158, 3) := by decide +kernel
theorem dX11_nextToken_209 : decode cX11_nextToken 209 = .ok (.goto 7, 3) := by decide +kernel
theorem dX11_nextToken_212 : decode cX11_nextToken 212 = .ok (.aload_n 0, 1) := by decide +kernel
theorem dX11_nextToken_213 : decode cX11_nextToken 213 = .ok (.getfield 150, 3) := by decide +kernel
theorem dX11_nextToken_216 : decode cX11_nextToken 216 = .ok (.putfield 150, 3) := by decide +kernel
theorem dX11_nextToken_219 : decode cX11_nextToken 219 = .ok (.goto 175, 3) := by decide +kernel
theorem dX11_nextToken_222 : decode cX11_nextToken 222 = .ok (.aload_n 0, 1) := by decide +kernel
theorem dX11_nextToken_223 : decode cX11_nextToken 223 = .ok (.getfield 54, 3) := by decide +kernel
theorem dX11_nextToken_226 : decode cX11_nextToken 226 = .ok (.aload_n 0, 1) := by decide +kernel
theorem dX11_nextToken_227 : decode cX11_nextToken 227 = .ok (.getfield 136, 3) := by decide +kernel
theorem dX11_nextToken_230 : decode cX11_nextToken 230 = .ok (.iaload, 1) := by decide +kernel
theorem dX11_nextToken_231 : decode cX11_nextToken 231 = .ok (.bipush 48, 2) := by decide +kernel
theorem dX11_nextToken_233 : decode cX11_nextToken 233 = .ok (.bipush 57, 2) := by decide +kernel
theorem dX11_nextToken_235 : decode cX11_nextToken 235 = .ok (.invokestatic 120, 3) := by decide +kernel
theorem dX11_nextToken_238 : decode cX11_nextToken 238 = .ok (.ifCond .eq 119, 3) := by decide +kernel
theorem dX11_nextToken_241 : decode cX11_nextToken 241 = .ok (.aload_n 0, 1) := by decide +kernel
theorem dX11_nextToken_242 : decode cX11_nextToken 242 = .ok (.getfield 136, 3) := by decide +kernel
theorem dX11_nextToken_245 : decode cX11_nextToken 245 = .ok (.aload_n 0, 1) := by decide +kernel
theorem dX11_nextToken_246 : decode cX11_nextToken 246 = .ok (.getfield 131, 3) := by decide +kernel
theorem dX11_nextToken_249 : decode cX11_nextToken 249 = .ok (.if_icmp .ge 84, 3) := by decide +kernel
theorem dX11_nextToken_252 : decode cX11_nextToken 252 = .ok (.aload_n 0, 1) := by decide +kernel
theorem dX11_nextToken_253 : decode cX11_nextToken 253 = .ok (.getfield 54, 3) := by decide +kernel
theorem dX11_nextToken_256 : decode cX11_nextToken 256 = .ok (.aload_n 0, 1) := by decide +kernel
theorem dX11_nextToken_257 : decode cX11_nextToken 257 = .ok (.getfield 136, 3) := by decide +kernel
theorem dX11_nextToken_260 : decode cX11_nextToken 260 = .ok (.iaload, 1) := by decide +kernel
theorem dX11_nextToken_261 : decode cX11_nextToken 261 = .ok (.bipush 48, 2) := by decide +kernel
theorem dX11_nextToken_263 : decode cX11_nextToken 263 = .ok (.bipush 57, 2) := by decide +kernel
theorem dX11_nextToken_265 : decode cX11_nextToken 265 = .ok (.invokestatic 120, 3) := by decide +kernel
theorem dX11_nextToken_268 : decode cX11_nextToken 268 = .ok (.ifCond .eq 65, 3) := by decide +kernel
theorem dX11_nextToken_271 : decode cX11_nextToken 271 = .ok (.aload_n 0, 1) := by decide +kernel
theorem dX11_nextToken_272 : decode cX11_nextToken 272 = .ok (.aload_n 0, 1) := by decide +kernel
theorem dX11_nextToken_273 : decode cX11_nextToken 273 = .ok (.getfield 142, 3) := by decide +kernel
theorem dX11_nextToken_276 : decode cX11_nextToken 276 = .ok (.iconst 3, 1) := by decide +kernel
theorem dX11_nextToken_277 : decode cX11_nextToken 277 = .ok (.if_icmp .ge 26, 3) := by decide +kernel
theorem dX11_nextToken_280 : decode cX11_nextToken 280 = .ok (.bipush 10, 2) := by decide +kernel
theorem dX11_nextToken_282 : decode cX11_nextToken 282 = .ok (.aload_n 0, 1) := by decide +kernel
theorem dX11_nextToken_283 : decode cX11_nextToken 283 = .ok (.getfield 145, 3) := by decide +kernel
theorem dX11_nextToken_286 : decode cX11_nextToken 286 = .ok (.imul, 1) := by decide +kernel
theorem dX11_nextToken_287 : decode cX11_nextToken 287 = .ok (.aload_n 0, 1) := by decide +kernel
theorem dX11_nextToken_288 : decode cX11_nextToken 288 = .ok (.getfield 54, 3) := by decide +kernel
theorem dX11_nextToken_291 : decode cX11_nextToken 291 = .ok (.aload_n 0, 1) := by decide +kernel
theorem dX11_nextToken_292 : decode cX11_nextToken 292 = .ok (.getfield 136, 3) := by decide +kernel
theorem dX11_nextToken_295 : decode cX11_nextToken 295 = .ok (.iaload, 1) := by decide +kernel
theorem dX11_nextToken_296 : decode cX11_nextToken 296 = .ok (.iadd, 1) := by decide +kernel
theorem dX11_nextToken_297 : decode cX11_nextToken 297 = .ok (.bipush 48, 2) := by decide +kernel
theorem dX11_nextToken_299 : decode cX11_nextToken 299 = .ok (.isub, 1) := by decide +kernel
theorem dX11_nextToken_300 : decode cX11_nextToken 300 = .ok (.goto 7, 3) := by decide +kernel
theorem dX11_nextToken_303 : decode cX11_nextToken 303 = .ok (.aload_n 0, 1) := by decide +kernel
theorem dX11_nextToken_304 : decode cX11_nextToken 304 = .ok (.getfield 145, 3) := by decide +kernel
theorem dX11_nextToken_307 : decode cX11_nextToken 307 = .ok (.putfield 145, 3) := by decide +kernel
theorem dX11_nextToken_310 : decode cX11_nextToken 310 = .ok (.aload_n 0, 1) := by decide +kernel
theorem dX11_nextToken_311 : decode cX11_nextToken 311 = .ok (.dup, 1) := by decide +kernel
theorem dX11_nextToken_312 : decode cX11_nextToken 312 = .ok (.getfield 142, 3) := by decide +kernel
theorem dX11_nextToken_315 : decode cX11_nextToken 315 = .ok (.iconst 1, 1) := by decide +kernel
theorem dX11_nextToken_316 : decode cX11_nextToken 316 = .ok (.iadd, 1) := by decide +kernel
theorem dX11_nextToken_317 : decode cX11_nextToken 317 = .ok (.putfield 142, 3) := by decide +kernel
theorem dX11_nextToken_320 : decode cX11_nextToken 320 = .ok (.aload_n 0, 1) := by decide +kernel
theorem dX11_nextToken_321 : decode cX11_nextToken 321 = .ok (.dup, 1) := by decide +kernel
theorem dX11_nextToken_322 : decode cX11_nextToken 322 = .ok (.getfield 136, 3) := by decide +kernel
theorem dX11_nextToken_325 : decode cX11_nextToken 325 = .ok (.iconst 1, 1) := by decide +kernel
theorem dX11_nextToken_326 : decode cX11_nextToken 326 = .ok (.iadd, 1) := by decide +kernel
theorem dX11_nextToken_327 : decode cX11_nextToken 327 = .ok (.putfield 136, 3) := by decide +kernel
theorem dX11_nextToken_330 : decode cX11_nextToken 330 = .ok (.goto (-89), 3) := by decide +kernel
theorem dX11_nextToken_333 : decode cX11_nextToken 333 = .ok (.aload_n 0, 1) := by decide +kernel
theorem dX11_nextToken_334 : decode cX11_nextToken 334 = .ok (.aload_n 0, 1) := by decide +kernel
theorem dX11_nextToken_335 : decode cX11_nextToken 335 = .ok (.getfield 142, 3) := by decide +kernel
theorem dX11_nextToken_338 : decode cX11_nextToken 338 = .ok (.iconst 3, 1) := by decide +kernel
theorem dX11_nextToken_339 : decode cX11_nextToken 339 = .ok (.if_icmp .le 9, 3) := by decide +kernel
theorem dX11_nextToken_342 : decode cX11_nextToken 342 = .ok (.ldc2_w 158, 3) := by decide +kernel
theorem dX11_nextToken_345 : decode cX11_nextToken 345 = .ok (.goto 6, 3) := by decide +kernel
theorem dX11_nextToken_348 : decode cX11_nextToken 348 = .ok (.ldc2_w 160, 3) := by decide +kernel
theorem dX11_nextToken_351 : decode cX11_nextToken 351 = .ok (.putfield 150, 3) := by decide +kernel
theorem dX11_nextToken_354 : decode cX11_nextToken 354 = .ok (.goto 40, 3) := by decide +kernel
theorem dX11_nextToken_357 : decode cX11_nextToken 357 = .ok (.aload_n 0, 1) := by decide +kernel
theorem dX11_nextToken_358 : decode cX11_nextToken 358 = .ok (.aload_n 0, 1) := by decide +kernel
theorem dX11_nextToken_359 : decode cX11_nextToken 359 = .ok (.getfield 54, 3) := by decide +kernel
theorem dX11_nextToken_362 : decode cX11_nextToken 362 = .ok (.aload_n 0, 1) := by decide +kernel
theorem dX11_nextToken_363 : decode cX11_nextToken 363 = .ok (.getfield 136, 3) := by decide +kernel
theorem dX11_nextToken_366 : decode cX11_nextToken 366 = .ok (.iaload, 1) := by decide +kernel
theorem dX11_nextToken_367 : decode cX11_nextToken 367 = .ok (.bipush 59, 2) := by decide +kernel
theorem dX11_nextToken_369 : decode cX11_nextToken 369 = .ok (.if_icmp .ne 9, 3) := by decide +kernel
theorem dX11_nextToken_372 : decode cX11_nextToken 372 = .ok (.ldc2_w 162, 3) := by decide +kernel
theorem dX11_nextToken_375 : decode cX11_nextToken 375 = .ok (.goto 6, 3) := by decide +kernel
theorem dX11_nextToken_378 : decode cX11_nextToken 378 = .ok (.ldc2_w 158, 3) := by decide +kernel
theorem dX11_nextToken_381 : decode cX11_nextToken 381 = .ok (.putfield 150, 3) := by decide +kernel
theorem dX11_nextToken_384 : decode cX11_nextToken 384 = .ok (.aload_n 0, 1) := by decide +kernel
theorem dX11_nextToken_385 : decode cX11_nextToken 385 = .ok (.dup, 1) := by decide +kernel
theorem dX11_nextToken_386 : decode cX11_nextToken 386 = .ok (.getfield 136, 3) := by decide +kernel
theorem dX11_nextToken_389 : decode cX11_nextToken 389 = .ok (.iconst 1, 1) := by decide +kernel
theorem dX11_nextToken_390 : decode cX11_nextToken 390 = .ok (.iadd, 1) := by decide +kernel
theorem dX11_nextToken_391 : decode cX11_nextToken 391 = .ok (.putfield 136, 3) := by decide +kernel
theorem dX11_nextToken_394 : decode cX11_nextToken 394 = .ok (.return_, 1) := by decide +kernel
theorem dX11_fails_0 : decode cX11_fails 0 = .ok (.aload_n 0, 1) := by decide +kernel
theorem dX11_fails_1 : decode cX11_fails 1 = .ok (.aload_n 0, 1) := by decide +kernel
theorem dX11_fails_2 : decode cX11_fails 2 = .ok (.getfield 139, 3) := by decide +kernel
theorem dX11_fails_5 : decode cX11_fails 5 = .ok (.putfield 164, 3) := by decide +kernel
theorem dX11_fails_8 : decode cX11_fails 8 = .ok (.iconst 0, 1) := by decide +kernel
theorem dX11_fails_9 : decode cX11_fails 9 = .ok (.ireturn, 1) := by decide +kernel
theorem dX11_isNumber_0 : decode cX11_isNumber 0 = .ok (.aload_n 0, 1) := by decide +kernel
theorem dX11_isNumber_1 : decode cX11_isNumber 1 = .ok (.invokevirtual 167, 3) := by decide +kernel
theorem dX11_isNumber_4 : decode cX11_isNumber 4 = .ok (.aload_n 0, 1) := by decide +kernel
theorem dX11_isNumber_5 : decode cX11_isNumber 5 = .ok (.getfield 150, 3) := by decide +kernel
theorem dX11_isNumber_8 : decode cX11_isNumber 8 = .ok (.ldc2_w 160, 3) := by decide +kernel
theorem dX11_isNumber_11 : decode cX11_isNumber 11 = .ok (.lcmp, 1) := by decide +kernel
theorem dX11_isNumber_12 : decode cX11_isNumber 12 = .ok (.ifCond .ne 15, 3) := by decide +kernel
theorem dX11_isNumber_15 : decode cX11_isNumber 15 = .ok (.aload_n 0, 1) := by decide +kernel
theorem dX11_isNumber_16 : decode cX11_isNumber 16 = .ok (.getfield 145, 3) := by decide +kernel
theorem dX11_isNumber_19 : decode cX11_isNumber 19 = .ok (.iload_n 2, 1) := by decide +kernel
theorem dX11_isNumber_20 : decode cX11_isNumber 20 = .ok (.iload_n 3, 1) := by decide +kernel
theorem dX11_isNumber_21 : decode cX11_isNumber 21 = .ok (.invokestatic 120, 3) := by decide +kernel
theorem dX11_isNumber_24 : decode cX11_isNumber 24 = .ok (.ifCond .ne 8, 3) := by decide +kernel
theorem dX11_isNumber_27 : decode cX11_isNumber 27 = .ok (.aload_n 0, 1) := by decide +kernel
theorem dX11_isNumber_28 : decode cX11_isNumber 28 = .ok (.invokevirtual 170, 3) := by decide +kernel
theorem dX11_isNumber_31 : decode cX11_isNumber 31 = .ok (.ireturn, 1) := by decide +kernel
theorem dX11_isNumber_32 : decode cX11_isNumber 32 = .ok (.aload_n 0, 1) := by decide +kernel
theorem dX11_isNumber_33 : decode cX11_isNumber 33 = .ok (.getfield 57, 3) := by decide +kernel
theorem dX11_isNumber_36 : decode cX11_isNumber 36 = .ok (.iload_n 1, 1) := by decide +kernel
theorem dX11_isNumber_37 : decode cX11_isNumber 37 = .ok (.aload_n 0, 1) := by decide +kernel
theorem dX11_isNumber_38 : decode cX11_isNumber 38 = .ok (.getfield 145, 3) := by decide +kernel
theorem dX11_isNumber_41 : decode cX11_isNumber 41 = .ok (.iastore, 1) := by decide +kernel
theorem dX11_isNumber_42 : decode cX11_isNumber 42 = .ok (.iconst 1, 1) := by decide +kernel
theorem dX11_isNumber_43 : decode cX11_isNumber 43 = .ok (.ireturn, 1) := by decide +kernel
theorem dX11_isDoor_0 : decode cX11_isDoor 0 = .ok (.aload_n 0, 1) := by decide +kernel
theorem dX11_isDoor_1 : decode cX11_isDoor 1 = .ok (.iload_n 1, 1) := by decide +kernel
theorem dX11_isDoor_2 : decode cX11_isDoor 2 = .ok (.iconst 1, 1) := by decide +kernel
theorem dX11_isDoor_3 : decode cX11_isDoor 3 = .ok (.iadd, 1) := by decide +kernel
theorem dX11_isDoor_4 : decode cX11_isDoor 4 = .ok (.iconst 0, 1) := by decide +kernel
theorem dX11_isDoor_5 : decode cX11_isDoor 5 = .ok (.iconst 4, 1) := by decide +kernel
theorem dX11_isDoor_6 : decode cX11_isDoor 6 = .ok (.invokevirtual 174, 3) := by decide +kernel
theorem dX11_isDoor_9 : decode cX11_isDoor 9 = .ok (.ifCond .eq 15, 3) := by decide +kernel
theorem dX11_isDoor_12 : decode cX11_isDoor 12 = .ok (.aload_n 0, 1) := by decide +kernel
theorem dX11_isDoor_13 : decode cX11_isDoor 13 = .ok (.iload_n 1, 1) := by decide +kernel
theorem dX11_isDoor_14 : decode cX11_isDoor 14 = .ok (.iconst 2, 1) := by decide +kernel
theorem dX11_isDoor_15 : decode cX11_isDoor 15 = .ok (.iadd, 1) := by decide +kernel
theorem dX11_isDoor_16 : decode cX11_isDoor 16 = .ok (.iconst 0, 1) := by decide +kernel
theorem dX11_isDoor_17 : decode cX11_isDoor 17 = .ok (.iconst 4, 1) := by decide +kernel
theorem dX11_isDoor_18 : decode cX11_isDoor 18 = .ok (.invokevirtual 174, 3) := by decide +kernel
theorem dX11_isDoor_21 : decode cX11_isDoor 21 = .ok (.ifCond .ne 5, 3) := by decide +kernel
theorem dX11_isDoor_24 : decode cX11_isDoor 24 = .ok (.iconst 0, 1) := by decide +kernel
theorem dX11_isDoor_25 : decode cX11_isDoor 25 = .ok (.ireturn, 1) := by decide +kernel
theorem dX11_isDoor_26 : decode cX11_isDoor 26 = .ok (.aload_n 0, 1) := by decide +kernel
theorem dX11_isDoor_27 : decode cX11_isDoor 27 = .ok (.getfield 57, 3) := by decide +kernel
theorem dX11_isDoor_30 : decode cX11_isDoor 30 = .ok (.iload_n 1, 1) := by decide +kernel
theorem dX11_isDoor_31 : decode cX11_isDoor 31 = .ok (.iconst 1, 1) := by decide +kernel
theorem dX11_isDoor_32 : decode cX11_isDoor 32 = .ok (.iadd, 1) := by decide +kernel
theorem dX11_isDoor_33 : decode cX11_isDoor 33 = .ok (.iaload, 1) := by decide +kernel
theorem dX11_isDoor_34 : decode cX11_isDoor 34 = .ok (.aload_n 0, 1) := by decide +kernel
theorem dX11_isDoor_35 : decode cX11_isDoor 35 = .ok (.getfield 57, 3) := by decide +kernel
theorem dX11_isDoor_38 : decode cX11_isDoor 38 = .ok (.iload_n 1, 1) := by decide +kernel
theorem dX11_isDoor_39 : decode cX11_isDoor 39 = .ok (.iconst 2, 1) := by decide +kernel
theorem dX11_isDoor_40 : decode cX11_isDoor 40 = .ok (.iadd, 1) := by decide +kernel
theorem dX11_isDoor_41 : decode cX11_isDoor 41 = .ok (.iaload, 1) := by decide +kernel
theorem dX11_isDoor_42 : decode cX11_isDoor 42 = .ok (.if_icmp .ne 10, 3) := by decide +kernel
theorem dX11_isDoor_45 : decode cX11_isDoor 45 = .ok (.aload_n 0, 1) := by decide +kernel
theorem dX11_isDoor_46 : decode cX11_isDoor 46 = .ok (.invokevirtual 170, 3) := by decide +kernel
theorem dX11_isDoor_49 : decode cX11_isDoor 49 = .ok (.goto 13, 3) := by decide +kernel
theorem dX11_isDoor_52 : decode cX11_isDoor 52 = .ok (.aload_n 0, 1) := by decide +kernel
theorem dX11_isDoor_53 : decode cX11_isDoor 53 = .ok (.iload_n 1, 1) := by decide +kernel
theorem dX11_isDoor_54 : decode cX11_isDoor 54 = .ok (.iconst 3, 1) := by decide +kernel
theorem dX11_isDoor_55 : decode cX11_isDoor 55 = .ok (.iadd, 1) := by decide +kernel
theorem dX11_isDoor_56 : decode cX11_isDoor 56 = .ok (.iconst 0, 1) := by decide +kernel
theorem dX11_isDoor_57 : decode cX11_isDoor 57 = .ok (.bipush 10, 2) := by decide +kernel
theorem dX11_isDoor_59 : decode cX11_isDoor 59 = .ok (.invokevirtual 174, 3) := by decide +kernel
theorem dX11_isDoor_62 : decode cX11_isDoor 62 = .ok (.ireturn, 1) := by decide +kernel
theorem dX11_isLine_0 : decode cX11_isLine 0 = .ok (.aload_n 0, 1) := by decide +kernel
theorem dX11_isLine_1 : decode cX11_isLine 1 = .ok (.invokevirtual 167, 3) := by decide +kernel
theorem dX11_isLine_4 : decode cX11_isLine 4 = .ok (.aload_n 0, 1) := by decide +kernel
theorem dX11_isLine_5 : decode cX11_isLine 5 = .ok (.getfield 150, 3) := by decide +kernel
theorem dX11_isLine_8 : decode cX11_isLine 8 = .ok (.ldc2_w 177, 3) := by decide +kernel
theorem dX11_isLine_11 : decode cX11_isLine 11 = .ok (.lcmp, 1) := by decide +kernel
theorem dX11_isLine_12 : decode cX11_isLine 12 = .ok (.ifCond .ne 7, 3) := by decide +kernel
theorem dX11_isLine_15 : decode cX11_isLine 15 = .ok (.iconst 0, 1) := by decide +kernel
theorem dX11_isLine_16 : decode cX11_isLine 16 = .ok (.goto 64, 3) := by decide +kernel
theorem dX11_isLine_19 : decode cX11_isLine 19 = .ok (.aload_n 0, 1) := by decide +kernel
theorem dX11_isLine_20 : decode cX11_isLine 20 = .ok (.getfield 150, 3) := by decide +kernel
theorem dX11_isLine_23 : decode cX11_isLine 23 = .ok (.ldc2_w 179, 3) := by decide +kernel
theorem dX11_isLine_26 : decode cX11_isLine 26 = .ok (.lcmp, 1) := by decide +kernel
theorem dX11_isLine_27 : decode cX11_isLine 27 = .ok (.ifCond .ne 7, 3) := by decide +kernel
theorem dX11_isLine_30 : decode cX11_isLine 30 = .ok (.iconst 1, 1) := by decide +kernel
theorem dX11_isLine_31 : decode cX11_isLine 31 = .ok (.goto 49, 3) := by decide +kernel
theorem dX11_isLine_34 : decode cX11_isLine 34 = .ok (.aload_n 0, 1) := by decide +kernel
theorem dX11_isLine_35 : decode cX11_isLine 35 = .ok (.getfield 150, 3) := by decide +kernel
theorem dX11_isLine_38 : decode cX11_isLine 38 = .ok (.ldc2_w 181, 3) := by decide +kernel
theorem dX11_isLine_41 : decode cX11_isLine 41 = .ok (.lcmp, 1) := by decide +kernel
theorem dX11_isLine_42 : decode cX11_isLine 42 = .ok (.ifCond .ne 7, 3) := by decide +kernel
theorem dX11_isLine_45 : decode cX11_isLine 45 = .ok (.iconst 2, 1) := by decide +kernel
theorem dX11_isLine_46 : decode cX11_isLine 46 = .ok (.goto 34, 3) := by decide +kernel
theorem dX11_isLine_49 : decode cX11_isLine 49 = .ok (.aload_n 0, 1) := by decide +kernel
theorem dX11_isLine_50 : decode cX11_isLine 50 = .ok (.getfield 150, 3) := by decide +kernel
theorem dX11_isLine_53 : decode cX11_isLine 53 = .ok (.ldc2_w 183, 3) := by decide +kernel
theorem dX11_isLine_56 : decode cX11_isLine 56 = .ok (.lcmp, 1) := by decide +kernel
theorem dX11_isLine_57 : decode cX11_isLine 57 = .ok (.ifCond .ne 7, 3) := by decide +kernel
theorem dX11_isLine_60 : decode cX11_isLine 60 = .ok (.iconst 3, 1) := by decide +kernel
theorem dX11_isLine_61 : decode cX11_isLine 61 = .ok (.goto 19, 3) := by decide +kernel
theorem dX11_isLine_64 : decode cX11_isLine 64 = .ok (.aload_n 0, 1) := by decide +kernel
theorem dX11_isLine_65 : decode cX11_isLine 65 = .ok (.getfield 150, 3) := by decide +kernel
theorem dX11_isLine_68 : decode cX11_isLine 68 = .ok (.ldc2_w 185, 3) := by decide +kernel
theorem dX11_isLine_71 : decode cX11_isLine 71 = .ok (.lcmp, 1) := by decide +kernel
theorem dX11_isLine_72 : decode cX11_isLine 72 = .ok (.ifCond .ne 7, 3) := by decide +kernel
theorem dX11_isLine_75 : decode cX11_isLine 75 = .ok (.iconst 4, 1) := by decide +kernel
theorem dX11_isLine_76 : decode cX11_isLine 76 = .ok (.goto 4, 3) := by decide +kernel
theorem dX11_isLine_79 : decode cX11_isLine 79 = .ok (.iconst (-1), 1) := by decide +kernel
theorem dX11_isLine_80 : decode cX11_isLine 80 = .ok (.istore_n 2, 1) := by decide +kernel
theorem dX11_isLine_81 : decode cX11_isLine 81 = .ok (.aload_n 0, 1) := by decide +kernel
theorem dX11_isLine_82 : decode cX11_isLine 82 = .ok (.getfield 150, 3) := by decide +kernel
theorem dX11_isLine_85 : decode cX11_isLine 85 = .ok (.ldc2_w 187, 3) := by decide +kernel
theorem dX11_isLine_88 : decode cX11_isLine 88 = .ok (.lcmp, 1) := by decide +kernel
theorem dX11_isLine_89 : decode cX11_isLine 89 = .ok (.ifCond .ne 7, 3) := by decide +kernel
theorem dX11_isLine_92 : decode cX11_isLine 92 = .ok (.iconst 5, 1) := by decide +kernel
theorem dX11_isLine_93 : decode cX11_isLine 93 = .ok (.goto 68, 3) := by decide +kernel
theorem dX11_isLine_96 : decode cX11_isLine 96 = .ok (.aload_n 0, 1) := by decide +kernel
theorem dX11_isLine_97 : decode cX11_isLine 97 = .ok (.getfield 150, 3) := by decide +kernel
theorem dX11_isLine_100 : decode cX11_isLine 100 = .ok (.ldc2_w 189, 3) := by decide +kernel
theorem dX11_isLine_103 : decode cX11_isLine 103 = .ok (.lcmp, 1) := by decide +kernel
theorem dX11_isLine_104 : decode cX11_isLine 104 = .ok (.ifCond .ne 8, 3) := by decide +kernel
theorem dX11_isLine_107 : decode cX11_isLine 107 = .ok (.bipush 6, 2) := by decide +kernel
theorem dX11_isLine_109 : decode cX11_isLine 109 = .ok (.goto 52, 3) := by decide +kernel
theorem dX11_isLine_112 : decode cX11_isLine 112 = .ok (.aload_n 0, 1) := by decide +kernel
theorem dX11_isLine_113 : decode cX11_isLine 113 = .ok (.getfield 150, 3) := by decide +kernel
theorem dX11_isLine_116 : decode cX11_isLine 116 = .ok (.ldc2_w 191, 3) := by decide +kernel
theorem dX11_isLine_119 : decode cX11_isLine 119 = .ok (.lcmp, 1) := by decide +kernel
theorem dX11_isLine_120 : decode cX11_isLine 120 = .ok (.ifCond .ne 8, 3) := by decide +kernel
theorem dX11_isLine_123 : decode cX11_isLine 123 = .ok (.bipush 7, 2) := by decide +kernel
theorem dX11_isLine_125 : decode cX11_isLine 125 = .ok (.goto 36, 3) := by decide +kernel
theorem dX11_isLine_128 : decode cX11_isLine 128 = .ok (.aload_n 0, 1) := by decide +kernel
theorem dX11_isLine_129 : decode cX11_isLine 129 = .ok (.getfield 150, 3) := by decide +kernel
theorem dX11_isLine_132 : decode cX11_isLine 132 = .ok (.ldc2_w 193, 3) := by decide +kernel
theorem dX11_isLine_135 : decode cX11_isLine 135 = .ok (.lcmp, 1) := by decide +kernel
theorem dX11_isLine_136 : decode cX11_isLine 136 = .ok (.ifCond .ne 8, 3) := by decide +kernel
theorem dX11_isLine_139 : decode cX11_isLine 139 = .ok (.bipush 8, 2) := by decide +kernel
theorem dX11_isLine_141 : decode cX11_isLine 141 = .ok (.goto 20, 3) := by decide +kernel
theorem dX11_isLine_144 : decode cX11_isLine 144 = .ok (.aload_n 0, 1) := by decide +kernel
theorem dX11_isLine_145 : decode cX11_isLine 145 = .ok (.getfield 150, 3) := by decide +kernel
theorem dX11_isLine_148 : decode cX11_isLine 148 = .ok (.ldc2_w 195, 3) := by decide +kernel
theorem dX11_isLine_151 : decode cX11_isLine 151 = .ok (.lcmp, 1) := by decide +kernel
theorem dX11_isLine_152 : decode cX11_isLine 152 = .ok (.ifCond .ne 8, 3) := by decide +kernel
theorem dX11_isLine_155 : decode cX11_isLine 155 = .ok (.bipush 9, 2) := by decide +kernel
theorem dX11_isLine_157 : decode cX11_isLine 157 = .ok (.goto 4, 3) := by decide +kernel
theorem dX11_isLine_160 : decode cX11_isLine 160 = .ok (.iconst (-1), 1) := by decide +kernel
theorem dX11_isLine_161 : decode cX11_isLine 161 = .ok (.istore_n 3, 1) := by decide +kernel
theorem dX11_isLine_162 : decode cX11_isLine 162 = .ok (.aload_n 0, 1) := by decide +kernel
theorem dX11_isLine_163 : decode cX11_isLine 163 = .ok (.getfield 57, 3) := by decide +kernel
theorem dX11_isLine_166 : decode cX11_isLine 166 = .ok (.iload_n 1, 1) := by decide +kernel
theorem dX11_isLine_167 : decode cX11_isLine 167 = .ok (.iload_n 2, 1) := by decide +kernel
theorem dX11_isLine_168 : decode cX11_isLine 168 = .ok (.iconst (-1), 1) := by decide +kernel
theorem dX11_isLine_169 : decode cX11_isLine 169 = .ok (.if_icmp .ne 7, 3) := by decide +kernel
theorem dX11_isLine_172 : decode cX11_isLine 172 = .ok (.iload_n 3, 1) := by decide +kernel
theorem dX11_isLine_173 : decode cX11_isLine 173 = .ok (.goto 4, 3) := by decide +kernel
theorem dX11_isLine_176 : decode cX11_isLine 176 = .ok (.iload_n 2, 1) := by decide +kernel
theorem dX11_isLine_177 : decode cX11_isLine 177 = .ok (.iastore, 1) := by decide +kernel
theorem dX11_isLine_178 : decode cX11_isLine 178 = .ok (.aload_n 0, 1) := by decide +kernel
theorem dX11_isLine_179 : decode cX11_isLine 179 = .ok (.getfield 57, 3) := by decide +kernel
theorem dX11_isLine_182 : decode cX11_isLine 182 = .ok (.iload_n 1, 1) := by decide +kernel
theorem dX11_isLine_183 : decode cX11_isLine 183 = .ok (.iaload, 1) := by decide +kernel
theorem dX11_isLine_184 : decode cX11_isLine 184 = .ok (.tableswitch 365 0 9 #[56, 127, 133, 180, 191, 249, 279, 279, 323, 355], 56) := by decide +kernel
theorem dX11_isLine_240 : decode cX11_isLine 240 = .ok (.aload_n 0, 1) := by decide +kernel
theorem dX11_isLine_241 : decode cX11_isLine 241 = .ok (.iload_n 1, 1) := by decide +kernel
theorem dX11_isLine_242 : decode cX11_isLine 242 = .ok (.iconst 1, 1) := by decide +kernel
theorem dX11_isLine_243 : decode cX11_isLine 243 = .ok (.iadd, 1) := by decide +kernel
theorem dX11_isLine_244 : decode cX11_isLine 244 = .ok (.iconst 0, 1) := by decide +kernel
theorem dX11_isLine_245 : decode cX11_isLine 245 = .ok (.iconst 4, 1) := by decide +kernel
theorem dX11_isLine_246 : decode cX11_isLine 246 = .ok (.invokevirtual 174, 3) := by decide +kernel
theorem dX11_isLine_249 : decode cX11_isLine 249 = .ok (.ifCond .eq 60, 3) := by decide +kernel
theorem dX11_isLine_252 : decode cX11_isLine 252 = .ok (.aload_n 0, 1) := by decide +kernel
theorem dX11_isLine_253 : decode cX11_isLine 253 = .ok (.iload_n 1, 1) := by decide +kernel
theorem dX11_isLine_254 : decode cX11_isLine 254 = .ok (.iconst 2, 1) := by decide +kernel
theorem dX11_isLine_255 : decode cX11_isLine 255 = .ok (.iadd, 1) := by decide +kernel
theorem dX11_isLine_256 : decode cX11_isLine 256 = .ok (.iconst 0, 1) := by decide +kernel
theorem dX11_isLine_257 : decode cX11_isLine 257 = .ok (.sipush 600, 3) := by decide +kernel
theorem dX11_isLine_260 : decode cX11_isLine 260 = .ok (.invokevirtual 174, 3) := by decide +kernel
theorem dX11_isLine_263 : decode cX11_isLine 263 = .ok (.ifCond .eq 46, 3) := by decide +kernel
theorem dX11_isLine_266 : decode cX11_isLine 266 = .ok (.aload_n 0, 1) := by decide +kernel
theorem dX11_isLine_267 : decode cX11_isLine 267 = .ok (.iload_n 1, 1) := by decide +kernel
theorem dX11_isLine_268 : decode cX11_isLine 268 = .ok (.iconst 3, 1) := by decide +kernel
theorem dX11_isLine_269 : decode cX11_isLine 269 = .ok (.iadd, 1) := by decide +kernel
theorem dX11_isLine_270 : decode cX11_isLine 270 = .ok (.iconst 0, 1) := by decide +kernel
theorem dX11_isLine_271 : decode cX11_isLine 271 = .ok (.sipush 600, 3) := by decide +kernel
theorem dX11_isLine_274 : decode cX11_isLine 274 = .ok (.invokevirtual 174, 3) := by decide +kernel
theorem dX11_isLine_277 : decode cX11_isLine 277 = .ok (.ifCond .eq 32, 3) := by decide +kernel
theorem dX11_isLine_280 : decode cX11_isLine 280 = .ok (.aload_n 0, 1) := by decide +kernel
theorem dX11_isLine_281 : decode cX11_isLine 281 = .ok (.iload_n 1, 1) := by decide +kernel
theorem dX11_isLine_282 : decode cX11_isLine 282 = .ok (.iconst 4, 1) := by decide +kernel
theorem dX11_isLine_283 : decode cX11_isLine 283 = .ok (.iadd, 1) := by decide +kernel
theorem dX11_isLine_284 : decode cX11_isLine 284 = .ok (.iconst 0, 1) := by decide +kernel
theorem dX11_isLine_285 : decode cX11_isLine 285 = .ok (.iconst 3, 1) := by decide +kernel
theorem dX11_isLine_286 : decode cX11_isLine 286 = .ok (.invokevirtual 174, 3) := by decide +kernel
theorem dX11_isLine_289 : decode cX11_isLine 289 = .ok (.ifCond .eq 20, 3) := by decide +kernel
theorem dX11_isLine_292 : decode cX11_isLine 292 = .ok (.aload_n 0, 1) := by decide +kernel
theorem dX11_isLine_293 : decode cX11_isLine 293 = .ok (.iload_n 1, 1) := by decide +kernel
theorem dX11_isLine_294 : decode cX11_isLine 294 = .ok (.iconst 5, 1) := by decide +kernel
theorem dX11_isLine_295 : decode cX11_isLine 295 = .ok (.iadd, 1) := by decide +kernel
theorem dX11_isLine_296 : decode cX11_isLine 296 = .ok (.iconst 0, 1) := by decide +kernel
theorem dX11_isLine_297 : decode cX11_isLine 297 = .ok (.bipush 9, 2) := by decide +kernel
theorem dX11_isLine_299 : decode cX11_isLine 299 = .ok (.invokevirtual 174, 3) := by decide +kernel
theorem dX11_isLine_302 : decode cX11_isLine 302 = .ok (.ifCond .eq 7, 3) := by decide +kernel
theorem dX11_isLine_305 : decode cX11_isLine 305 = .ok (.iconst 1, 1) := by decide +kernel
theorem dX11_isLine_306 : decode cX11_isLine 306 = .ok (.goto 4, 3) := by decide +kernel
theorem dX11_isLine_309 : decode cX11_isLine 309 = .ok (.iconst 0, 1) := by decide +kernel
theorem dX11_isLine_310 : decode cX11_isLine 310 = .ok (.ireturn, 1) := by decide +kernel
theorem dX11_isLine_311 : decode cX11_isLine 311 = .ok (.aload_n 0, 1) := by decide +kernel
theorem dX11_isLine_312 : decode cX11_isLine 312 = .ok (.iload_n 1, 1) := by decide +kernel
theorem dX11_isLine_313 : decode cX11_isLine 313 = .ok (.invokevirtual 197, 3) := by decide +kernel
theorem dX11_isLine_316 : decode cX11_isLine 316 = .ok (.ireturn, 1) := by decide +kernel
theorem dX11_isLine_317 : decode cX11_isLine 317 = .ok (.aload_n 0, 1) := by decide +kernel
theorem dX11_isLine_318 : decode cX11_isLine 318 = .ok (.iload_n 1, 1) := by decide +kernel
theorem dX11_isLine_319 : decode cX11_isLine 319 = .ok (.iconst 1, 1) := by decide +kernel
theorem dX11_isLine_320 : decode cX11_isLine 320 = .ok (.iadd, 1) := by decide +kernel
theorem dX11_isLine_321 : decode cX11_isLine 321 = .ok (.iconst 0, 1) := by decide +kernel
theorem dX11_isLine_322 : decode cX11_isLine 322 = .ok (.sipush 500, 3) := by decide +kernel
theorem dX11_isLine_325 : decode cX11_isLine 325 = .ok (.invokevirtual 174, 3) := by decide +kernel
theorem dX11_isLine_328 : decode cX11_isLine 328 = .ok (.ifCond .eq 34, 3) := by decide +kernel
theorem dX11_isLine_331 : decode cX11_isLine 331 = .ok (.aload_n 0, 1) := by decide +kernel
theorem dX11_isLine_332 : decode cX11_isLine 332 = .ok (.iload_n 1, 1) := by decide +kernel
theorem dX11_isLine_333 : decode cX11_isLine 333 = .ok (.iconst 2, 1) := by decide +kernel
theorem dX11_isLine_334 : decode cX11_isLine 334 = .ok (.iadd, 1) := by decide +kernel
theorem dX11_isLine_335 : decode cX11_isLine 335 = .ok (.iconst 0, 1) := by decide +kernel
theorem dX11_isLine_336 : decode cX11_isLine 336 = .ok (.sipush 500, 3) := by decide +kernel
theorem dX11_isLine_339 : decode cX11_isLine 339 = .ok (.invokevirtual 174, 3) := by decide +kernel
theorem dX11_isLine_342 : decode cX11_isLine 342 = .ok (.ifCond .eq 20, 3) := by decide +kernel
theorem dX11_isLine_345 : decode cX11_isLine 345 = .ok (.aload_n 0, 1) := by decide +kernel
theorem dX11_isLine_346 : decode cX11_isLine 346 = .ok (.iload_n 1, 1) := by decide +kernel
theorem dX11_isLine_347 : decode cX11_isLine 347 = .ok (.iconst 3, 1) := by decide +kernel
theorem dX11_isLine_348 : decode cX11_isLine 348 = .ok (.iadd, 1) := by decide +kernel
theorem dX11_isLine_349 : decode cX11_isLine 349 = .ok (.iconst 0, 1) := by decide +kernel
theorem dX11_isLine_350 : decode cX11_isLine 350 = .ok (.bipush 50, 2) := by decide +kernel
theorem dX11_isLine_352 : decode cX11_isLine 352 = .ok (.invokevirtual 174, 3) := by decide +kernel
theorem dX11_isLine_355 : decode cX11_isLine 355 = .ok (.ifCond .eq 7, 3) := by decide +kernel
theorem dX11_isLine_358 : decode cX11_isLine 358 = .ok (.iconst 1, 1) := by decide +kernel
theorem dX11_isLine_359 : decode cX11_isLine 359 = .ok (.goto 4, 3) := by decide +kernel
theorem dX11_isLine_362 : decode cX11_isLine 362 = .ok (.iconst 0, 1) := by decide +kernel
theorem dX11_isLine_363 : decode cX11_isLine 363 = .ok (.ireturn, 1) := by decide +kernel
theorem dX11_isLine_364 : decode cX11_isLine 364 = .ok (.aload_n 0, 1) := by decide +kernel
theorem dX11_isLine_365 : decode cX11_isLine 365 = .ok (.iload_n 1, 1) := by decide +kernel
theorem dX11_isLine_366 : decode cX11_isLine 366 = .ok (.iconst 1, 1) := by decide +kernel
theorem dX11_isLine_367 : decode cX11_isLine 367 = .ok (.iadd, 1) := by decide +kernel
theorem dX11_isLine_368 : decode cX11_isLine 368 = .ok (.iconst 0, 1) := by decide +kernel
theorem dX11_isLine_369 : decode cX11_isLine 369 = .ok (.bipush 99, 2) := by decide +kernel
theorem dX11_isLine_371 : decode cX11_isLine 371 = .ok (.invokevirtual 174, 3) := by decide +kernel
theorem dX11_isLine_374 : decode cX11_isLine 374 = .ok (.ireturn, 1) := by decide +kernel
theorem dX11_isLine_375 : decode cX11_isLine 375 = .ok (.aload_n 0, 1) := by decide +kernel
theorem dX11_isLine_376 : decode cX11_isLine 376 = .ok (.iload_n 1, 1) := by decide +kernel
theorem dX11_isLine_377 : decode cX11_isLine 377 = .ok (.iconst 1, 1) := by decide +kernel
theorem dX11_isLine_378 : decode cX11_isLine 378 = .ok (.iadd, 1) := by decide +kernel
theorem dX11_isLine_379 : decode cX11_isLine 379 = .ok (.iconst 0, 1) := by decide +kernel
theorem dX11_isLine_380 : decode cX11_isLine 380 = .ok (.bipush 40, 2) := by decide +kernel
theorem dX11_isLine_382 : decode cX11_isLine 382 = .ok (.invokevirtual 174, 3) := by decide +kernel
theorem dX11_isLine_385 : decode cX11_isLine 385 = .ok (.ifCond .eq 46, 3) := by decide +kernel
theorem dX11_isLine_388 : decode cX11_isLine 388 = .ok (.aload_n 0, 1) := by decide +kernel
theorem dX11_isLine_389 : decode cX11_isLine 389 = .ok (.iload_n 1, 1) := by decide +kernel
theorem dX11_isLine_390 : decode cX11_isLine 390 = .ok (.iconst 2, 1) := by decide +kernel
theorem dX11_isLine_391 : decode cX11_isLine 391 = .ok (.iadd, 1) := by decide +kernel
theorem dX11_isLine_392 : decode cX11_isLine 392 = .ok (.iconst 0, 1) := by decide +kernel
theorem dX11_isLine_393 : decode cX11_isLine 393 = .ok (.bipush 40, 2) := by decide +kernel
theorem dX11_isLine_395 : decode cX11_isLine 395 = .ok (.invokevirtual 174, 3) := by decide +kernel
theorem dX11_isLine_398 : decode cX11_isLine 398 = .ok (.ifCond .eq 33, 3) := by decide +kernel
theorem dX11_isLine_401 : decode cX11_isLine 401 = .ok (.aload_n 0, 1) := by decide +kernel
theorem dX11_isLine_402 : decode cX11_isLine 402 = .ok (.iload_n 1, 1) := by decide +kernel
theorem dX11_isLine_403 : decode cX11_isLine 403 = .ok (.iconst 3, 1) := by decide +kernel
theorem dX11_isLine_404 : decode cX11_isLine 404 = .ok (.iadd, 1) := by decide +kernel
theorem dX11_isLine_405 : decode cX11_isLine 405 = .ok (.iconst 0, 1) := by decide +kernel
theorem dX11_isLine_406 : decode cX11_isLine 406 = .ok (.bipush 20, 2) := by decide +kernel
theorem dX11_isLine_408 : decode cX11_isLine 408 = .ok (.invokevirtual 174, 3) := by decide +kernel
theorem dX11_isLine_411 : decode cX11_isLine 411 = .ok (.ifCond .eq 20, 3) := by decide +kernel
theorem dX11_isLine_414 : decode cX11_isLine 414 = .ok (.aload_n 0, 1) := by decide +kernel
theorem dX11_isLine_415 : decode cX11_isLine 415 = .ok (.iload_n 1, 1) := by decide +kernel
theorem dX11_isLine_416 : decode cX11_isLine 416 = .ok (.iconst 4, 1) := by decide +kernel
theorem dX11_isLine_417 : decode cX11_isLine 417 = .ok (.iadd, 1) := by decide +kernel
theorem dX11_isLine_418 : decode cX11_isLine 418 = .ok (.iconst 0, 1) := by decide +kernel
theorem dX11_isLine_419 : decode cX11_isLine 419 = .ok (.bipush 40, 2) := by decide +kernel
theorem dX11_isLine_421 : decode cX11_isLine 421 = .ok (.invokevirtual 174, 3) := by decide +kernel
theorem dX11_isLine_424 : decode cX11_isLine 424 = .ok (.ifCond .eq 7, 3) := by decide +kernel
theorem dX11_isLine_427 : decode cX11_isLine 427 = .ok (.iconst 1, 1) := by decide +kernel
theorem dX11_isLine_428 : decode cX11_isLine 428 = .ok (.goto 4, 3) := by decide +kernel
theorem dX11_isLine_431 : decode cX11_isLine 431 = .ok (.iconst 0, 1) := by decide +kernel
theorem dX11_isLine_432 : decode cX11_isLine 432 = .ok (.ireturn, 1) := by decide +kernel
theorem dX11_isLine_433 : decode cX11_isLine 433 = .ok (.aload_n 0, 1) := by decide +kernel
theorem dX11_isLine_434 : decode cX11_isLine 434 = .ok (.iload_n 1, 1) := by decide +kernel
theorem dX11_isLine_435 : decode cX11_isLine 435 = .ok (.iconst 1, 1) := by decide +kernel
theorem dX11_isLine_436 : decode cX11_isLine 436 = .ok (.iadd, 1) := by decide +kernel
theorem dX11_isLine_437 : decode cX11_isLine 437 = .ok (.iconst 0, 1) := by decide +kernel
theorem dX11_isLine_438 : decode cX11_isLine 438 = .ok (.iconst 4, 1) := by decide +kernel
theorem dX11_isLine_439 : decode cX11_isLine 439 = .ok (.invokevirtual 174, 3) := by decide +kernel
theorem dX11_isLine_442 : decode cX11_isLine 442 = .ok (.ifCond .eq 19, 3) := by decide +kernel
theorem dX11_isLine_445 : decode cX11_isLine 445 = .ok (.aload_n 0, 1) := by decide +kernel
theorem dX11_isLine_446 : decode cX11_isLine 446 = .ok (.iload_n 1, 1) := by decide +kernel
theorem dX11_isLine_447 : decode cX11_isLine 447 = .ok (.iconst 2, 1) := by decide +kernel
theorem dX11_isLine_448 : decode cX11_isLine 448 = .ok (.iadd, 1) := by decide +kernel
theorem dX11_isLine_449 : decode cX11_isLine 449 = .ok (.iconst 0, 1) := by decide +kernel
theorem dX11_isLine_450 : decode cX11_isLine 450 = .ok (.iconst 3, 1) := by decide +kernel
theorem dX11_isLine_451 : decode cX11_isLine 451 = .ok (.invokevirtual 174, 3) := by decide +kernel
theorem dX11_isLine_454 : decode cX11_isLine 454 = .ok (.ifCond .eq 7, 3) := by decide +kernel
theorem dX11_isLine_457 : decode cX11_isLine 457 = .ok (.iconst 1, 1) := by decide +kernel
theorem dX11_isLine_458 : decode cX11_isLine 458 = .ok (.goto 4, 3) := by decide +kernel
theorem dX11_isLine_461 : decode cX11_isLine 461 = .ok (.iconst 0, 1) := by decide +kernel
theorem dX11_isLine_462 : decode cX11_isLine 462 = .ok (.ireturn, 1) := by decide +kernel
theorem dX11_isLine_463 : decode cX11_isLine 463 = .ok (.aload_n 0, 1) := by decide +kernel
theorem dX11_isLine_464 : decode cX11_isLine 464 = .ok (.iload_n 1, 1) := by decide +kernel
theorem dX11_isLine_465 : decode cX11_isLine 465 = .ok (.iconst 1, 1) := by decide +kernel
theorem dX11_isLine_466 : decode cX11_isLine 466 = .ok (.iadd, 1) := by decide +kernel
theorem dX11_isLine_467 : decode cX11_isLine 467 = .ok (.iconst 0, 1) := by decide +kernel
theorem dX11_isLine_468 : decode cX11_isLine 468 = .ok (.iconst 4, 1) := by decide +kernel
theorem dX11_isLine_469 : decode cX11_isLine 469 = .ok (.invokevirtual 174, 3) := by decide +kernel
theorem dX11_isLine_472 : decode cX11_isLine 472 = .ok (.ifCond .eq 33, 3) := by decide +kernel
theorem dX11_isLine_475 : decode cX11_isLine 475 = .ok (.aload_n 0, 1) := by decide +kernel
theorem dX11_isLine_476 : decode cX11_isLine 476 = .ok (.iload_n 1, 1) := by decide +kernel
theorem dX11_isLine_477 : decode cX11_isLine 477 = .ok (.iconst 2, 1) := by decide +kernel
theorem dX11_isLine_478 : decode cX11_isLine 478 = .ok (.iadd, 1) := by decide +kernel
theorem dX11_isLine_479 : decode cX11_isLine 479 = .ok (.iconst 0, 1) := by decide +kernel
theorem dX11_isLine_480 : decode cX11_isLine 480 = .ok (.bipush 23, 2) := by decide +kernel
theorem dX11_isLine_482 : decode cX11_isLine 482 = .ok (.invokevirtual 174, 3) := by decide +kernel
theorem dX11_isLine_485 : decode cX11_isLine 485 = .ok (.ifCond .eq 20, 3) := by decide +kernel
theorem dX11_isLine_488 : decode cX11_isLine 488 = .ok (.aload_n 0, 1) := by decide +kernel
theorem dX11_isLine_489 : decode cX11_isLine 489 = .ok (.iload_n 1, 1) := by decide +kernel
theorem dX11_isLine_490 : decode cX11_isLine 490 = .ok (.iconst 3, 1) := by decide +kernel
theorem dX11_isLine_491 : decode cX11_isLine 491 = .ok (.iadd, 1) := by decide +kernel
theorem dX11_isLine_492 : decode cX11_isLine 492 = .ok (.iconst 0, 1) := by decide +kernel
theorem dX11_isLine_493 : decode cX11_isLine 493 = .ok (.bipush 23, 2) := by decide +kernel
theorem dX11_isLine_495 : decode cX11_isLine 495 = .ok (.invokevirtual 174, 3) := by decide +kernel
theorem dX11_isLine_498 : decode cX11_isLine 498 = .ok (.ifCond .eq 7, 3) := by decide +kernel
theorem dX11_isLine_501 : decode cX11_isLine 501 = .ok (.iconst 1, 1) := by decide +kernel
theorem dX11_isLine_502 : decode cX11_isLine 502 = .ok (.goto 4, 3) := by decide +kernel
theorem dX11_isLine_505 : decode cX11_isLine 505 = .ok (.iconst 0, 1) := by decide +kernel
theorem dX11_isLine_506 : decode cX11_isLine 506 = .ok (.ireturn, 1) := by decide +kernel
theorem dX11_isLine_507 : decode cX11_isLine 507 = .ok (.aload_n 0, 1) := by decide +kernel
theorem dX11_isLine_508 : decode cX11_isLine 508 = .ok (.iload_n 1, 1) := by decide +kernel
theorem dX11_isLine_509 : decode cX11_isLine 509 = .ok (.iconst 1, 1) := by decide +kernel
theorem dX11_isLine_510 : decode cX11_isLine 510 = .ok (.iadd, 1) := by decide +kernel
theorem dX11_isLine_511 : decode cX11_isLine 511 = .ok (.iconst 0, 1) := by decide +kernel
theorem dX11_isLine_512 : decode cX11_isLine 512 = .ok (.bipush 23, 2) := by decide +kernel
theorem dX11_isLine_514 : decode cX11_isLine 514 = .ok (.invokevirtual 174, 3) := by decide +kernel
theorem dX11_isLine_517 : decode cX11_isLine 517 = .ok (.ifCond .eq 20, 3) := by decide +kernel
theorem dX11_isLine_520 : decode cX11_isLine 520 = .ok (.aload_n 0, 1) := by decide +kernel
theorem dX11_isLine_521 : decode cX11_isLine 521 = .ok (.iload_n 1, 1) := by decide +kernel
theorem dX11_isLine_522 : decode cX11_isLine 522 = .ok (.iconst 2, 1) := by decide +kernel
theorem dX11_isLine_523 : decode cX11_isLine 523 = .ok (.iadd, 1) := by decide +kernel
theorem dX11_isLine_524 : decode cX11_isLine 524 = .ok (.iconst 0, 1) := by decide +kernel
theorem dX11_isLine_525 : decode cX11_isLine 525 = .ok (.bipush 23, 2) := by decide +kernel
theorem dX11_isLine_527 : decode cX11_isLine 527 = .ok (.invokevirtual 174, 3) := by decide +kernel
theorem dX11_isLine_530 : decode cX11_isLine 530 = .ok (.ifCond .eq 7, 3) := by decide +kernel
theorem dX11_isLine_533 : decode cX11_isLine 533 = .ok (.iconst 1, 1) := by decide +kernel
theorem dX11_isLine_534 : decode cX11_isLine 534 = .ok (.goto 4, 3) := by decide +kernel
theorem dX11_isLine_537 : decode cX11_isLine 537 = .ok (.iconst 0, 1) := by decide +kernel
theorem dX11_isLine_538 : decode cX11_isLine 538 = .ok (.ireturn, 1) := by decide +kernel
theorem dX11_isLine_539 : decode cX11_isLine 539 = .ok (.aload_n 0, 1) := by decide +kernel
theorem dX11_isLine_540 : decode cX11_isLine 540 = .ok (.iload_n 1, 1) := by decide +kernel
theorem dX11_isLine_541 : decode cX11_isLine 541 = .ok (.iconst 1, 1) := by decide +kernel
theorem dX11_isLine_542 : decode cX11_isLine 542 = .ok (.iadd, 1) := by decide +kernel
theorem dX11_isLine_543 : decode cX11_isLine 543 = .ok (.iconst 0, 1) := by decide +kernel
theorem dX11_isLine_544 : decode cX11_isLine 544 = .ok (.iconst 4, 1) := by decide +kernel
theorem dX11_isLine_545 : decode cX11_isLine 545 = .ok (.invokevirtual 174, 3) := by decide +kernel
theorem dX11_isLine_548 : decode cX11_isLine 548 = .ok (.ireturn, 1) := by decide +kernel
theorem dX11_isLine_549 : decode cX11_isLine 549 = .ok (.aload_n 0, 1) := by decide +kernel
theorem dX11_isLine_550 : decode cX11_isLine 550 = .ok (.invokevirtual 170, 3) := by decide +kernel
theorem dX11_isLine_553 : decode cX11_isLine 553 = .ok (.ireturn, 1) := by decide +kernel
theorem dX11_isRead_0 : decode cX11_isRead 0 = .ok (.aload_n 0, 1) := by decide +kernel
theorem dX11_isRead_1 : decode cX11_isRead 1 = .ok (.iconst 0, 1) := by decide +kernel
theorem dX11_isRead_2 : decode cX11_isRead 2 = .ok (.putfield 136, 3) := by decide +kernel
theorem dX11_isRead_5 : decode cX11_isRead 5 = .ok (.aload_n 0, 1) := by decide +kernel
theorem dX11_isRead_6 : decode cX11_isRead 6 = .ok (.iconst 0, 1) := by decide +kernel
theorem dX11_isRead_7 : decode cX11_isRead 7 = .ok (.putfield 201, 3) := by decide +kernel
theorem dX11_isRead_10 : decode cX11_isRead 10 = .ok (.iconst 1, 1) := by decide +kernel
theorem dX11_isRead_11 : decode cX11_isRead 11 = .ok (.istore_n 1, 1) := by decide +kernel
theorem dX11_isRead_12 : decode cX11_isRead 12 = .ok (.iload_n 1, 1) := by decide +kernel
theorem dX11_isRead_13 : decode cX11_isRead 13 = .ok (.ifCond .eq 62, 3) := by decide +kernel
theorem dX11_isRead_16 : decode cX11_isRead 16 = .ok (.aload_n 0, 1) := by decide +kernel
theorem dX11_isRead_17 : decode cX11_isRead 17 = .ok (.bipush 6, 2) := by decide +kernel
theorem dX11_isRead_19 : decode cX11_isRead 19 = .ok (.aload_n 0, 1) := by decide +kernel
theorem dX11_isRead_20 : decode cX11_isRead 20 = .ok (.getfield 201, 3) := by decide +kernel
theorem dX11_isRead_23 : decode cX11_isRead 23 = .ok (.imul, 1) := by decide +kernel
theorem dX11_isRead_24 : decode cX11_isRead 24 = .ok (.invokevirtual 204, 3) := by decide +kernel
theorem dX11_isRead_27 : decode cX11_isRead 27 = .ok (.ifCond .ne 5, 3) := by decide +kernel
theorem dX11_isRead_30 : decode cX11_isRead 30 = .ok (.iconst 0, 1) := by decide +kernel
theorem dX11_isRead_31 : decode cX11_isRead 31 = .ok (.ireturn, 1) := by decide +kernel
theorem dX11_isRead_32 : decode cX11_isRead 32 = .ok (.aload_n 0, 1) := by decide +kernel
theorem dX11_isRead_33 : decode cX11_isRead 33 = .ok (.dup, 1) := by decide +kernel
theorem dX11_isRead_34 : decode cX11_isRead 34 = .ok (.getfield 201, 3) := by decide +kernel
theorem dX11_isRead_37 : decode cX11_isRead 37 = .ok (.iconst 1, 1) := by decide +kernel
theorem dX11_isRead_38 : decode cX11_isRead 38 = .ok (.iadd, 1) := by decide +kernel
theorem dX11_isRead_39 : decode cX11_isRead 39 = .ok (.putfield 201, 3) := by decide +kernel
theorem dX11_isRead_42 : decode cX11_isRead 42 = .ok (.aload_n 0, 1) := by decide +kernel
theorem dX11_isRead_43 : decode cX11_isRead 43 = .ok (.invokevirtual 167, 3) := by decide +kernel
theorem dX11_isRead_46 : decode cX11_isRead 46 = .ok (.aload_n 0, 1) := by decide +kernel
theorem dX11_isRead_47 : decode cX11_isRead 47 = .ok (.getfield 150, 3) := by decide +kernel
theorem dX11_isRead_50 : decode cX11_isRead 50 = .ok (.ldc2_w 162, 3) := by decide +kernel
theorem dX11_isRead_53 : decode cX11_isRead 53 = .ok (.lcmp, 1) := by decide +kernel
theorem dX11_isRead_54 : decode cX11_isRead 54 = .ok (.ifCond .ne 16, 3) := by decide +kernel
theorem dX11_isRead_57 : decode cX11_isRead 57 = .ok (.aload_n 0, 1) := by decide +kernel
theorem dX11_isRead_58 : decode cX11_isRead 58 = .ok (.getfield 201, 3) := by decide +kernel
theorem dX11_isRead_61 : decode cX11_isRead 61 = .ok (.bipush 8, 2) := by decide +kernel
theorem dX11_isRead_63 : decode cX11_isRead 63 = .ok (.if_icmp .ge 7, 3) := by decide +kernel
theorem dX11_isRead_66 : decode cX11_isRead 66 = .ok (.iconst 1, 1) := by decide +kernel
theorem dX11_isRead_67 : decode cX11_isRead 67 = .ok (.goto 4, 3) := by decide +kernel
theorem dX11_isRead_70 : decode cX11_isRead 70 = .ok (.iconst 0, 1) := by decide +kernel
theorem dX11_isRead_71 : decode cX11_isRead 71 = .ok (.istore_n 1, 1) := by decide +kernel
theorem dX11_isRead_72 : decode cX11_isRead 72 = .ok (.goto (-60), 3) := by decide +kernel
theorem dX11_isRead_75 : decode cX11_isRead 75 = .ok (.aload_n 0, 1) := by decide +kernel
theorem dX11_isRead_76 : decode cX11_isRead 76 = .ok (.getfield 150, 3) := by decide +kernel
theorem dX11_isRead_79 : decode cX11_isRead 79 = .ok (.ldc2_w 148, 3) := by decide +kernel
theorem dX11_isRead_82 : decode cX11_isRead 82 = .ok (.lcmp, 1) := by decide +kernel
theorem dX11_isRead_83 : decode cX11_isRead 83 = .ok (.ifCond .eq 10, 3) := by decide +kernel
theorem dX11_isRead_86 : decode cX11_isRead 86 = .ok (.aload_n 0, 1) := by decide +kernel
theorem dX11_isRead_87 : decode cX11_isRead 87 = .ok (.invokevirtual 170, 3) := by decide +kernel
theorem dX11_isRead_90 : decode cX11_isRead 90 = .ok (.ifCond .eq 7, 3) := by decide +kernel
theorem dX11_isRead_93 : decode cX11_isRead 93 = .ok (.iconst 1, 1) := by decide +kernel
theorem dX11_isRead_94 : decode cX11_isRead 94 = .ok (.goto 4, 3) := by decide +kernel
theorem dX11_isRead_97 : decode cX11_isRead 97 = .ok (.iconst 0, 1) := by decide +kernel
theorem dX11_isRead_98 : decode cX11_isRead 98 = .ok (.ireturn, 1) := by decide +kernel
theorem dX11_fault_0 : decode cX11_fault 0 = .ok (.aload_n 0, 1) := by decide +kernel
theorem dX11_fault_1 : decode cX11_fault 1 = .ok (.invokevirtual 207, 3) := by decide +kernel
theorem dX11_fault_4 : decode cX11_fault 4 = .ok (.ifCond .eq 7, 3) := by decide +kernel
theorem dX11_fault_7 : decode cX11_fault 7 = .ok (.iconst (-1), 1) := by decide +kernel
theorem dX11_fault_8 : decode cX11_fault 8 = .ok (.goto 7, 3) := by decide +kernel
theorem dX11_fault_11 : decode cX11_fault 11 = .ok (.aload_n 0, 1) := by decide +kernel
theorem dX11_fault_12 : decode cX11_fault 12 = .ok (.getfield 164, 3) := by decide +kernel
theorem dX11_fault_15 : decode cX11_fault 15 = .ok (.ireturn, 1) := by decide +kernel
theorem dX11_hoursOf_0 : decode cX11_hoursOf 0 = .ok (.iconst 0, 1) := by decide +kernel
theorem dX11_hoursOf_1 : decode cX11_hoursOf 1 = .ok (.istore_n 2, 1) := by decide +kernel
theorem dX11_hoursOf_2 : decode cX11_hoursOf 2 = .ok (.iload_n 0, 1) := by decide +kernel
theorem dX11_hoursOf_3 : decode cX11_hoursOf 3 = .ok (.istore_n 3, 1) := by decide +kernel
theorem dX11_hoursOf_4 : decode cX11_hoursOf 4 = .ok (.iload_n 3, 1) := by decide +kernel
theorem dX11_hoursOf_5 : decode cX11_hoursOf 5 = .ok (.iload_n 1, 1) := by decide +kernel
theorem dX11_hoursOf_6 : decode cX11_hoursOf 6 = .ok (.if_icmp .eq 19, 3) := by decide +kernel
theorem dX11_hoursOf_9 : decode cX11_hoursOf 9 = .ok (.iload_n 2, 1) := by decide +kernel
theorem dX11_hoursOf_10 : decode cX11_hoursOf 10 = .ok (.iconst 1, 1) := by decide +kernel
theorem dX11_hoursOf_11 : decode cX11_hoursOf 11 = .ok (.iload_n 3, 1) := by decide +kernel
theorem dX11_hoursOf_12 : decode cX11_hoursOf 12 = .ok (.ishl, 1) := by decide +kernel
theorem dX11_hoursOf_13 : decode cX11_hoursOf 13 = .ok (.ior, 1) := by decide +kernel
theorem dX11_hoursOf_14 : decode cX11_hoursOf 14 = .ok (.istore_n 2, 1) := by decide +kernel
theorem dX11_hoursOf_15 : decode cX11_hoursOf 15 = .ok (.iload_n 3, 1) := by decide +kernel
theorem dX11_hoursOf_16 : decode cX11_hoursOf 16 = .ok (.iconst 1, 1) := by decide +kernel
theorem dX11_hoursOf_17 : decode cX11_hoursOf 17 = .ok (.iadd, 1) := by decide +kernel
theorem dX11_hoursOf_18 : decode cX11_hoursOf 18 = .ok (.bipush 24, 2) := by decide +kernel
theorem dX11_hoursOf_20 : decode cX11_hoursOf 20 = .ok (.irem, 1) := by decide +kernel
theorem dX11_hoursOf_21 : decode cX11_hoursOf 21 = .ok (.istore_n 3, 1) := by decide +kernel
theorem dX11_hoursOf_22 : decode cX11_hoursOf 22 = .ok (.goto (-18), 3) := by decide +kernel
theorem dX11_hoursOf_25 : decode cX11_hoursOf 25 = .ok (.iload_n 2, 1) := by decide +kernel
theorem dX11_hoursOf_26 : decode cX11_hoursOf 26 = .ok (.ireturn, 1) := by decide +kernel
theorem dX11_doLine_0 : decode cX11_doLine 0 = .ok (.aload_n 0, 1) := by decide +kernel
theorem dX11_doLine_1 : decode cX11_doLine 1 = .ok (.getfield 57, 3) := by decide +kernel
theorem dX11_doLine_4 : decode cX11_doLine 4 = .ok (.iload_n 1, 1) := by decide +kernel
theorem dX11_doLine_5 : decode cX11_doLine 5 = .ok (.iconst 1, 1) := by decide +kernel
theorem dX11_doLine_6 : decode cX11_doLine 6 = .ok (.iadd, 1) := by decide +kernel
theorem dX11_doLine_7 : decode cX11_doLine 7 = .ok (.iaload, 1) := by decide +kernel
theorem dX11_doLine_8 : decode cX11_doLine 8 = .ok (.istore_n 2, 1) := by decide +kernel
theorem dX11_doLine_9 : decode cX11_doLine 9 = .ok (.aload_n 0, 1) := by decide +kernel
theorem dX11_doLine_10 : decode cX11_doLine 10 = .ok (.getfield 57, 3) := by decide +kernel
theorem dX11_doLine_13 : decode cX11_doLine 13 = .ok (.iload_n 1, 1) := by decide +kernel
theorem dX11_doLine_14 : decode cX11_doLine 14 = .ok (.iconst 2, 1) := by decide +kernel
theorem dX11_doLine_15 : decode cX11_doLine 15 = .ok (.iadd, 1) := by decide +kernel
theorem dX11_doLine_16 : decode cX11_doLine 16 = .ok (.iaload, 1) := by decide +kernel
theorem dX11_doLine_17 : decode cX11_doLine 17 = .ok (.istore_n 3, 1) := by decide +kernel
theorem dX11_doLine_18 : decode cX11_doLine 18 = .ok (.aload_n 0, 1) := by decide +kernel
theorem dX11_doLine_19 : decode cX11_doLine 19 = .ok (.getfield 57, 3) := by decide +kernel
theorem dX11_doLine_22 : decode cX11_doLine 22 = .ok (.iload_n 1, 1) := by decide +kernel
theorem dX11_doLine_23 : decode cX11_doLine 23 = .ok (.iaload, 1) := by decide +kernel
theorem dX11_doLine_24 : decode cX11_doLine 24 = .ok (.tableswitch 197 0 4 #[36, 88, 127, 152, 160], 36) := by decide +kernel
theorem dX11_doLine_60 : decode cX11_doLine 60 = .ok (.aload_n 0, 1) := by decide +kernel
theorem dX11_doLine_61 : decode cX11_doLine 61 = .ok (.aload_n 0, 1) := by decide +kernel
theorem dX11_doLine_62 : decode cX11_doLine 62 = .ok (.getfield 124, 3) := by decide +kernel
theorem dX11_doLine_65 : decode cX11_doLine 65 = .ok (.iconst 1, 1) := by decide +kernel
theorem dX11_doLine_66 : decode cX11_doLine 66 = .ok (.iload_n 2, 1) := by decide +kernel
theorem dX11_doLine_67 : decode cX11_doLine 67 = .ok (.ishl, 1) := by decide +kernel
theorem dX11_doLine_68 : decode cX11_doLine 68 = .ok (.ior, 1) := by decide +kernel
theorem dX11_doLine_69 : decode cX11_doLine 69 = .ok (.putfield 124, 3) := by decide +kernel
theorem dX11_doLine_72 : decode cX11_doLine 72 = .ok (.iconst 0, 1) := by decide +kernel
theorem dX11_doLine_73 : decode cX11_doLine 73 = .ok (.istore 4, 2) := by decide +kernel
theorem dX11_doLine_75 : decode cX11_doLine 75 = .ok (.iload 4, 2) := by decide +kernel
theorem dX11_doLine_77 : decode cX11_doLine 77 = .ok (.iconst 4, 1) := by decide +kernel
theorem dX11_doLine_78 : decode cX11_doLine 78 = .ok (.if_icmp .ge 31, 3) := by decide +kernel
theorem dX11_doLine_81 : decode cX11_doLine 81 = .ok (.aload_n 0, 1) := by decide +kernel
theorem dX11_doLine_82 : decode cX11_doLine 82 = .ok (.getfield 7, 3) := by decide +kernel
theorem dX11_doLine_85 : decode cX11_doLine 85 = .ok (.iconst 4, 1) := by decide +kernel
theorem dX11_doLine_86 : decode cX11_doLine 86 = .ok (.iload_n 2, 1) := by decide +kernel
theorem dX11_doLine_87 : decode cX11_doLine 87 = .ok (.imul, 1) := by decide +kernel
theorem dX11_doLine_88 : decode cX11_doLine 88 = .ok (.iload 4, 2) := by decide +kernel
theorem dX11_doLine_90 : decode cX11_doLine 90 = .ok (.iadd, 1) := by decide +kernel
theorem dX11_doLine_91 : decode cX11_doLine 91 = .ok (.aload_n 0, 1) := by decide +kernel
theorem dX11_doLine_92 : decode cX11_doLine 92 = .ok (.getfield 57, 3) := by decide +kernel
theorem dX11_doLine_95 : decode cX11_doLine 95 = .ok (.iload_n 1, 1) := by decide +kernel
theorem dX11_doLine_96 : decode cX11_doLine 96 = .ok (.iconst 2, 1) := by decide +kernel
theorem dX11_doLine_97 : decode cX11_doLine 97 = .ok (.iadd, 1) := by decide +kernel
theorem dX11_doLine_98 : decode cX11_doLine 98 = .ok (.iload 4, 2) := by decide +kernel
theorem dX11_doLine_100 : decode cX11_doLine 100 = .ok (.iadd, 1) := by decide +kernel
theorem dX11_doLine_101 : decode cX11_doLine 101 = .ok (.iaload, 1) := by decide +kernel
theorem dX11_doLine_102 : decode cX11_doLine 102 = .ok (.iastore, 1) := by decide +kernel
theorem dX11_doLine_103 : decode cX11_doLine 103 = .ok (.iinc 4 1, 3) := by decide +kernel
theorem dX11_doLine_106 : decode cX11_doLine 106 = .ok (.goto (-31), 3) := by decide +kernel
theorem dX11_doLine_109 : decode cX11_doLine 109 = .ok (.goto 119, 3) := by decide +kernel
theorem dX11_doLine_112 : decode cX11_doLine 112 = .ok (.aload_n 0, 1) := by decide +kernel
theorem dX11_doLine_113 : decode cX11_doLine 113 = .ok (.getfield 22, 3) := by decide +kernel
theorem dX11_doLine_116 : decode cX11_doLine 116 = .ok (.iconst 5, 1) := by decide +kernel
theorem dX11_doLine_117 : decode cX11_doLine 117 = .ok (.iload_n 2, 1) := by decide +kernel
theorem dX11_doLine_118 : decode cX11_doLine 118 = .ok (.imul, 1) := by decide +kernel
theorem dX11_doLine_119 : decode cX11_doLine 119 = .ok (.iload_n 3, 1) := by decide +kernel
theorem dX11_doLine_120 : decode cX11_doLine 120 = .ok (.iadd, 1) := by decide +kernel
theorem dX11_doLine_121 : decode cX11_doLine 121 = .ok (.aload_n 0, 1) := by decide +kernel
theorem dX11_doLine_122 : decode cX11_doLine 122 = .ok (.getfield 57, 3) := by decide +kernel
theorem dX11_doLine_125 : decode cX11_doLine 125 = .ok (.iload_n 1, 1) := by decide +kernel
theorem dX11_doLine_126 : decode cX11_doLine 126 = .ok (.iconst 3, 1) := by decide +kernel
theorem dX11_doLine_127 : decode cX11_doLine 127 = .ok (.iadd, 1) := by decide +kernel
theorem dX11_doLine_128 : decode cX11_doLine 128 = .ok (.iaload, 1) := by decide +kernel
theorem dX11_doLine_129 : decode cX11_doLine 129 = .ok (.iastore, 1) := by decide +kernel
theorem dX11_doLine_130 : decode cX11_doLine 130 = .ok (.aload_n 0, 1) := by decide +kernel
theorem dX11_doLine_131 : decode cX11_doLine 131 = .ok (.getfield 22, 3) := by decide +kernel
theorem dX11_doLine_134 : decode cX11_doLine 134 = .ok (.iconst 5, 1) := by decide +kernel
theorem dX11_doLine_135 : decode cX11_doLine 135 = .ok (.iload_n 3, 1) := by decide +kernel
theorem dX11_doLine_136 : decode cX11_doLine 136 = .ok (.imul, 1) := by decide +kernel
theorem dX11_doLine_137 : decode cX11_doLine 137 = .ok (.iload_n 2, 1) := by decide +kernel
theorem dX11_doLine_138 : decode cX11_doLine 138 = .ok (.iadd, 1) := by decide +kernel
theorem dX11_doLine_139 : decode cX11_doLine 139 = .ok (.aload_n 0, 1) := by decide +kernel
theorem dX11_doLine_140 : decode cX11_doLine 140 = .ok (.getfield 57, 3) := by decide +kernel
theorem dX11_doLine_143 : decode cX11_doLine 143 = .ok (.iload_n 1, 1) := by decide +kernel
theorem dX11_doLine_144 : decode cX11_doLine 144 = .ok (.iconst 3, 1) := by decide +kernel
theorem dX11_doLine_145 : decode cX11_doLine 145 = .ok (.iadd, 1) := by decide +kernel
theorem dX11_doLine_146 : decode cX11_doLine 146 = .ok (.iaload, 1) := by decide +kernel
theorem dX11_doLine_147 : decode cX11_doLine 147 = .ok (.iastore, 1) := by decide +kernel
theorem dX11_doLine_148 : decode cX11_doLine 148 = .ok (.goto 80, 3) := by decide +kernel
theorem dX11_doLine_151 : decode cX11_doLine 151 = .ok (.aload_n 0, 1) := by decide +kernel
theorem dX11_doLine_152 : decode cX11_doLine 152 = .ok (.iload_n 2, 1) := by decide +kernel
theorem dX11_doLine_153 : decode cX11_doLine 153 = .ok (.putfield 25, 3) := by decide +kernel
theorem dX11_doLine_156 : decode cX11_doLine 156 = .ok (.aload_n 0, 1) := by decide +kernel
theorem dX11_doLine_157 : decode cX11_doLine 157 = .ok (.iload_n 3, 1) := by decide +kernel
theorem dX11_doLine_158 : decode cX11_doLine 158 = .ok (.putfield 29, 3) := by decide +kernel
theorem dX11_doLine_161 : decode cX11_doLine 161 = .ok (.aload_n 0, 1) := by decide +kernel
theorem dX11_doLine_162 : decode cX11_doLine 162 = .ok (.aload_n 0, 1) := by decide +kernel
theorem dX11_doLine_163 : decode cX11_doLine 163 = .ok (.getfield 57, 3) := by decide +kernel
theorem dX11_doLine_166 : decode cX11_doLine 166 = .ok (.iload_n 1, 1) := by decide +kernel
theorem dX11_doLine_167 : decode cX11_doLine 167 = .ok (.iconst 3, 1) := by decide +kernel
theorem dX11_doLine_168 : decode cX11_doLine 168 = .ok (.iadd, 1) := by decide +kernel
theorem dX11_doLine_169 : decode cX11_doLine 169 = .ok (.iaload, 1) := by decide +kernel
theorem dX11_doLine_170 : decode cX11_doLine 170 = .ok (.putfield 32, 3) := by decide +kernel
theorem dX11_doLine_173 : decode cX11_doLine 173 = .ok (.goto 55, 3) := by decide +kernel
theorem dX11_doLine_176 : decode cX11_doLine 176 = .ok (.aload_n 0, 1) := by decide +kernel
theorem dX11_doLine_177 : decode cX11_doLine 177 = .ok (.iload_n 2, 1) := by decide +kernel
theorem dX11_doLine_178 : decode cX11_doLine 178 = .ok (.putfield 35, 3) := by decide +kernel
theorem dX11_doLine_181 : decode cX11_doLine 181 = .ok (.goto 47, 3) := by decide +kernel
theorem dX11_doLine_184 : decode cX11_doLine 184 = .ok (.aload_n 0, 1) := by decide +kernel
theorem dX11_doLine_185 : decode cX11_doLine 185 = .ok (.iload_n 2, 1) := by decide +kernel
theorem dX11_doLine_186 : decode cX11_doLine 186 = .ok (.putfield 38, 3) := by decide +kernel
theorem dX11_doLine_189 : decode cX11_doLine 189 = .ok (.aload_n 0, 1) := by decide +kernel
theorem dX11_doLine_190 : decode cX11_doLine 190 = .ok (.iload_n 3, 1) := by decide +kernel
theorem dX11_doLine_191 : decode cX11_doLine 191 = .ok (.putfield 41, 3) := by decide +kernel
theorem dX11_doLine_194 : decode cX11_doLine 194 = .ok (.aload_n 0, 1) := by decide +kernel
theorem dX11_doLine_195 : decode cX11_doLine 195 = .ok (.aload_n 0, 1) := by decide +kernel
theorem dX11_doLine_196 : decode cX11_doLine 196 = .ok (.getfield 57, 3) := by decide +kernel
theorem dX11_doLine_199 : decode cX11_doLine 199 = .ok (.iload_n 1, 1) := by decide +kernel
theorem dX11_doLine_200 : decode cX11_doLine 200 = .ok (.iconst 3, 1) := by decide +kernel
theorem dX11_doLine_201 : decode cX11_doLine 201 = .ok (.iadd, 1) := by decide +kernel
theorem dX11_doLine_202 : decode cX11_doLine 202 = .ok (.iaload, 1) := by decide +kernel
theorem dX11_doLine_203 : decode cX11_doLine 203 = .ok (.putfield 44, 3) := by decide +kernel
theorem dX11_doLine_206 : decode cX11_doLine 206 = .ok (.aload_n 0, 1) := by decide +kernel
theorem dX11_doLine_207 : decode cX11_doLine 207 = .ok (.aload_n 0, 1) := by decide +kernel
theorem dX11_doLine_208 : decode cX11_doLine 208 = .ok (.getfield 57, 3) := by decide +kernel
theorem dX11_doLine_211 : decode cX11_doLine 211 = .ok (.iload_n 1, 1) := by decide +kernel
theorem dX11_doLine_212 : decode cX11_doLine 212 = .ok (.iconst 4, 1) := by decide +kernel
theorem dX11_doLine_213 : decode cX11_doLine 213 = .ok (.iadd, 1) := by decide +kernel
theorem dX11_doLine_214 : decode cX11_doLine 214 = .ok (.iaload, 1) := by decide +kernel
theorem dX11_doLine_215 : decode cX11_doLine 215 = .ok (.putfield 47, 3) := by decide +kernel
theorem dX11_doLine_218 : decode cX11_doLine 218 = .ok (.goto 10, 3) := by decide +kernel
theorem dX11_doLine_221 : decode cX11_doLine 221 = .ok (.aload_n 0, 1) := by decide +kernel
theorem dX11_doLine_222 : decode cX11_doLine 222 = .ok (.iload_n 1, 1) := by decide +kernel
theorem dX11_doLine_223 : decode cX11_doLine 223 = .ok (.iload_n 2, 1) := by decide +kernel
theorem dX11_doLine_224 : decode cX11_doLine 224 = .ok (.iload_n 3, 1) := by decide +kernel
theorem dX11_doLine_225 : decode cX11_doLine 225 = .ok (.invokevirtual 210, 3) := by decide +kernel
theorem dX11_doLine_228 : decode cX11_doLine 228 = .ok (.return_, 1) := by decide +kernel
theorem dX11_doHours_0 : decode cX11_doHours 0 = .ok (.aload_n 0, 1) := by decide +kernel
theorem dX11_doHours_1 : decode cX11_doHours 1 = .ok (.getfield 57, 3) := by decide +kernel
theorem dX11_doHours_4 : decode cX11_doHours 4 = .ok (.iload_n 1, 1) := by decide +kernel
theorem dX11_doHours_5 : decode cX11_doHours 5 = .ok (.iaload, 1) := by decide +kernel
theorem dX11_doHours_6 : decode cX11_doHours 6 = .ok (.iconst 5, 1) := by decide +kernel
theorem dX11_doHours_7 : decode cX11_doHours 7 = .ok (.if_icmp .ne 13, 3) := by decide +kernel
theorem dX11_doHours_10 : decode cX11_doHours 10 = .ok (.aload_n 0, 1) := by decide +kernel
theorem dX11_doHours_11 : decode cX11_doHours 11 = .ok (.getfield 13, 3) := by decide +kernel
theorem dX11_doHours_14 : decode cX11_doHours 14 = .ok (.iload_n 2, 1) := by decide +kernel
theorem dX11_doHours_15 : decode cX11_doHours 15 = .ok (.iload_n 3, 1) := by decide +kernel
theorem dX11_doHours_16 : decode cX11_doHours 16 = .ok (.iastore, 1) := by decide +kernel
theorem dX11_doHours_17 : decode cX11_doHours 17 = .ok (.goto 114, 3) := by decide +kernel
theorem dX11_doHours_20 : decode cX11_doHours 20 = .ok (.aload_n 0, 1) := by decide +kernel
theorem dX11_doHours_21 : decode cX11_doHours 21 = .ok (.getfield 57, 3) := by decide +kernel
theorem dX11_doHours_24 : decode cX11_doHours 24 = .ok (.iload_n 1, 1) := by decide +kernel
theorem dX11_doHours_25 : decode cX11_doHours 25 = .ok (.iaload, 1) := by decide +kernel
theorem dX11_doHours_26 : decode cX11_doHours 26 = .ok (.bipush 6, 2) := by decide +kernel
theorem dX11_doHours_28 : decode cX11_doHours 28 = .ok (.if_icmp .ne 24, 3) := by decide +kernel
theorem dX11_doHours_31 : decode cX11_doHours 31 = .ok (.aload_n 0, 1) := by decide +kernel
theorem dX11_doHours_32 : decode cX11_doHours 32 = .ok (.getfield 16, 3) := by decide +kernel
theorem dX11_doHours_35 : decode cX11_doHours 35 = .ok (.iload_n 2, 1) := by decide +kernel
theorem dX11_doHours_36 : decode cX11_doHours 36 = .ok (.iload_n 3, 1) := by decide +kernel
theorem dX11_doHours_37 : decode cX11_doHours 37 = .ok (.aload_n 0, 1) := by decide +kernel
theorem dX11_doHours_38 : decode cX11_doHours 38 = .ok (.getfield 57, 3) := by decide +kernel
theorem dX11_doHours_41 : decode cX11_doHours 41 = .ok (.iload_n 1, 1) := by decide +kernel
theorem dX11_doHours_42 : decode cX11_doHours 42 = .ok (.iconst 3, 1) := by decide +kernel
theorem dX11_doHours_43 : decode cX11_doHours 43 = .ok (.iadd, 1) := by decide +kernel
theorem dX11_doHours_44 : decode cX11_doHours 44 = .ok (.iaload, 1) := by decide +kernel
theorem dX11_doHours_45 : decode cX11_doHours 45 = .ok (.invokestatic 214, 3) := by decide +kernel
theorem dX11_doHours_48 : decode cX11_doHours 48 = .ok (.iastore, 1) := by decide +kernel
theorem dX11_doHours_49 : decode cX11_doHours 49 = .ok (.goto 82, 3) := by decide +kernel
theorem dX11_doHours_52 : decode cX11_doHours 52 = .ok (.aload_n 0, 1) := by decide +kernel
theorem dX11_doHours_53 : decode cX11_doHours 53 = .ok (.getfield 57, 3) := by decide +kernel
theorem dX11_doHours_56 : decode cX11_doHours 56 = .ok (.iload_n 1, 1) := by decide +kernel
theorem dX11_doHours_57 : decode cX11_doHours 57 = .ok (.iaload, 1) := by decide +kernel
theorem dX11_doHours_58 : decode cX11_doHours 58 = .ok (.bipush 7, 2) := by decide +kernel
theorem dX11_doHours_60 : decode cX11_doHours 60 = .ok (.if_icmp .ne 24, 3) := by decide +kernel
theorem dX11_doHours_63 : decode cX11_doHours 63 = .ok (.aload_n 0, 1) := by decide +kernel
theorem dX11_doHours_64 : decode cX11_doHours 64 = .ok (.getfield 19, 3) := by decide +kernel
theorem dX11_doHours_67 : decode cX11_doHours 67 = .ok (.iload_n 2, 1) := by decide +kernel
theorem dX11_doHours_68 : decode cX11_doHours 68 = .ok (.iload_n 3, 1) := by decide +kernel
theorem dX11_doHours_69 : decode cX11_doHours 69 = .ok (.aload_n 0, 1) := by decide +kernel
theorem dX11_doHours_70 : decode cX11_doHours 70 = .ok (.getfield 57, 3) := by decide +kernel
theorem dX11_doHours_73 : decode cX11_doHours 73 = .ok (.iload_n 1, 1) := by decide +kernel
theorem dX11_doHours_74 : decode cX11_doHours 74 = .ok (.iconst 3, 1) := by decide +kernel
theorem dX11_doHours_75 : decode cX11_doHours 75 = .ok (.iadd, 1) := by decide +kernel
theorem dX11_doHours_76 : decode cX11_doHours 76 = .ok (.iaload, 1) := by decide +kernel
theorem dX11_doHours_77 : decode cX11_doHours 77 = .ok (.invokestatic 214, 3) := by decide +kernel
theorem dX11_doHours_80 : decode cX11_doHours 80 = .ok (.iastore, 1) := by decide +kernel
theorem dX11_doHours_81 : decode cX11_doHours 81 = .ok (.goto 50, 3) := by decide +kernel
theorem dX11_doHours_84 : decode cX11_doHours 84 = .ok (.aload_n 0, 1) := by decide +kernel
theorem dX11_doHours_85 : decode cX11_doHours 85 = .ok (.getfield 57, 3) := by decide +kernel
theorem dX11_doHours_88 : decode cX11_doHours 88 = .ok (.iload_n 1, 1) := by decide +kernel
theorem dX11_doHours_89 : decode cX11_doHours 89 = .ok (.iaload, 1) := by decide +kernel
theorem dX11_doHours_90 : decode cX11_doHours 90 = .ok (.bipush 8, 2) := by decide +kernel
theorem dX11_doHours_92 : decode cX11_doHours 92 = .ok (.if_icmp .ne 25, 3) := by decide +kernel
theorem dX11_doHours_95 : decode cX11_doHours 95 = .ok (.aload_n 0, 1) := by decide +kernel
theorem dX11_doHours_96 : decode cX11_doHours 96 = .ok (.iload_n 2, 1) := by decide +kernel
theorem dX11_doHours_97 : decode cX11_doHours 97 = .ok (.iload_n 3, 1) := by decide +kernel
theorem dX11_doHours_98 : decode cX11_doHours 98 = .ok (.if_icmp .ne 8, 3) := by decide +kernel
theorem dX11_doHours_101 : decode cX11_doHours 101 = .ok (.ldc 50, 2) := by decide +kernel
theorem dX11_doHours_103 : decode cX11_doHours 103 = .ok (.goto 8, 3) := by decide +kernel
theorem dX11_doHours_106 : decode cX11_doHours 106 = .ok (.iload_n 2, 1) := by decide +kernel
theorem dX11_doHours_107 : decode cX11_doHours 107 = .ok (.iload_n 3, 1) := by decide +kernel
theorem dX11_doHours_108 : decode cX11_doHours 108 = .ok (.invokestatic 214, 3) := by decide +kernel
theorem dX11_doHours_111 : decode cX11_doHours 111 = .ok (.putfield 51, 3) := by decide +kernel
theorem dX11_doHours_114 : decode cX11_doHours 114 = .ok (.goto 17, 3) := by decide +kernel
theorem dX11_doHours_117 : decode cX11_doHours 117 = .ok (.aload_n 0, 1) := by decide +kernel
theorem dX11_doHours_118 : decode cX11_doHours 118 = .ok (.aload_n 0, 1) := by decide +kernel
theorem dX11_doHours_119 : decode cX11_doHours 119 = .ok (.getfield 124, 3) := by decide +kernel
theorem dX11_doHours_122 : decode cX11_doHours 122 = .ok (.iconst 1, 1) := by decide +kernel
theorem dX11_doHours_123 : decode cX11_doHours 123 = .ok (.iload_n 2, 1) := by decide +kernel
theorem dX11_doHours_124 : decode cX11_doHours 124 = .ok (.ishl, 1) := by decide +kernel
theorem dX11_doHours_125 : decode cX11_doHours 125 = .ok (.iconst (-1), 1) := by decide +kernel
theorem dX11_doHours_126 : decode cX11_doHours 126 = .ok (.ixor, 1) := by decide +kernel
theorem dX11_doHours_127 : decode cX11_doHours 127 = .ok (.iand, 1) := by decide +kernel
theorem dX11_doHours_128 : decode cX11_doHours 128 = .ok (.putfield 124, 3) := by decide +kernel
theorem dX11_doHours_131 : decode cX11_doHours 131 = .ok (.return_, 1) := by decide +kernel
theorem dX11_week_0 : decode cX11_week 0 = .ok (.aload_n 0, 1) := by decide +kernel
theorem dX11_week_1 : decode cX11_week 1 = .ok (.invokevirtual 207, 3) := by decide +kernel
theorem dX11_week_4 : decode cX11_week 4 = .ok (.ifCond .ne 6, 3) := by decide +kernel
theorem dX11_week_7 : decode cX11_week 7 = .ok (.bipush (-4), 2) := by decide +kernel
theorem dX11_week_9 : decode cX11_week 9 = .ok (.ireturn, 1) := by decide +kernel
theorem dX11_week_10 : decode cX11_week 10 = .ok (.iconst 0, 1) := by decide +kernel
theorem dX11_week_11 : decode cX11_week 11 = .ok (.istore_n 1, 1) := by decide +kernel
theorem dX11_week_12 : decode cX11_week 12 = .ok (.iload_n 1, 1) := by decide +kernel
theorem dX11_week_13 : decode cX11_week 13 = .ok (.aload_n 0, 1) := by decide +kernel
theorem dX11_week_14 : decode cX11_week 14 = .ok (.getfield 201, 3) := by decide +kernel
theorem dX11_week_17 : decode cX11_week 17 = .ok (.if_icmp .ge 17, 3) := by decide +kernel
theorem dX11_week_20 : decode cX11_week 20 = .ok (.aload_n 0, 1) := by decide +kernel
theorem dX11_week_21 : decode cX11_week 21 = .ok (.bipush 6, 2) := by decide +kernel
theorem dX11_week_23 : decode cX11_week 23 = .ok (.iload_n 1, 1) := by decide +kernel
theorem dX11_week_24 : decode cX11_week 24 = .ok (.imul, 1) := by decide +kernel
theorem dX11_week_25 : decode cX11_week 25 = .ok (.invokevirtual 218, 3) := by decide +kernel
theorem dX11_week_28 : decode cX11_week 28 = .ok (.iinc 1 1, 3) := by decide +kernel
theorem dX11_week_31 : decode cX11_week 31 = .ok (.goto (-19), 3) := by decide +kernel
theorem dX11_week_34 : decode cX11_week 34 = .ok (.aload_n 0, 1) := by decide +kernel
theorem dX11_week_35 : decode cX11_week 35 = .ok (.iconst 0, 1) := by decide +kernel
theorem dX11_week_36 : decode cX11_week 36 = .ok (.putfield 131, 3) := by decide +kernel
theorem dX11_week_39 : decode cX11_week 39 = .ok (.aload_n 0, 1) := by decide +kernel
theorem dX11_week_40 : decode cX11_week 40 = .ok (.getfield 201, 3) := by decide +kernel
theorem dX11_week_43 : decode cX11_week 43 = .ok (.ireturn, 1) := by decide +kernel
theorem dX11_room_0 : decode cX11_room 0 = .ok (.aload_n 0, 1) := by decide +kernel
theorem dX11_room_1 : decode cX11_room 1 = .ok (.iload_n 1, 1) := by decide +kernel
theorem dX11_room_2 : decode cX11_room 2 = .ok (.invokevirtual 222, 3) := by decide +kernel
theorem dX11_room_5 : decode cX11_room 5 = .ok (.ifCond .ne 6, 3) := by decide +kernel
theorem dX11_room_8 : decode cX11_room 8 = .ok (.bipush (-2), 2) := by decide +kernel
theorem dX11_room_10 : decode cX11_room 10 = .ok (.ireturn, 1) := by decide +kernel
theorem dX11_room_11 : decode cX11_room 11 = .ok (.iload_n 2, 1) := by decide +kernel
theorem dX11_room_12 : decode cX11_room 12 = .ok (.tableswitch 76 0 6 #[44, 44, 44, 44, 55, 62, 69], 44) := by decide +kernel
theorem dX11_room_56 : decode cX11_room 56 = .ok (.aload_n 0, 1) := by decide +kernel
theorem dX11_room_57 : decode cX11_room 57 = .ok (.getfield 7, 3) := by decide +kernel
theorem dX11_room_60 : decode cX11_room 60 = .ok (.iconst 4, 1) := by decide +kernel
theorem dX11_room_61 : decode cX11_room 61 = .ok (.iload_n 1, 1) := by decide +kernel
theorem dX11_room_62 : decode cX11_room 62 = .ok (.imul, 1) := by decide +kernel
theorem dX11_room_63 : decode cX11_room 63 = .ok (.iload_n 2, 1) := by decide +kernel
theorem dX11_room_64 : decode cX11_room 64 = .ok (.iadd, 1) := by decide +kernel
theorem dX11_room_65 : decode cX11_room 65 = .ok (.iaload, 1) := by decide +kernel
theorem dX11_room_66 : decode cX11_room 66 = .ok (.ireturn, 1) := by decide +kernel
theorem dX11_room_67 : decode cX11_room 67 = .ok (.aload_n 0, 1) := by decide +kernel
theorem dX11_room_68 : decode cX11_room 68 = .ok (.getfield 13, 3) := by decide +kernel
theorem dX11_room_71 : decode cX11_room 71 = .ok (.iload_n 1, 1) := by decide +kernel
theorem dX11_room_72 : decode cX11_room 72 = .ok (.iaload, 1) := by decide +kernel
theorem dX11_room_73 : decode cX11_room 73 = .ok (.ireturn, 1) := by decide +kernel
theorem dX11_room_74 : decode cX11_room 74 = .ok (.aload_n 0, 1) := by decide +kernel
theorem dX11_room_75 : decode cX11_room 75 = .ok (.getfield 16, 3) := by decide +kernel
theorem dX11_room_78 : decode cX11_room 78 = .ok (.iload_n 1, 1) := by decide +kernel
theorem dX11_room_79 : decode cX11_room 79 = .ok (.iaload, 1) := by decide +kernel
theorem dX11_room_80 : decode cX11_room 80 = .ok (.ireturn, 1) := by decide +kernel
theorem dX11_room_81 : decode cX11_room 81 = .ok (.aload_n 0, 1) := by decide +kernel
theorem dX11_room_82 : decode cX11_room 82 = .ok (.getfield 19, 3) := by decide +kernel
theorem dX11_room_85 : decode cX11_room 85 = .ok (.iload_n 1, 1) := by decide +kernel
theorem dX11_room_86 : decode cX11_room 86 = .ok (.iaload, 1) := by decide +kernel
theorem dX11_room_87 : decode cX11_room 87 = .ok (.ireturn, 1) := by decide +kernel
theorem dX11_room_88 : decode cX11_room 88 = .ok (.bipush (-3), 2) := by decide +kernel
theorem dX11_room_90 : decode cX11_room 90 = .ok (.ireturn, 1) := by decide +kernel
theorem dX11_door_0 : decode cX11_door 0 = .ok (.iload_n 1, 1) := by decide +kernel
theorem dX11_door_1 : decode cX11_door 1 = .ok (.iconst 0, 1) := by decide +kernel
theorem dX11_door_2 : decode cX11_door 2 = .ok (.iconst 4, 1) := by decide +kernel
theorem dX11_door_3 : decode cX11_door 3 = .ok (.invokestatic 120, 3) := by decide +kernel
theorem dX11_door_6 : decode cX11_door 6 = .ok (.ifCond .eq 30, 3) := by decide +kernel
theorem dX11_door_9 : decode cX11_door 9 = .ok (.iload_n 2, 1) := by decide +kernel
theorem dX11_door_10 : decode cX11_door 10 = .ok (.iconst 0, 1) := by decide +kernel
theorem dX11_door_11 : decode cX11_door 11 = .ok (.iconst 4, 1) := by decide +kernel
theorem dX11_door_12 : decode cX11_door 12 = .ok (.invokestatic 120, 3) := by decide +kernel
theorem dX11_door_15 : decode cX11_door 15 = .ok (.ifCond .eq 21, 3) := by decide +kernel
theorem dX11_door_18 : decode cX11_door 18 = .ok (.iload_n 1, 1) := by decide +kernel
theorem dX11_door_19 : decode cX11_door 19 = .ok (.iload_n 2, 1) := by decide +kernel
theorem dX11_door_20 : decode cX11_door 20 = .ok (.if_icmp .eq 16, 3) := by decide +kernel
theorem dX11_door_23 : decode cX11_door 23 = .ok (.aload_n 0, 1) := by decide +kernel
theorem dX11_door_24 : decode cX11_door 24 = .ok (.getfield 22, 3) := by decide +kernel
theorem dX11_door_27 : decode cX11_door 27 = .ok (.iconst 5, 1) := by decide +kernel
theorem dX11_door_28 : decode cX11_door 28 = .ok (.iload_n 1, 1) := by decide +kernel
theorem dX11_door_29 : decode cX11_door 29 = .ok (.imul, 1) := by decide +kernel
theorem dX11_door_30 : decode cX11_door 30 = .ok (.iload_n 2, 1) := by decide +kernel
theorem dX11_door_31 : decode cX11_door 31 = .ok (.iadd, 1) := by decide +kernel
theorem dX11_door_32 : decode cX11_door 32 = .ok (.iaload, 1) := by decide +kernel
theorem dX11_door_33 : decode cX11_door 33 = .ok (.goto 5, 3) := by decide +kernel
theorem dX11_door_36 : decode cX11_door 36 = .ok (.bipush (-2), 2) := by decide +kernel
theorem dX11_door_38 : decode cX11_door 38 = .ok (.ireturn, 1) := by decide +kernel
theorem dX11_outAt_0 : decode cX11_outAt 0 = .ok (.iload_n 1, 1) := by decide +kernel
theorem dX11_outAt_1 : decode cX11_outAt 1 = .ok (.bipush 24, 2) := by decide +kernel
theorem dX11_outAt_3 : decode cX11_outAt 3 = .ok (.irem, 1) := by decide +kernel
theorem dX11_outAt_4 : decode cX11_outAt 4 = .ok (.istore_n 2, 1) := by decide +kernel
theorem dX11_outAt_5 : decode cX11_outAt 5 = .ok (.iload_n 2, 1) := by decide +kernel
theorem dX11_outAt_6 : decode cX11_outAt 6 = .ok (.iconst 5, 1) := by decide +kernel
theorem dX11_outAt_7 : decode cX11_outAt 7 = .ok (.if_icmp .ge 12, 3) := by decide +kernel
theorem dX11_outAt_10 : decode cX11_outAt 10 = .ok (.iload_n 1, 1) := by decide +kernel
theorem dX11_outAt_11 : decode cX11_outAt 11 = .ok (.bipush 24, 2) := by decide +kernel
theorem dX11_outAt_13 : decode cX11_outAt 13 = .ok (.idiv, 1) := by decide +kernel
theorem dX11_outAt_14 : decode cX11_outAt 14 = .ok (.iconst 1, 1) := by decide +kernel
theorem dX11_outAt_15 : decode cX11_outAt 15 = .ok (.isub, 1) := by decide +kernel
theorem dX11_outAt_16 : decode cX11_outAt 16 = .ok (.goto 7, 3) := by decide +kernel
theorem dX11_outAt_19 : decode cX11_outAt 19 = .ok (.iload_n 1, 1) := by decide +kernel
theorem dX11_outAt_20 : decode cX11_outAt 20 = .ok (.bipush 24, 2) := by decide +kernel
theorem dX11_outAt_22 : decode cX11_outAt 22 = .ok (.idiv, 1) := by decide +kernel
theorem dX11_outAt_23 : decode cX11_outAt 23 = .ok (.istore_n 3, 1) := by decide +kernel
theorem dX11_outAt_24 : decode cX11_outAt 24 = .ok (.aload_n 0, 1) := by decide +kernel
theorem dX11_outAt_25 : decode cX11_outAt 25 = .ok (.getfield 25, 3) := by decide +kernel
theorem dX11_outAt_28 : decode cX11_outAt 28 = .ok (.aload_n 0, 1) := by decide +kernel
theorem dX11_outAt_29 : decode cX11_outAt 29 = .ok (.getfield 32, 3) := by decide +kernel
theorem dX11_outAt_32 : decode cX11_outAt 32 = .ok (.iload_n 3, 1) := by decide +kernel
theorem dX11_outAt_33 : decode cX11_outAt 33 = .ok (.imul, 1) := by decide +kernel
theorem dX11_outAt_34 : decode cX11_outAt 34 = .ok (.iadd, 1) := by decide +kernel
theorem dX11_outAt_35 : decode cX11_outAt 35 = .ok (.istore 4, 2) := by decide +kernel
theorem dX11_outAt_37 : decode cX11_outAt 37 = .ok (.aload_n 0, 1) := by decide +kernel
theorem dX11_outAt_38 : decode cX11_outAt 38 = .ok (.getfield 29, 3) := by decide +kernel
theorem dX11_outAt_41 : decode cX11_outAt 41 = .ok (.aload_n 0, 1) := by decide +kernel
theorem dX11_outAt_42 : decode cX11_outAt 42 = .ok (.getfield 32, 3) := by decide +kernel
theorem dX11_outAt_45 : decode cX11_outAt 45 = .ok (.iload_n 3, 1) := by decide +kernel
theorem dX11_outAt_46 : decode cX11_outAt 46 = .ok (.imul, 1) := by decide +kernel
theorem dX11_outAt_47 : decode cX11_outAt 47 = .ok (.iadd, 1) := by decide +kernel
theorem dX11_outAt_48 : decode cX11_outAt 48 = .ok (.istore 5, 2) := by decide +kernel
theorem dX11_outAt_50 : decode cX11_outAt 50 = .ok (.iload_n 2, 1) := by decide +kernel
theorem dX11_outAt_51 : decode cX11_outAt 51 = .ok (.iconst 5, 1) := by decide +kernel
theorem dX11_outAt_52 : decode cX11_outAt 52 = .ok (.if_icmp .lt 25, 3) := by decide +kernel
theorem dX11_outAt_55 : decode cX11_outAt 55 = .ok (.iload_n 2, 1) := by decide +kernel
theorem dX11_outAt_56 : decode cX11_outAt 56 = .ok (.bipush 15, 2) := by decide +kernel
theorem dX11_outAt_58 : decode cX11_outAt 58 = .ok (.if_icmp .gt 19, 3) := by decide +kernel
theorem dX11_outAt_61 : decode cX11_outAt 61 = .ok (.iload 4, 2) := by decide +kernel
theorem dX11_outAt_63 : decode cX11_outAt 63 = .ok (.iload 5, 2) := by decide +kernel
theorem dX11_outAt_65 : decode cX11_outAt 65 = .ok (.iload 4, 2) := by decide +kernel
theorem dX11_outAt_67 : decode cX11_outAt 67 = .ok (.isub, 1) := by decide +kernel
theorem dX11_outAt_68 : decode cX11_outAt 68 = .ok (.iload_n 2, 1) := by decide +kernel
theorem dX11_outAt_69 : decode cX11_outAt 69 = .ok (.iconst 5, 1) := by decide +kernel
theorem dX11_outAt_70 : decode cX11_outAt 70 = .ok (.isub, 1) := by decide +kernel
theorem dX11_outAt_71 : decode cX11_outAt 71 = .ok (.imul, 1) := by decide +kernel
theorem dX11_outAt_72 : decode cX11_outAt 72 = .ok (.bipush 10, 2) := by decide +kernel
theorem dX11_outAt_74 : decode cX11_outAt 74 = .ok (.idiv, 1) := by decide +kernel
theorem dX11_outAt_75 : decode cX11_outAt 75 = .ok (.iadd, 1) := by decide +kernel
theorem dX11_outAt_76 : decode cX11_outAt 76 = .ok (.ireturn, 1) := by decide +kernel
theorem dX11_outAt_77 : decode cX11_outAt 77 = .ok (.iload_n 2, 1) := by decide +kernel
theorem dX11_outAt_78 : decode cX11_outAt 78 = .ok (.iconst 5, 1) := by decide +kernel
theorem dX11_outAt_79 : decode cX11_outAt 79 = .ok (.if_icmp .ge 10, 3) := by decide +kernel
theorem dX11_outAt_82 : decode cX11_outAt 82 = .ok (.iload_n 2, 1) := by decide +kernel
theorem dX11_outAt_83 : decode cX11_outAt 83 = .ok (.bipush 9, 2) := by decide +kernel
theorem dX11_outAt_85 : decode cX11_outAt 85 = .ok (.iadd, 1) := by decide +kernel
theorem dX11_outAt_86 : decode cX11_outAt 86 = .ok (.goto 7, 3) := by decide +kernel
theorem dX11_outAt_89 : decode cX11_outAt 89 = .ok (.iload_n 2, 1) := by decide +kernel
theorem dX11_outAt_90 : decode cX11_outAt 90 = .ok (.bipush 15, 2) := by decide +kernel
theorem dX11_outAt_92 : decode cX11_outAt 92 = .ok (.isub, 1) := by decide +kernel
theorem dX11_outAt_93 : decode cX11_outAt 93 = .ok (.istore 6, 2) := by decide +kernel
theorem dX11_outAt_95 : decode cX11_outAt 95 = .ok (.iload 5, 2) := by decide +kernel
theorem dX11_outAt_97 : decode cX11_outAt 97 = .ok (.iload 5, 2) := by decide +kernel
theorem dX11_outAt_99 : decode cX11_outAt 99 = .ok (.iload 4, 2) := by decide +kernel
theorem dX11_outAt_101 : decode cX11_outAt 101 = .ok (.isub, 1) := by decide +kernel
theorem dX11_outAt_102 : decode cX11_outAt 102 = .ok (.iload 6, 2) := by decide +kernel
theorem dX11_outAt_104 : decode cX11_outAt 104 = .ok (.imul, 1) := by decide +kernel
theorem dX11_outAt_105 : decode cX11_outAt 105 = .ok (.bipush 14, 2) := by decide +kernel
theorem dX11_outAt_107 : decode cX11_outAt 107 = .ok (.idiv, 1) := by decide +kernel
theorem dX11_outAt_108 : decode cX11_outAt 108 = .ok (.isub, 1) := by decide +kernel
theorem dX11_outAt_109 : decode cX11_outAt 109 = .ok (.ireturn, 1) := by decide +kernel
theorem dX11_out_0 : decode cX11_out 0 = .ok (.iload_n 1, 1) := by decide +kernel
theorem dX11_out_1 : decode cX11_out 1 = .ok (.iconst 0, 1) := by decide +kernel
theorem dX11_out_2 : decode cX11_out 2 = .ok (.bipush 95, 2) := by decide +kernel
theorem dX11_out_4 : decode cX11_out 4 = .ok (.invokestatic 120, 3) := by decide +kernel
theorem dX11_out_7 : decode cX11_out 7 = .ok (.ifCond .eq 11, 3) := by decide +kernel
theorem dX11_out_10 : decode cX11_out 10 = .ok (.aload_n 0, 1) := by decide +kernel
theorem dX11_out_11 : decode cX11_out 11 = .ok (.iload_n 1, 1) := by decide +kernel
theorem dX11_out_12 : decode cX11_out 12 = .ok (.invokevirtual 225, 3) := by decide +kernel
theorem dX11_out_15 : decode cX11_out 15 = .ok (.goto 5, 3) := by decide +kernel
theorem dX11_out_18 : decode cX11_out 18 = .ok (.bipush (-2), 2) := by decide +kernel
theorem dX11_out_20 : decode cX11_out 20 = .ok (.ireturn, 1) := by decide +kernel
theorem dX11_sunAt_0 : decode cX11_sunAt 0 = .ok (.aload_n 0, 1) := by decide +kernel
theorem dX11_sunAt_1 : decode cX11_sunAt 1 = .ok (.getfield 7, 3) := by decide +kernel
theorem dX11_sunAt_4 : decode cX11_sunAt 4 = .ok (.iconst 4, 1) := by decide +kernel
theorem dX11_sunAt_5 : decode cX11_sunAt 5 = .ok (.iload_n 1, 1) := by decide +kernel
theorem dX11_sunAt_6 : decode cX11_sunAt 6 = .ok (.imul, 1) := by decide +kernel
theorem dX11_sunAt_7 : decode cX11_sunAt 7 = .ok (.iconst 2, 1) := by decide +kernel
theorem dX11_sunAt_8 : decode cX11_sunAt 8 = .ok (.iadd, 1) := by decide +kernel
theorem dX11_sunAt_9 : decode cX11_sunAt 9 = .ok (.iaload, 1) := by decide +kernel
theorem dX11_sunAt_10 : decode cX11_sunAt 10 = .ok (.istore_n 3, 1) := by decide +kernel
theorem dX11_sunAt_11 : decode cX11_sunAt 11 = .ok (.iload_n 3, 1) := by decide +kernel
theorem dX11_sunAt_12 : decode cX11_sunAt 12 = .ok (.iconst 1, 1) := by decide +kernel
theorem dX11_sunAt_13 : decode cX11_sunAt 13 = .ok (.if_icmp .ne 14, 3) := by decide +kernel
theorem dX11_sunAt_16 : decode cX11_sunAt 16 = .ok (.iload_n 2, 1) := by decide +kernel
theorem dX11_sunAt_17 : decode cX11_sunAt 17 = .ok (.bipush 6, 2) := by decide +kernel
theorem dX11_sunAt_19 : decode cX11_sunAt 19 = .ok (.bipush 10, 2) := by decide +kernel
theorem dX11_sunAt_21 : decode cX11_sunAt 21 = .ok (.invokestatic 120, 3) := by decide +kernel
theorem dX11_sunAt_24 : decode cX11_sunAt 24 = .ok (.goto 40, 3) := by decide +kernel
theorem dX11_sunAt_27 : decode cX11_sunAt 27 = .ok (.iload_n 3, 1) := by decide +kernel
theorem dX11_sunAt_28 : decode cX11_sunAt 28 = .ok (.iconst 2, 1) := by decide +kernel
theorem dX11_sunAt_29 : decode cX11_sunAt 29 = .ok (.if_icmp .ne 14, 3) := by decide +kernel
theorem dX11_sunAt_32 : decode cX11_sunAt 32 = .ok (.iload_n 2, 1) := by decide +kernel
theorem dX11_sunAt_33 : decode cX11_sunAt 33 = .ok (.bipush 10, 2) := by decide +kernel
theorem dX11_sunAt_35 : decode cX11_sunAt 35 = .ok (.bipush 15, 2) := by decide +kernel
theorem dX11_sunAt_37 : decode cX11_sunAt 37 = .ok (.invokestatic 120, 3) := by decide +kernel
theorem dX11_sunAt_40 : decode cX11_sunAt 40 = .ok (.goto 24, 3) := by decide +kernel
theorem dX11_sunAt_43 : decode cX11_sunAt 43 = .ok (.iload_n 3, 1) := by decide +kernel
theorem dX11_sunAt_44 : decode cX11_sunAt 44 = .ok (.iconst 3, 1) := by decide +kernel
theorem dX11_sunAt_45 : decode cX11_sunAt 45 = .ok (.if_icmp .ne 18, 3) := by decide +kernel
theorem dX11_sunAt_48 : decode cX11_sunAt 48 = .ok (.iload_n 2, 1) := by decide +kernel
theorem dX11_sunAt_49 : decode cX11_sunAt 49 = .ok (.bipush 15, 2) := by decide +kernel
theorem dX11_sunAt_51 : decode cX11_sunAt 51 = .ok (.bipush 19, 2) := by decide +kernel
theorem dX11_sunAt_53 : decode cX11_sunAt 53 = .ok (.invokestatic 120, 3) := by decide +kernel
theorem dX11_sunAt_56 : decode cX11_sunAt 56 = .ok (.ifCond .eq 7, 3) := by decide +kernel
theorem dX11_sunAt_59 : decode cX11_sunAt 59 = .ok (.iconst 1, 1) := by decide +kernel
theorem dX11_sunAt_60 : decode cX11_sunAt 60 = .ok (.goto 4, 3) := by decide +kernel
theorem dX11_sunAt_63 : decode cX11_sunAt 63 = .ok (.iconst 0, 1) := by decide +kernel
theorem dX11_sunAt_64 : decode cX11_sunAt 64 = .ok (.istore 4, 2) := by decide +kernel
theorem dX11_sunAt_66 : decode cX11_sunAt 66 = .ok (.iload 4, 2) := by decide +kernel
theorem dX11_sunAt_68 : decode cX11_sunAt 68 = .ok (.ifCond .eq 10, 3) := by decide +kernel
theorem dX11_sunAt_71 : decode cX11_sunAt 71 = .ok (.aload_n 0, 1) := by decide +kernel
theorem dX11_sunAt_72 : decode cX11_sunAt 72 = .ok (.getfield 35, 3) := by decide +kernel
theorem dX11_sunAt_75 : decode cX11_sunAt 75 = .ok (.goto 4, 3) := by decide +kernel
theorem dX11_sunAt_78 : decode cX11_sunAt 78 = .ok (.iconst 0, 1) := by decide +kernel
theorem dX11_sunAt_79 : decode cX11_sunAt 79 = .ok (.istore 5, 2) := by decide +kernel
theorem dX11_sunAt_81 : decode cX11_sunAt 81 = .ok (.aload_n 0, 1) := by decide +kernel
theorem dX11_sunAt_82 : decode cX11_sunAt 82 = .ok (.getfield 19, 3) := by decide +kernel
theorem dX11_sunAt_85 : decode cX11_sunAt 85 = .ok (.iload_n 1, 1) := by decide +kernel
theorem dX11_sunAt_86 : decode cX11_sunAt 86 = .ok (.iaload, 1) := by decide +kernel
theorem dX11_sunAt_87 : decode cX11_sunAt 87 = .ok (.iload_n 2, 1) := by decide +kernel
theorem dX11_sunAt_88 : decode cX11_sunAt 88 = .ok (.invokestatic 127, 3) := by decide +kernel
theorem dX11_sunAt_91 : decode cX11_sunAt 91 = .ok (.ifCond .eq 10, 3) := by decide +kernel
theorem dX11_sunAt_94 : decode cX11_sunAt 94 = .ok (.iload 5, 2) := by decide +kernel
theorem dX11_sunAt_96 : decode cX11_sunAt 96 = .ok (.iconst 4, 1) := by decide +kernel
theorem dX11_sunAt_97 : decode cX11_sunAt 97 = .ok (.idiv, 1) := by decide +kernel
theorem dX11_sunAt_98 : decode cX11_sunAt 98 = .ok (.goto 5, 3) := by decide +kernel
theorem dX11_sunAt_101 : decode cX11_sunAt 101 = .ok (.iload 5, 2) := by decide +kernel
theorem dX11_sunAt_103 : decode cX11_sunAt 103 = .ok (.istore 5, 2) := by decide +kernel
theorem dX11_sunAt_105 : decode cX11_sunAt 105 = .ok (.iconst 0, 1) := by decide +kernel
theorem dX11_sunAt_106 : decode cX11_sunAt 106 = .ok (.istore 6, 2) := by decide +kernel
theorem dX11_sunAt_108 : decode cX11_sunAt 108 = .ok (.iload 6, 2) := by decide +kernel
theorem dX11_sunAt_110 : decode cX11_sunAt 110 = .ok (.aload_n 0, 1) := by decide +kernel
theorem dX11_sunAt_111 : decode cX11_sunAt 111 = .ok (.getfield 229, 3) := by decide +kernel
theorem dX11_sunAt_114 : decode cX11_sunAt 114 = .ok (.if_icmp .ge 55, 3) := by decide +kernel
theorem dX11_sunAt_117 : decode cX11_sunAt 117 = .ok (.aload_n 0, 1) := by decide +kernel
theorem dX11_sunAt_118 : decode cX11_sunAt 118 = .ok (.getfield 232, 3) := by decide +kernel
theorem dX11_sunAt_121 : decode cX11_sunAt 121 = .ok (.iload 6, 2) := by decide +kernel
theorem dX11_sunAt_123 : decode cX11_sunAt 123 = .ok (.invokestatic 127, 3) := by decide +kernel
theorem dX11_sunAt_126 : decode cX11_sunAt 126 = .ok (.ifCond .eq 33, 3) := by decide +kernel
theorem dX11_sunAt_129 : decode cX11_sunAt 129 = .ok (.aload_n 0, 1) := by decide +kernel
theorem dX11_sunAt_130 : decode cX11_sunAt 130 = .ok (.getfield 87, 3) := by decide +kernel
theorem dX11_sunAt_133 : decode cX11_sunAt 133 = .ok (.iload 6, 2) := by decide +kernel
theorem dX11_sunAt_135 : decode cX11_sunAt 135 = .ok (.iaload, 1) := by decide +kernel
theorem dX11_sunAt_136 : decode cX11_sunAt 136 = .ok (.iload_n 1, 1) := by decide +kernel
theorem dX11_sunAt_137 : decode cX11_sunAt 137 = .ok (.if_icmp .ne 22, 3) := by decide +kernel
theorem dX11_sunAt_140 : decode cX11_sunAt 140 = .ok (.iload 5, 2) := by decide +kernel
theorem dX11_sunAt_142 : decode cX11_sunAt 142 = .ok (.bipush 100, 2) := by decide +kernel
theorem dX11_sunAt_144 : decode cX11_sunAt 144 = .ok (.aload_n 0, 1) := by decide +kernel
theorem dX11_sunAt_145 : decode cX11_sunAt 145 = .ok (.getfield 93, 3) := by decide +kernel
theorem dX11_sunAt_148 : decode cX11_sunAt 148 = .ok (.iload 6, 2) := by decide +kernel
theorem dX11_sunAt_150 : decode cX11_sunAt 150 = .ok (.iaload, 1) := by decide +kernel
theorem dX11_sunAt_151 : decode cX11_sunAt 151 = .ok (.isub, 1) := by decide +kernel
theorem dX11_sunAt_152 : decode cX11_sunAt 152 = .ok (.imul, 1) := by decide +kernel
theorem dX11_sunAt_153 : decode cX11_sunAt 153 = .ok (.bipush 100, 2) := by decide +kernel
theorem dX11_sunAt_155 : decode cX11_sunAt 155 = .ok (.idiv, 1) := by decide +kernel
theorem dX11_sunAt_156 : decode cX11_sunAt 156 = .ok (.goto 5, 3) := by decide +kernel
theorem dX11_sunAt_159 : decode cX11_sunAt 159 = .ok (.iload 5, 2) := by decide +kernel
theorem dX11_sunAt_161 : decode cX11_sunAt 161 = .ok (.istore 5, 2) := by decide +kernel
theorem dX11_sunAt_163 : decode cX11_sunAt 163 = .ok (.iinc 6 1, 3) := by decide +kernel
theorem dX11_sunAt_166 : decode cX11_sunAt 166 = .ok (.goto (-58), 3) := by decide +kernel
theorem dX11_sunAt_169 : decode cX11_sunAt 169 = .ok (.iload 5, 2) := by decide +kernel
theorem dX11_sunAt_171 : decode cX11_sunAt 171 = .ok (.ireturn, 1) := by decide +kernel
theorem dX11_leaksOf_0 : decode cX11_leaksOf 0 = .ok (.aload_n 0, 1) := by decide +kernel
theorem dX11_leaksOf_1 : decode cX11_leaksOf 1 = .ok (.getfield 44, 3) := by decide +kernel
theorem dX11_leaksOf_4 : decode cX11_leaksOf 4 = .ok (.istore_n 2, 1) := by decide +kernel
theorem dX11_leaksOf_5 : decode cX11_leaksOf 5 = .ok (.iconst 0, 1) := by decide +kernel
theorem dX11_leaksOf_6 : decode cX11_leaksOf 6 = .ok (.istore_n 3, 1) := by decide +kernel
theorem dX11_leaksOf_7 : decode cX11_leaksOf 7 = .ok (.iload_n 3, 1) := by decide +kernel
theorem dX11_leaksOf_8 : decode cX11_leaksOf 8 = .ok (.aload_n 0, 1) := by decide +kernel
theorem dX11_leaksOf_9 : decode cX11_leaksOf 9 = .ok (.getfield 229, 3) := by decide +kernel
theorem dX11_leaksOf_12 : decode cX11_leaksOf 12 = .ok (.if_icmp .ge 53, 3) := by decide +kernel
theorem dX11_leaksOf_15 : decode cX11_leaksOf 15 = .ok (.aload_n 0, 1) := by decide +kernel
theorem dX11_leaksOf_16 : decode cX11_leaksOf 16 = .ok (.getfield 232, 3) := by decide +kernel
theorem dX11_leaksOf_19 : decode cX11_leaksOf 19 = .ok (.iload_n 3, 1) := by decide +kernel
theorem dX11_leaksOf_20 : decode cX11_leaksOf 20 = .ok (.invokestatic 127, 3) := by decide +kernel
theorem dX11_leaksOf_23 : decode cX11_leaksOf 23 = .ok (.ifCond .eq 24, 3) := by decide +kernel
theorem dX11_leaksOf_26 : decode cX11_leaksOf 26 = .ok (.aload_n 0, 1) := by decide +kernel
theorem dX11_leaksOf_27 : decode cX11_leaksOf 27 = .ok (.getfield 87, 3) := by decide +kernel
theorem dX11_leaksOf_30 : decode cX11_leaksOf 30 = .ok (.iload_n 3, 1) := by decide +kernel
theorem dX11_leaksOf_31 : decode cX11_leaksOf 31 = .ok (.iaload, 1) := by decide +kernel
theorem dX11_leaksOf_32 : decode cX11_leaksOf 32 = .ok (.iload_n 1, 1) := by decide +kernel
theorem dX11_leaksOf_33 : decode cX11_leaksOf 33 = .ok (.if_icmp .ne 14, 3) := by decide +kernel
theorem dX11_leaksOf_36 : decode cX11_leaksOf 36 = .ok (.iload_n 2, 1) := by decide +kernel
theorem dX11_leaksOf_37 : decode cX11_leaksOf 37 = .ok (.aload_n 0, 1) := by decide +kernel
theorem dX11_leaksOf_38 : decode cX11_leaksOf 38 = .ok (.getfield 96, 3) := by decide +kernel
theorem dX11_leaksOf_41 : decode cX11_leaksOf 41 = .ok (.iload_n 3, 1) := by decide +kernel
theorem dX11_leaksOf_42 : decode cX11_leaksOf 42 = .ok (.iaload, 1) := by decide +kernel
theorem dX11_leaksOf_43 : decode cX11_leaksOf 43 = .ok (.isub, 1) := by decide +kernel
theorem dX11_leaksOf_44 : decode cX11_leaksOf 44 = .ok (.goto 4, 3) := by decide +kernel
theorem dX11_leaksOf_47 : decode cX11_leaksOf 47 = .ok (.iload_n 2, 1) := by decide +kernel
theorem dX11_leaksOf_48 : decode cX11_leaksOf 48 = .ok (.istore_n 2, 1) := by decide +kernel
theorem dX11_leaksOf_49 : decode cX11_leaksOf 49 = .ok (.iload_n 2, 1) := by decide +kernel
theorem dX11_leaksOf_50 : decode cX11_leaksOf 50 = .ok (.ifCond .ge 7, 3) := by decide +kernel
theorem dX11_leaksOf_53 : decode cX11_leaksOf 53 = .ok (.iconst 0, 1) := by decide +kernel
theorem dX11_leaksOf_54 : decode cX11_leaksOf 54 = .ok (.goto 4, 3) := by decide +kernel
theorem dX11_leaksOf_57 : decode cX11_leaksOf 57 = .ok (.iload_n 2, 1) := by decide +kernel
theorem dX11_leaksOf_58 : decode cX11_leaksOf 58 = .ok (.istore_n 2, 1) := by decide +kernel
theorem dX11_leaksOf_59 : decode cX11_leaksOf 59 = .ok (.iinc 3 1, 3) := by decide +kernel
theorem dX11_leaksOf_62 : decode cX11_leaksOf 62 = .ok (.goto (-55), 3) := by decide +kernel
theorem dX11_leaksOf_65 : decode cX11_leaksOf 65 = .ok (.iload_n 2, 1) := by decide +kernel
theorem dX11_leaksOf_66 : decode cX11_leaksOf 66 = .ok (.ireturn, 1) := by decide +kernel
theorem dX11_isOpenAt_0 : decode cX11_isOpenAt 0 = .ok (.iload_n 2, 1) := by decide +kernel
theorem dX11_isOpenAt_1 : decode cX11_isOpenAt 1 = .ok (.bipush 24, 2) := by decide +kernel
theorem dX11_isOpenAt_3 : decode cX11_isOpenAt 3 = .ok (.irem, 1) := by decide +kernel
theorem dX11_isOpenAt_4 : decode cX11_isOpenAt 4 = .ok (.istore_n 3, 1) := by decide +kernel
theorem dX11_isOpenAt_5 : decode cX11_isOpenAt 5 = .ok (.aload_n 0, 1) := by decide +kernel
theorem dX11_isOpenAt_6 : decode cX11_isOpenAt 6 = .ok (.getfield 51, 3) := by decide +kernel
theorem dX11_isOpenAt_9 : decode cX11_isOpenAt 9 = .ok (.iload_n 3, 1) := by decide +kernel
theorem dX11_isOpenAt_10 : decode cX11_isOpenAt 10 = .ok (.invokestatic 127, 3) := by decide +kernel
theorem dX11_isOpenAt_13 : decode cX11_isOpenAt 13 = .ok (.ifCond .ne 5, 3) := by decide +kernel
theorem dX11_isOpenAt_16 : decode cX11_isOpenAt 16 = .ok (.iconst 0, 1) := by decide +kernel
theorem dX11_isOpenAt_17 : decode cX11_isOpenAt 17 = .ok (.ireturn, 1) := by decide +kernel
theorem dX11_isOpenAt_18 : decode cX11_isOpenAt 18 = .ok (.aload_n 0, 1) := by decide +kernel
theorem dX11_isOpenAt_19 : decode cX11_isOpenAt 19 = .ok (.getfield 81, 3) := by decide +kernel
theorem dX11_isOpenAt_22 : decode cX11_isOpenAt 22 = .ok (.iload_n 1, 1) := by decide +kernel
theorem dX11_isOpenAt_23 : decode cX11_isOpenAt 23 = .ok (.iaload, 1) := by decide +kernel
theorem dX11_isOpenAt_24 : decode cX11_isOpenAt 24 = .ok (.ifCond .ne 16, 3) := by decide +kernel
theorem dX11_isOpenAt_27 : decode cX11_isOpenAt 27 = .ok (.aload_n 0, 1) := by decide +kernel
theorem dX11_isOpenAt_28 : decode cX11_isOpenAt 28 = .ok (.getfield 84, 3) := by decide +kernel
theorem dX11_isOpenAt_31 : decode cX11_isOpenAt 31 = .ok (.iload_n 1, 1) := by decide +kernel
theorem dX11_isOpenAt_32 : decode cX11_isOpenAt 32 = .ok (.iaload, 1) := by decide +kernel
theorem dX11_isOpenAt_33 : decode cX11_isOpenAt 33 = .ok (.iload_n 3, 1) := by decide +kernel
theorem dX11_isOpenAt_34 : decode cX11_isOpenAt 34 = .ok (.invokestatic 127, 3) := by decide +kernel
theorem dX11_isOpenAt_37 : decode cX11_isOpenAt 37 = .ok (.goto 50, 3) := by decide +kernel
theorem dX11_isOpenAt_40 : decode cX11_isOpenAt 40 = .ok (.aload_n 0, 1) := by decide +kernel
theorem dX11_isOpenAt_41 : decode cX11_isOpenAt 41 = .ok (.getfield 81, 3) := by decide +kernel
theorem dX11_isOpenAt_44 : decode cX11_isOpenAt 44 = .ok (.iload_n 1, 1) := by decide +kernel
theorem dX11_isOpenAt_45 : decode cX11_isOpenAt 45 = .ok (.iaload, 1) := by decide +kernel
theorem dX11_isOpenAt_46 : decode cX11_isOpenAt 46 = .ok (.iconst 1, 1) := by decide +kernel
theorem dX11_isOpenAt_47 : decode cX11_isOpenAt 47 = .ok (.if_icmp .ne 25, 3) := by decide +kernel
theorem dX11_isOpenAt_50 : decode cX11_isOpenAt 50 = .ok (.aload_n 0, 1) := by decide +kernel
theorem dX11_isOpenAt_51 : decode cX11_isOpenAt 51 = .ok (.iload_n 2, 1) := by decide +kernel
theorem dX11_isOpenAt_52 : decode cX11_isOpenAt 52 = .ok (.invokevirtual 225, 3) := by decide +kernel
theorem dX11_isOpenAt_55 : decode cX11_isOpenAt 55 = .ok (.aload_n 0, 1) := by decide +kernel
theorem dX11_isOpenAt_56 : decode cX11_isOpenAt 56 = .ok (.getfield 69, 3) := by decide +kernel
theorem dX11_isOpenAt_59 : decode cX11_isOpenAt 59 = .ok (.iload_n 1, 1) := by decide +kernel
theorem dX11_isOpenAt_60 : decode cX11_isOpenAt 60 = .ok (.iaload, 1) := by decide +kernel
theorem dX11_isOpenAt_61 : decode cX11_isOpenAt 61 = .ok (.if_icmp .ge 7, 3) := by decide +kernel
theorem dX11_isOpenAt_64 : decode cX11_isOpenAt 64 = .ok (.iconst 1, 1) := by decide +kernel
theorem dX11_isOpenAt_65 : decode cX11_isOpenAt 65 = .ok (.goto 22, 3) := by decide +kernel
theorem dX11_isOpenAt_68 : decode cX11_isOpenAt 68 = .ok (.iconst 0, 1) := by decide +kernel
theorem dX11_isOpenAt_69 : decode cX11_isOpenAt 69 = .ok (.goto 18, 3) := by decide +kernel
theorem dX11_isOpenAt_72 : decode cX11_isOpenAt 72 = .ok (.aload_n 0, 1) := by decide +kernel
theorem dX11_isOpenAt_73 : decode cX11_isOpenAt 73 = .ok (.getfield 81, 3) := by decide +kernel
theorem dX11_isOpenAt_76 : decode cX11_isOpenAt 76 = .ok (.iload_n 1, 1) := by decide +kernel
theorem dX11_isOpenAt_77 : decode cX11_isOpenAt 77 = .ok (.iaload, 1) := by decide +kernel
theorem dX11_isOpenAt_78 : decode cX11_isOpenAt 78 = .ok (.iconst 2, 1) := by decide +kernel
theorem dX11_isOpenAt_79 : decode cX11_isOpenAt 79 = .ok (.if_icmp .ne 7, 3) := by decide +kernel
theorem dX11_isOpenAt_82 : decode cX11_isOpenAt 82 = .ok (.iconst 1, 1) := by decide +kernel
theorem dX11_isOpenAt_83 : decode cX11_isOpenAt 83 = .ok (.goto 4, 3) := by decide +kernel
theorem dX11_isOpenAt_86 : decode cX11_isOpenAt 86 = .ok (.iconst 0, 1) := by decide +kernel
theorem dX11_isOpenAt_87 : decode cX11_isOpenAt 87 = .ok (.ireturn, 1) := by decide +kernel
theorem dX11_goHour_0 : decode cX11_goHour 0 = .ok (.iload_n 1, 1) := by decide +kernel
theorem dX11_goHour_1 : decode cX11_goHour 1 = .ok (.bipush 24, 2) := by decide +kernel
theorem dX11_goHour_3 : decode cX11_goHour 3 = .ok (.irem, 1) := by decide +kernel
theorem dX11_goHour_4 : decode cX11_goHour 4 = .ok (.istore_n 2, 1) := by decide +kernel
theorem dX11_goHour_5 : decode cX11_goHour 5 = .ok (.aload_n 0, 1) := by decide +kernel
theorem dX11_goHour_6 : decode cX11_goHour 6 = .ok (.iload_n 1, 1) := by decide +kernel
theorem dX11_goHour_7 : decode cX11_goHour 7 = .ok (.invokevirtual 225, 3) := by decide +kernel
theorem dX11_goHour_10 : decode cX11_goHour 10 = .ok (.istore_n 3, 1) := by decide +kernel
theorem dX11_goHour_11 : decode cX11_goHour 11 = .ok (.iconst 0, 1) := by decide +kernel
theorem dX11_goHour_12 : decode cX11_goHour 12 = .ok (.istore 4, 2) := by decide +kernel
theorem dX11_goHour_14 : decode cX11_goHour 14 = .ok (.iload 4, 2) := by decide +kernel
theorem dX11_goHour_16 : decode cX11_goHour 16 = .ok (.iconst 5, 1) := by decide +kernel
theorem dX11_goHour_17 : decode cX11_goHour 17 = .ok (.if_icmp .ge 261, 3) := by decide +kernel
theorem dX11_goHour_20 : decode cX11_goHour 20 = .ok (.aload_n 0, 1) := by decide +kernel
theorem dX11_goHour_21 : decode cX11_goHour 21 = .ok (.iload 4, 2) := by decide +kernel
theorem dX11_goHour_23 : decode cX11_goHour 23 = .ok (.invokevirtual 222, 3) := by decide +kernel
theorem dX11_goHour_26 : decode cX11_goHour 26 = .ok (.ifCond .eq 246, 3) := by decide +kernel
theorem dX11_goHour_29 : decode cX11_goHour 29 = .ok (.aload_n 0, 1) := by decide +kernel
theorem dX11_goHour_30 : decode cX11_goHour 30 = .ok (.getfield 69, 3) := by decide +kernel
theorem dX11_goHour_33 : decode cX11_goHour 33 = .ok (.iload 4, 2) := by decide +kernel
theorem dX11_goHour_35 : decode cX11_goHour 35 = .ok (.iaload, 1) := by decide +kernel
theorem dX11_goHour_36 : decode cX11_goHour 36 = .ok (.istore 5, 2) := by decide +kernel
theorem dX11_goHour_38 : decode cX11_goHour 38 = .ok (.aload_n 0, 1) := by decide +kernel
theorem dX11_goHour_39 : decode cX11_goHour 39 = .ok (.getfield 72, 3) := by decide +kernel
theorem dX11_goHour_42 : decode cX11_goHour 42 = .ok (.iload 4, 2) := by decide +kernel
theorem dX11_goHour_44 : decode cX11_goHour 44 = .ok (.iaload, 1) := by decide +kernel
theorem dX11_goHour_45 : decode cX11_goHour 45 = .ok (.istore 6, 2) := by decide +kernel
theorem dX11_goHour_47 : decode cX11_goHour 47 = .ok (.aload_n 0, 1) := by decide +kernel
theorem dX11_goHour_48 : decode cX11_goHour 48 = .ok (.iload 4, 2) := by decide +kernel
theorem dX11_goHour_50 : decode cX11_goHour 50 = .ok (.iload_n 2, 1) := by decide +kernel
theorem dX11_goHour_51 : decode cX11_goHour 51 = .ok (.invokevirtual 235, 3) := by decide +kernel
theorem dX11_goHour_54 : decode cX11_goHour 54 = .ok (.aload_n 0, 1) := by decide +kernel
theorem dX11_goHour_55 : decode cX11_goHour 55 = .ok (.getfield 51, 3) := by decide +kernel
theorem dX11_goHour_58 : decode cX11_goHour 58 = .ok (.iload_n 2, 1) := by decide +kernel
theorem dX11_goHour_59 : decode cX11_goHour 59 = .ok (.invokestatic 127, 3) := by decide +kernel
theorem dX11_goHour_62 : decode cX11_goHour 62 = .ok (.ifCond .eq 19, 3) := by decide +kernel
theorem dX11_goHour_65 : decode cX11_goHour 65 = .ok (.iconst 2, 1) := by decide +kernel
theorem dX11_goHour_66 : decode cX11_goHour 66 = .ok (.aload_n 0, 1) := by decide +kernel
theorem dX11_goHour_67 : decode cX11_goHour 67 = .ok (.getfield 7, 3) := by decide +kernel
theorem dX11_goHour_70 : decode cX11_goHour 70 = .ok (.iconst 4, 1) := by decide +kernel
theorem dX11_goHour_71 : decode cX11_goHour 71 = .ok (.iload 4, 2) := by decide +kernel
theorem dX11_goHour_73 : decode cX11_goHour 73 = .ok (.imul, 1) := by decide +kernel
theorem dX11_goHour_74 : decode cX11_goHour 74 = .ok (.iconst 3, 1) := by decide +kernel
theorem dX11_goHour_75 : decode cX11_goHour 75 = .ok (.iadd, 1) := by decide +kernel
theorem dX11_goHour_76 : decode cX11_goHour 76 = .ok (.iaload, 1) := by decide +kernel
theorem dX11_goHour_77 : decode cX11_goHour 77 = .ok (.imul, 1) := by decide +kernel
theorem dX11_goHour_78 : decode cX11_goHour 78 = .ok (.goto 4, 3) := by decide +kernel
theorem dX11_goHour_81 : decode cX11_goHour 81 = .ok (.iconst 0, 1) := by decide +kernel
theorem dX11_goHour_82 : decode cX11_goHour 82 = .ok (.iadd, 1) := by decide +kernel
theorem dX11_goHour_83 : decode cX11_goHour 83 = .ok (.iload 6, 2) := by decide +kernel
theorem dX11_goHour_85 : decode cX11_goHour 85 = .ok (.iload 5, 2) := by decide +kernel
theorem dX11_goHour_87 : decode cX11_goHour 87 = .ok (.isub, 1) := by decide +kernel
theorem dX11_goHour_88 : decode cX11_goHour 88 = .ok (.aload_n 0, 1) := by decide +kernel
theorem dX11_goHour_89 : decode cX11_goHour 89 = .ok (.getfield 41, 3) := by decide +kernel
theorem dX11_goHour_92 : decode cX11_goHour 92 = .ok (.imul, 1) := by decide +kernel
theorem dX11_goHour_93 : decode cX11_goHour 93 = .ok (.bipush 100, 2) := by decide +kernel
theorem dX11_goHour_95 : decode cX11_goHour 95 = .ok (.idiv, 1) := by decide +kernel
theorem dX11_goHour_96 : decode cX11_goHour 96 = .ok (.iadd, 1) := by decide +kernel
theorem dX11_goHour_97 : decode cX11_goHour 97 = .ok (.istore 7, 2) := by decide +kernel
theorem dX11_goHour_99 : decode cX11_goHour 99 = .ok (.iconst 0, 1) := by decide +kernel
theorem dX11_goHour_100 : decode cX11_goHour 100 = .ok (.istore 8, 2) := by decide +kernel
theorem dX11_goHour_102 : decode cX11_goHour 102 = .ok (.iload 8, 2) := by decide +kernel
theorem dX11_goHour_104 : decode cX11_goHour 104 = .ok (.iconst 5, 1) := by decide +kernel
theorem dX11_goHour_105 : decode cX11_goHour 105 = .ok (.if_icmp .ge 60, 3) := by decide +kernel
theorem dX11_goHour_108 : decode cX11_goHour 108 = .ok (.iload 7, 2) := by decide +kernel
theorem dX11_goHour_110 : decode cX11_goHour 110 = .ok (.iload 8, 2) := by decide +kernel
theorem dX11_goHour_112 : decode cX11_goHour 112 = .ok (.iload 4, 2) := by decide +kernel
theorem dX11_goHour_114 : decode cX11_goHour 114 = .ok (.if_icmp .eq 41, 3) := by decide +kernel
theorem dX11_goHour_117 : decode cX11_goHour 117 = .ok (.aload_n 0, 1) := by decide +kernel
theorem dX11_goHour_118 : decode cX11_goHour 118 = .ok (.iload 8, 2) := by decide +kernel
theorem dX11_goHour_120 : decode cX11_goHour 120 = .ok (.invokevirtual 222, 3) := by decide +kernel
theorem dX11_goHour_123 : decode cX11_goHour 123 = .ok (.ifCond .eq 32, 3) := by decide +kernel
theorem dX11_goHour_126 : decode cX11_goHour 126 = .ok (.aload_n 0, 1) := by decide +kernel
theorem dX11_goHour_127 : decode cX11_goHour 127 = .ok (.getfield 69, 3) := by decide +kernel
theorem dX11_goHour_130 : decode cX11_goHour 130 = .ok (.iload 8, 2) := by decide +kernel
theorem dX11_goHour_132 : decode cX11_goHour 132 = .ok (.iaload, 1) := by decide +kernel
theorem dX11_goHour_133 : decode cX11_goHour 133 = .ok (.iload 5, 2) := by decide +kernel
theorem dX11_goHour_135 : decode cX11_goHour 135 = .ok (.isub, 1) := by decide +kernel
theorem dX11_goHour_136 : decode cX11_goHour 136 = .ok (.aload_n 0, 1) := by decide +kernel
theorem dX11_goHour_137 : decode cX11_goHour 137 = .ok (.getfield 22, 3) := by decide +kernel
theorem dX11_goHour_140 : decode cX11_goHour 140 = .ok (.iconst 5, 1) := by decide +kernel
theorem dX11_goHour_141 : decode cX11_goHour 141 = .ok (.iload 4, 2) := by decide +kernel
theorem dX11_goHour_143 : decode cX11_goHour 143 = .ok (.imul, 1) := by decide +kernel
theorem dX11_goHour_144 : decode cX11_goHour 144 = .ok (.iload 8, 2) := by decide +kernel
theorem dX11_goHour_146 : decode cX11_goHour 146 = .ok (.iadd, 1) := by decide +kernel
theorem dX11_goHour_147 : decode cX11_goHour 147 = .ok (.iaload, 1) := by decide +kernel
theorem dX11_goHour_148 : decode cX11_goHour 148 = .ok (.imul, 1) := by decide +kernel
theorem dX11_goHour_149 : decode cX11_goHour 149 = .ok (.bipush 100, 2) := by decide +kernel
theorem dX11_goHour_151 : decode cX11_goHour 151 = .ok (.idiv, 1) := by decide +kernel
theorem dX11_goHour_152 : decode cX11_goHour 152 = .ok (.goto 4, 3) := by decide +kernel
theorem dX11_goHour_155 : decode cX11_goHour 155 = .ok (.iconst 0, 1) := by decide +kernel
theorem dX11_goHour_156 : decode cX11_goHour 156 = .ok (.iadd, 1) := by decide +kernel
theorem dX11_goHour_157 : decode cX11_goHour 157 = .ok (.istore 7, 2) := by decide +kernel
theorem dX11_goHour_159 : decode cX11_goHour 159 = .ok (.iinc 8 1, 3) := by decide +kernel
theorem dX11_goHour_162 : decode cX11_goHour 162 = .ok (.goto (-60), 3) := by decide +kernel
theorem dX11_goHour_165 : decode cX11_goHour 165 = .ok (.aload_n 0, 1) := by decide +kernel
theorem dX11_goHour_166 : decode cX11_goHour 166 = .ok (.iload 4, 2) := by decide +kernel
theorem dX11_goHour_168 : decode cX11_goHour 168 = .ok (.iload_n 1, 1) := by decide +kernel
theorem dX11_goHour_169 : decode cX11_goHour 169 = .ok (.invokevirtual 238, 3) := by decide +kernel
theorem dX11_goHour_172 : decode cX11_goHour 172 = .ok (.istore 8, 2) := by decide +kernel
theorem dX11_goHour_174 : decode cX11_goHour 174 = .ok (.iload 7, 2) := by decide +kernel
theorem dX11_goHour_176 : decode cX11_goHour 176 = .ok (.iload 8, 2) := by decide +kernel
theorem dX11_goHour_178 : decode cX11_goHour 178 = .ok (.ifCond .eq 18, 3) := by decide +kernel
theorem dX11_goHour_181 : decode cX11_goHour 181 = .ok (.iload_n 3, 1) := by decide +kernel
theorem dX11_goHour_182 : decode cX11_goHour 182 = .ok (.iload 5, 2) := by decide +kernel
theorem dX11_goHour_184 : decode cX11_goHour 184 = .ok (.isub, 1) := by decide +kernel
theorem dX11_goHour_185 : decode cX11_goHour 185 = .ok (.aload_n 0, 1) := by decide +kernel
theorem dX11_goHour_186 : decode cX11_goHour 186 = .ok (.getfield 47, 3) := by decide +kernel
theorem dX11_goHour_189 : decode cX11_goHour 189 = .ok (.imul, 1) := by decide +kernel
theorem dX11_goHour_190 : decode cX11_goHour 190 = .ok (.bipush 100, 2) := by decide +kernel
theorem dX11_goHour_192 : decode cX11_goHour 192 = .ok (.idiv, 1) := by decide +kernel
theorem dX11_goHour_193 : decode cX11_goHour 193 = .ok (.goto 4, 3) := by decide +kernel
theorem dX11_goHour_196 : decode cX11_goHour 196 = .ok (.iconst 0, 1) := by decide +kernel
theorem dX11_goHour_197 : decode cX11_goHour 197 = .ok (.iadd, 1) := by decide +kernel
theorem dX11_goHour_198 : decode cX11_goHour 198 = .ok (.istore 7, 2) := by decide +kernel
theorem dX11_goHour_200 : decode cX11_goHour 200 = .ok (.aload_n 0, 1) := by decide +kernel
theorem dX11_goHour_201 : decode cX11_goHour 201 = .ok (.getfield 75, 3) := by decide +kernel
theorem dX11_goHour_204 : decode cX11_goHour 204 = .ok (.iload 4, 2) := by decide +kernel
theorem dX11_goHour_206 : decode cX11_goHour 206 = .ok (.iload 5, 2) := by decide +kernel
theorem dX11_goHour_208 : decode cX11_goHour 208 = .ok (.iload 7, 2) := by decide +kernel
theorem dX11_goHour_210 : decode cX11_goHour 210 = .ok (.iadd, 1) := by decide +kernel
theorem dX11_goHour_211 : decode cX11_goHour 211 = .ok (.iastore, 1) := by decide +kernel
theorem dX11_goHour_212 : decode cX11_goHour 212 = .ok (.aload_n 0, 1) := by decide +kernel
theorem dX11_goHour_213 : decode cX11_goHour 213 = .ok (.getfield 78, 3) := by decide +kernel
theorem dX11_goHour_216 : decode cX11_goHour 216 = .ok (.iload 4, 2) := by decide +kernel
theorem dX11_goHour_218 : decode cX11_goHour 218 = .ok (.iload 6, 2) := by decide +kernel
theorem dX11_goHour_220 : decode cX11_goHour 220 = .ok (.iload 5, 2) := by decide +kernel
theorem dX11_goHour_222 : decode cX11_goHour 222 = .ok (.iload 6, 2) := by decide +kernel
theorem dX11_goHour_224 : decode cX11_goHour 224 = .ok (.isub, 1) := by decide +kernel
theorem dX11_goHour_225 : decode cX11_goHour 225 = .ok (.aload_n 0, 1) := by decide +kernel
theorem dX11_goHour_226 : decode cX11_goHour 226 = .ok (.getfield 38, 3) := by decide +kernel
theorem dX11_goHour_229 : decode cX11_goHour 229 = .ok (.imul, 1) := by decide +kernel
theorem dX11_goHour_230 : decode cX11_goHour 230 = .ok (.bipush 100, 2) := by decide +kernel
theorem dX11_goHour_232 : decode cX11_goHour 232 = .ok (.idiv, 1) := by decide +kernel
theorem dX11_goHour_233 : decode cX11_goHour 233 = .ok (.iadd, 1) := by decide +kernel
theorem dX11_goHour_234 : decode cX11_goHour 234 = .ok (.iload_n 3, 1) := by decide +kernel
theorem dX11_goHour_235 : decode cX11_goHour 235 = .ok (.iload 6, 2) := by decide +kernel
theorem dX11_goHour_237 : decode cX11_goHour 237 = .ok (.isub, 1) := by decide +kernel
theorem dX11_goHour_238 : decode cX11_goHour 238 = .ok (.aload_n 0, 1) := by decide +kernel
theorem dX11_goHour_239 : decode cX11_goHour 239 = .ok (.iload 4, 2) := by decide +kernel
theorem dX11_goHour_241 : decode cX11_goHour 241 = .ok (.invokevirtual 241, 3) := by decide +kernel
theorem dX11_goHour_244 : decode cX11_goHour 244 = .ok (.imul, 1) := by decide +kernel
theorem dX11_goHour_245 : decode cX11_goHour 245 = .ok (.bipush 100, 2) := by decide +kernel
theorem dX11_goHour_247 : decode cX11_goHour 247 = .ok (.idiv, 1) := by decide +kernel
theorem dX11_goHour_248 : decode cX11_goHour 248 = .ok (.iadd, 1) := by decide +kernel
theorem dX11_goHour_249 : decode cX11_goHour 249 = .ok (.iastore, 1) := by decide +kernel
theorem dX11_goHour_250 : decode cX11_goHour 250 = .ok (.aload_n 0, 1) := by decide +kernel
theorem dX11_goHour_251 : decode cX11_goHour 251 = .ok (.getfield 66, 3) := by decide +kernel
theorem dX11_goHour_254 : decode cX11_goHour 254 = .ok (.bipush 96, 2) := by decide +kernel
theorem dX11_goHour_256 : decode cX11_goHour 256 = .ok (.iload 4, 2) := by decide +kernel
theorem dX11_goHour_258 : decode cX11_goHour 258 = .ok (.imul, 1) := by decide +kernel
theorem dX11_goHour_259 : decode cX11_goHour 259 = .ok (.iload_n 1, 1) := by decide +kernel
theorem dX11_goHour_260 : decode cX11_goHour 260 = .ok (.iadd, 1) := by decide +kernel
theorem dX11_goHour_261 : decode cX11_goHour 261 = .ok (.iload 8, 2) := by decide +kernel
theorem dX11_goHour_263 : decode cX11_goHour 263 = .ok (.ifCond .eq 7, 3) := by decide +kernel
theorem dX11_goHour_266 : decode cX11_goHour 266 = .ok (.iconst 1, 1) := by decide +kernel
theorem dX11_goHour_267 : decode cX11_goHour 267 = .ok (.goto 4, 3) := by decide +kernel
theorem dX11_goHour_270 : decode cX11_goHour 270 = .ok (.iconst 0, 1) := by decide +kernel
theorem dX11_goHour_271 : decode cX11_goHour 271 = .ok (.iastore, 1) := by decide +kernel
theorem dX11_goHour_272 : decode cX11_goHour 272 = .ok (.iinc 4 1, 3) := by decide +kernel
theorem dX11_goHour_275 : decode cX11_goHour 275 = .ok (.goto (-261), 3) := by decide +kernel
theorem dX11_goHour_278 : decode cX11_goHour 278 = .ok (.iconst 0, 1) := by decide +kernel
theorem dX11_goHour_279 : decode cX11_goHour 279 = .ok (.istore 4, 2) := by decide +kernel
theorem dX11_goHour_281 : decode cX11_goHour 281 = .ok (.iload 4, 2) := by decide +kernel
theorem dX11_goHour_283 : decode cX11_goHour 283 = .ok (.iconst 5, 1) := by decide +kernel
theorem dX11_goHour_284 : decode cX11_goHour 284 = .ok (.if_icmp .ge 75, 3) := by decide +kernel
theorem dX11_goHour_287 : decode cX11_goHour 287 = .ok (.aload_n 0, 1) := by decide +kernel
theorem dX11_goHour_288 : decode cX11_goHour 288 = .ok (.getfield 69, 3) := by decide +kernel
theorem dX11_goHour_291 : decode cX11_goHour 291 = .ok (.iload 4, 2) := by decide +kernel
theorem dX11_goHour_293 : decode cX11_goHour 293 = .ok (.aload_n 0, 1) := by decide +kernel
theorem dX11_goHour_294 : decode cX11_goHour 294 = .ok (.getfield 75, 3) := by decide +kernel
theorem dX11_goHour_297 : decode cX11_goHour 297 = .ok (.iload 4, 2) := by decide +kernel
theorem dX11_goHour_299 : decode cX11_goHour 299 = .ok (.iaload, 1) := by decide +kernel
theorem dX11_goHour_300 : decode cX11_goHour 300 = .ok (.iastore, 1) := by decide +kernel
theorem dX11_goHour_301 : decode cX11_goHour 301 = .ok (.aload_n 0, 1) := by decide +kernel
theorem dX11_goHour_302 : decode cX11_goHour 302 = .ok (.getfield 72, 3) := by decide +kernel
theorem dX11_goHour_305 : decode cX11_goHour 305 = .ok (.iload 4, 2) := by decide +kernel
theorem dX11_goHour_307 : decode cX11_goHour 307 = .ok (.aload_n 0, 1) := by decide +kernel
theorem dX11_goHour_308 : decode cX11_goHour 308 = .ok (.getfield 78, 3) := by decide +kernel
theorem dX11_goHour_311 : decode cX11_goHour 311 = .ok (.iload 4, 2) := by decide +kernel
theorem dX11_goHour_313 : decode cX11_goHour 313 = .ok (.iaload, 1) := by decide +kernel
theorem dX11_goHour_314 : decode cX11_goHour 314 = .ok (.iastore, 1) := by decide +kernel
theorem dX11_goHour_315 : decode cX11_goHour 315 = .ok (.aload_n 0, 1) := by decide +kernel
theorem dX11_goHour_316 : decode cX11_goHour 316 = .ok (.getfield 60, 3) := by decide +kernel
theorem dX11_goHour_319 : decode cX11_goHour 319 = .ok (.bipush 96, 2) := by decide +kernel
theorem dX11_goHour_321 : decode cX11_goHour 321 = .ok (.iload 4, 2) := by decide +kernel
theorem dX11_goHour_323 : decode cX11_goHour 323 = .ok (.imul, 1) := by decide +kernel
theorem dX11_goHour_324 : decode cX11_goHour 324 = .ok (.iload_n 1, 1) := by decide +kernel
theorem dX11_goHour_325 : decode cX11_goHour 325 = .ok (.iadd, 1) := by decide +kernel
theorem dX11_goHour_326 : decode cX11_goHour 326 = .ok (.aload_n 0, 1) := by decide +kernel
theorem dX11_goHour_327 : decode cX11_goHour 327 = .ok (.getfield 69, 3) := by decide +kernel
theorem dX11_goHour_330 : decode cX11_goHour 330 = .ok (.iload 4, 2) := by decide +kernel
theorem dX11_goHour_332 : decode cX11_goHour 332 = .ok (.iaload, 1) := by decide +kernel
theorem dX11_goHour_333 : decode cX11_goHour 333 = .ok (.iastore, 1) := by decide +kernel
theorem dX11_goHour_334 : decode cX11_goHour 334 = .ok (.aload_n 0, 1) := by decide +kernel
theorem dX11_goHour_335 : decode cX11_goHour 335 = .ok (.getfield 63, 3) := by decide +kernel
theorem dX11_goHour_338 : decode cX11_goHour 338 = .ok (.bipush 96, 2) := by decide +kernel
theorem dX11_goHour_340 : decode cX11_goHour 340 = .ok (.iload 4, 2) := by decide +kernel
theorem dX11_goHour_342 : decode cX11_goHour 342 = .ok (.imul, 1) := by decide +kernel
theorem dX11_goHour_343 : decode cX11_goHour 343 = .ok (.iload_n 1, 1) := by decide +kernel
theorem dX11_goHour_344 : decode cX11_goHour 344 = .ok (.iadd, 1) := by decide +kernel
theorem dX11_goHour_345 : decode cX11_goHour 345 = .ok (.aload_n 0, 1) := by decide +kernel
theorem dX11_goHour_346 : decode cX11_goHour 346 = .ok (.getfield 72, 3) := by decide +kernel
theorem dX11_goHour_349 : decode cX11_goHour 349 = .ok (.iload 4, 2) := by decide +kernel
theorem dX11_goHour_351 : decode cX11_goHour 351 = .ok (.iaload, 1) := by decide +kernel
theorem dX11_goHour_352 : decode cX11_goHour 352 = .ok (.iastore, 1) := by decide +kernel
theorem dX11_goHour_353 : decode cX11_goHour 353 = .ok (.iinc 4 1, 3) := by decide +kernel
theorem dX11_goHour_356 : decode cX11_goHour 356 = .ok (.goto (-75), 3) := by decide +kernel
theorem dX11_goHour_359 : decode cX11_goHour 359 = .ok (.return_, 1) := by decide +kernel
theorem dX11_asTold_0 : decode cX11_asTold 0 = .ok (.iconst 0, 1) := by decide +kernel
theorem dX11_asTold_1 : decode cX11_asTold 1 = .ok (.istore_n 1, 1) := by decide +kernel
theorem dX11_asTold_2 : decode cX11_asTold 2 = .ok (.iload_n 1, 1) := by decide +kernel
theorem dX11_asTold_3 : decode cX11_asTold 3 = .ok (.iconst 5, 1) := by decide +kernel
theorem dX11_asTold_4 : decode cX11_asTold 4 = .ok (.if_icmp .ge 33, 3) := by decide +kernel
theorem dX11_asTold_7 : decode cX11_asTold 7 = .ok (.aload_n 0, 1) := by decide +kernel
theorem dX11_asTold_8 : decode cX11_asTold 8 = .ok (.getfield 81, 3) := by decide +kernel
theorem dX11_asTold_11 : decode cX11_asTold 11 = .ok (.iload_n 1, 1) := by decide +kernel
theorem dX11_asTold_12 : decode cX11_asTold 12 = .ok (.aload_n 0, 1) := by decide +kernel
theorem dX11_asTold_13 : decode cX11_asTold 13 = .ok (.getfield 13, 3) := by decide +kernel
theorem dX11_asTold_16 : decode cX11_asTold 16 = .ok (.iload_n 1, 1) := by decide +kernel
theorem dX11_asTold_17 : decode cX11_asTold 17 = .ok (.iaload, 1) := by decide +kernel
theorem dX11_asTold_18 : decode cX11_asTold 18 = .ok (.iastore, 1) := by decide +kernel
theorem dX11_asTold_19 : decode cX11_asTold 19 = .ok (.aload_n 0, 1) := by decide +kernel
theorem dX11_asTold_20 : decode cX11_asTold 20 = .ok (.getfield 84, 3) := by decide +kernel
theorem dX11_asTold_23 : decode cX11_asTold 23 = .ok (.iload_n 1, 1) := by decide +kernel
theorem dX11_asTold_24 : decode cX11_asTold 24 = .ok (.aload_n 0, 1) := by decide +kernel
theorem dX11_asTold_25 : decode cX11_asTold 25 = .ok (.getfield 16, 3) := by decide +kernel
theorem dX11_asTold_28 : decode cX11_asTold 28 = .ok (.iload_n 1, 1) := by decide +kernel
theorem dX11_asTold_29 : decode cX11_asTold 29 = .ok (.iaload, 1) := by decide +kernel
theorem dX11_asTold_30 : decode cX11_asTold 30 = .ok (.iastore, 1) := by decide +kernel
theorem dX11_asTold_31 : decode cX11_asTold 31 = .ok (.iinc 1 1, 3) := by decide +kernel
theorem dX11_asTold_34 : decode cX11_asTold 34 = .ok (.goto (-32), 3) := by decide +kernel
theorem dX11_asTold_37 : decode cX11_asTold 37 = .ok (.aload_n 0, 1) := by decide +kernel
theorem dX11_asTold_38 : decode cX11_asTold 38 = .ok (.iconst 0, 1) := by decide +kernel
theorem dX11_asTold_39 : decode cX11_asTold 39 = .ok (.putfield 232, 3) := by decide +kernel
theorem dX11_asTold_42 : decode cX11_asTold 42 = .ok (.return_, 1) := by decide +kernel
theorem dX11_goWeek_0 : decode cX11_goWeek 0 = .ok (.iconst 0, 1) := by decide +kernel
theorem dX11_goWeek_1 : decode cX11_goWeek 1 = .ok (.istore_n 1, 1) := by decide +kernel
theorem dX11_goWeek_2 : decode cX11_goWeek 2 = .ok (.iload_n 1, 1) := by decide +kernel
theorem dX11_goWeek_3 : decode cX11_goWeek 3 = .ok (.iconst 5, 1) := by decide +kernel
theorem dX11_goWeek_4 : decode cX11_goWeek 4 = .ok (.if_icmp .ge 53, 3) := by decide +kernel
theorem dX11_goWeek_7 : decode cX11_goWeek 7 = .ok (.aload_n 0, 1) := by decide +kernel
theorem dX11_goWeek_8 : decode cX11_goWeek 8 = .ok (.getfield 69, 3) := by decide +kernel
theorem dX11_goWeek_11 : decode cX11_goWeek 11 = .ok (.iload_n 1, 1) := by decide +kernel
theorem dX11_goWeek_12 : decode cX11_goWeek 12 = .ok (.aload_n 0, 1) := by decide +kernel
theorem dX11_goWeek_13 : decode cX11_goWeek 13 = .ok (.getfield 7, 3) := by decide +kernel
theorem dX11_goWeek_16 : decode cX11_goWeek 16 = .ok (.iconst 4, 1) := by decide +kernel
theorem dX11_goWeek_17 : decode cX11_goWeek 17 = .ok (.iload_n 1, 1) := by decide +kernel
theorem dX11_goWeek_18 : decode cX11_goWeek 18 = .ok (.imul, 1) := by decide +kernel
theorem dX11_goWeek_19 : decode cX11_goWeek 19 = .ok (.iaload, 1) := by decide +kernel
theorem dX11_goWeek_20 : decode cX11_goWeek 20 = .ok (.iastore, 1) := by decide +kernel
theorem dX11_goWeek_21 : decode cX11_goWeek 21 = .ok (.aload_n 0, 1) := by decide +kernel
theorem dX11_goWeek_22 : decode cX11_goWeek 22 = .ok (.getfield 72, 3) := by decide +kernel
theorem dX11_goWeek_25 : decode cX11_goWeek 25 = .ok (.iload_n 1, 1) := by decide +kernel
theorem dX11_goWeek_26 : decode cX11_goWeek 26 = .ok (.aload_n 0, 1) := by decide +kernel
theorem dX11_goWeek_27 : decode cX11_goWeek 27 = .ok (.getfield 7, 3) := by decide +kernel
theorem dX11_goWeek_30 : decode cX11_goWeek 30 = .ok (.iconst 4, 1) := by decide +kernel
theorem dX11_goWeek_31 : decode cX11_goWeek 31 = .ok (.iload_n 1, 1) := by decide +kernel
theorem dX11_goWeek_32 : decode cX11_goWeek 32 = .ok (.imul, 1) := by decide +kernel
theorem dX11_goWeek_33 : decode cX11_goWeek 33 = .ok (.iconst 1, 1) := by decide +kernel
theorem dX11_goWeek_34 : decode cX11_goWeek 34 = .ok (.iadd, 1) := by decide +kernel
theorem dX11_goWeek_35 : decode cX11_goWeek 35 = .ok (.iaload, 1) := by decide +kernel
theorem dX11_goWeek_36 : decode cX11_goWeek 36 = .ok (.iastore, 1) := by decide +kernel
theorem dX11_goWeek_37 : decode cX11_goWeek 37 = .ok (.aload_n 0, 1) := by decide +kernel
theorem dX11_goWeek_38 : decode cX11_goWeek 38 = .ok (.getfield 75, 3) := by decide +kernel
theorem dX11_goWeek_41 : decode cX11_goWeek 41 = .ok (.iload_n 1, 1) := by decide +kernel
theorem dX11_goWeek_42 : decode cX11_goWeek 42 = .ok (.iconst 0, 1) := by decide +kernel
theorem dX11_goWeek_43 : decode cX11_goWeek 43 = .ok (.iastore, 1) := by decide +kernel
theorem dX11_goWeek_44 : decode cX11_goWeek 44 = .ok (.aload_n 0, 1) := by decide +kernel
theorem dX11_goWeek_45 : decode cX11_goWeek 45 = .ok (.getfield 78, 3) := by decide +kernel
theorem dX11_goWeek_48 : decode cX11_goWeek 48 = .ok (.iload_n 1, 1) := by decide +kernel
theorem dX11_goWeek_49 : decode cX11_goWeek 49 = .ok (.iconst 0, 1) := by decide +kernel
theorem dX11_goWeek_50 : decode cX11_goWeek 50 = .ok (.iastore, 1) := by decide +kernel
theorem dX11_goWeek_51 : decode cX11_goWeek 51 = .ok (.iinc 1 1, 3) := by decide +kernel
theorem dX11_goWeek_54 : decode cX11_goWeek 54 = .ok (.goto (-52), 3) := by decide +kernel
theorem dX11_goWeek_57 : decode cX11_goWeek 57 = .ok (.iconst 0, 1) := by decide +kernel
theorem dX11_goWeek_58 : decode cX11_goWeek 58 = .ok (.istore_n 1, 1) := by decide +kernel
theorem dX11_goWeek_59 : decode cX11_goWeek 59 = .ok (.iload_n 1, 1) := by decide +kernel
theorem dX11_goWeek_60 : decode cX11_goWeek 60 = .ok (.bipush 96, 2) := by decide +kernel
theorem dX11_goWeek_62 : decode cX11_goWeek 62 = .ok (.if_icmp .ge 14, 3) := by decide +kernel
theorem dX11_goWeek_65 : decode cX11_goWeek 65 = .ok (.aload_n 0, 1) := by decide +kernel
theorem dX11_goWeek_66 : decode cX11_goWeek 66 = .ok (.iload_n 1, 1) := by decide +kernel
theorem dX11_goWeek_67 : decode cX11_goWeek 67 = .ok (.invokevirtual 244, 3) := by decide +kernel
theorem dX11_goWeek_70 : decode cX11_goWeek 70 = .ok (.iinc 1 1, 3) := by decide +kernel
theorem dX11_goWeek_73 : decode cX11_goWeek 73 = .ok (.goto (-14), 3) := by decide +kernel
theorem dX11_goWeek_76 : decode cX11_goWeek 76 = .ok (.return_, 1) := by decide +kernel
theorem dX11_nightOf_0 : decode cX11_nightOf 0 = .ok (.iconst 0, 1) := by decide +kernel
theorem dX11_nightOf_1 : decode cX11_nightOf 1 = .ok (.istore_n 2, 1) := by decide +kernel
theorem dX11_nightOf_2 : decode cX11_nightOf 2 = .ok (.iconst 0, 1) := by decide +kernel
theorem dX11_nightOf_3 : decode cX11_nightOf 3 = .ok (.istore_n 3, 1) := by decide +kernel
theorem dX11_nightOf_4 : decode cX11_nightOf 4 = .ok (.iload_n 3, 1) := by decide +kernel
theorem dX11_nightOf_5 : decode cX11_nightOf 5 = .ok (.bipush 96, 2) := by decide +kernel
theorem dX11_nightOf_7 : decode cX11_nightOf 7 = .ok (.if_icmp .ge 47, 3) := by decide +kernel
theorem dX11_nightOf_10 : decode cX11_nightOf 10 = .ok (.iload_n 3, 1) := by decide +kernel
theorem dX11_nightOf_11 : decode cX11_nightOf 11 = .ok (.bipush 24, 2) := by decide +kernel
theorem dX11_nightOf_13 : decode cX11_nightOf 13 = .ok (.irem, 1) := by decide +kernel
theorem dX11_nightOf_14 : decode cX11_nightOf 14 = .ok (.istore 4, 2) := by decide +kernel
theorem dX11_nightOf_16 : decode cX11_nightOf 16 = .ok (.iload_n 2, 1) := by decide +kernel
theorem dX11_nightOf_17 : decode cX11_nightOf 17 = .ok (.iload 4, 2) := by decide +kernel
theorem dX11_nightOf_19 : decode cX11_nightOf 19 = .ok (.bipush 21, 2) := by decide +kernel
theorem dX11_nightOf_21 : decode cX11_nightOf 21 = .ok (.if_icmp .gt 10, 3) := by decide +kernel
theorem dX11_nightOf_24 : decode cX11_nightOf 24 = .ok (.iload 4, 2) := by decide +kernel
theorem dX11_nightOf_26 : decode cX11_nightOf 26 = .ok (.bipush 6, 2) := by decide +kernel
theorem dX11_nightOf_28 : decode cX11_nightOf 28 = .ok (.if_icmp .ge 17, 3) := by decide +kernel
theorem dX11_nightOf_31 : decode cX11_nightOf 31 = .ok (.aload_n 0, 1) := by decide +kernel
theorem dX11_nightOf_32 : decode cX11_nightOf 32 = .ok (.getfield 60, 3) := by decide +kernel
theorem dX11_nightOf_35 : decode cX11_nightOf 35 = .ok (.bipush 96, 2) := by decide +kernel
theorem dX11_nightOf_37 : decode cX11_nightOf 37 = .ok (.iload_n 1, 1) := by decide +kernel
theorem dX11_nightOf_38 : decode cX11_nightOf 38 = .ok (.imul, 1) := by decide +kernel
theorem dX11_nightOf_39 : decode cX11_nightOf 39 = .ok (.iload_n 3, 1) := by decide +kernel
theorem dX11_nightOf_40 : decode cX11_nightOf 40 = .ok (.iadd, 1) := by decide +kernel
theorem dX11_nightOf_41 : decode cX11_nightOf 41 = .ok (.iaload, 1) := by decide +kernel
theorem dX11_nightOf_42 : decode cX11_nightOf 42 = .ok (.goto 4, 3) := by decide +kernel
theorem dX11_nightOf_45 : decode cX11_nightOf 45 = .ok (.iconst 0, 1) := by decide +kernel
theorem dX11_nightOf_46 : decode cX11_nightOf 46 = .ok (.iadd, 1) := by decide +kernel
theorem dX11_nightOf_47 : decode cX11_nightOf 47 = .ok (.istore_n 2, 1) := by decide +kernel
theorem dX11_nightOf_48 : decode cX11_nightOf 48 = .ok (.iinc 3 1, 3) := by decide +kernel
theorem dX11_nightOf_51 : decode cX11_nightOf 51 = .ok (.goto (-47), 3) := by decide +kernel
theorem dX11_nightOf_54 : decode cX11_nightOf 54 = .ok (.iload_n 2, 1) := by decide +kernel
theorem dX11_nightOf_55 : decode cX11_nightOf 55 = .ok (.ireturn, 1) := by decide +kernel
theorem dX11_nightOfAll_0 : decode cX11_nightOfAll 0 = .ok (.aload_n 0, 1) := by decide +kernel
theorem dX11_nightOfAll_1 : decode cX11_nightOfAll 1 = .ok (.invokevirtual 247, 3) := by decide +kernel
theorem dX11_nightOfAll_4 : decode cX11_nightOfAll 4 = .ok (.iconst 0, 1) := by decide +kernel
theorem dX11_nightOfAll_5 : decode cX11_nightOfAll 5 = .ok (.istore_n 1, 1) := by decide +kernel
theorem dX11_nightOfAll_6 : decode cX11_nightOfAll 6 = .ok (.iconst 0, 1) := by decide +kernel
theorem dX11_nightOfAll_7 : decode cX11_nightOfAll 7 = .ok (.istore_n 2, 1) := by decide +kernel
theorem dX11_nightOfAll_8 : decode cX11_nightOfAll 8 = .ok (.iload_n 2, 1) := by decide +kernel
theorem dX11_nightOfAll_9 : decode cX11_nightOfAll 9 = .ok (.iconst 5, 1) := by decide +kernel
theorem dX11_nightOfAll_10 : decode cX11_nightOfAll 10 = .ok (.if_icmp .ge 29, 3) := by decide +kernel
theorem dX11_nightOfAll_13 : decode cX11_nightOfAll 13 = .ok (.iload_n 1, 1) := by decide +kernel
theorem dX11_nightOfAll_14 : decode cX11_nightOfAll 14 = .ok (.aload_n 0, 1) := by decide +kernel
theorem dX11_nightOfAll_15 : decode cX11_nightOfAll 15 = .ok (.iload_n 2, 1) := by decide +kernel
theorem dX11_nightOfAll_16 : decode cX11_nightOfAll 16 = .ok (.invokevirtual 222, 3) := by decide +kernel
theorem dX11_nightOfAll_19 : decode cX11_nightOfAll 19 = .ok (.ifCond .eq 11, 3) := by decide +kernel
theorem dX11_nightOfAll_22 : decode cX11_nightOfAll 22 = .ok (.aload_n 0, 1) := by decide +kernel
theorem dX11_nightOfAll_23 : decode cX11_nightOfAll 23 = .ok (.iload_n 2, 1) := by decide +kernel
theorem dX11_nightOfAll_24 : decode cX11_nightOfAll 24 = .ok (.invokevirtual 250, 3) := by decide +kernel
theorem dX11_nightOfAll_27 : decode cX11_nightOfAll 27 = .ok (.goto 4, 3) := by decide +kernel
theorem dX11_nightOfAll_30 : decode cX11_nightOfAll 30 = .ok (.iconst 0, 1) := by decide +kernel
theorem dX11_nightOfAll_31 : decode cX11_nightOfAll 31 = .ok (.iadd, 1) := by decide +kernel
theorem dX11_nightOfAll_32 : decode cX11_nightOfAll 32 = .ok (.istore_n 1, 1) := by decide +kernel
theorem dX11_nightOfAll_33 : decode cX11_nightOfAll 33 = .ok (.iinc 2 1, 3) := by decide +kernel
theorem dX11_nightOfAll_36 : decode cX11_nightOfAll 36 = .ok (.goto (-28), 3) := by decide +kernel
theorem dX11_nightOfAll_39 : decode cX11_nightOfAll 39 = .ok (.iload_n 1, 1) := by decide +kernel
theorem dX11_nightOfAll_40 : decode cX11_nightOfAll 40 = .ok (.ireturn, 1) := by decide +kernel
theorem dX11_warm_0 : decode cX11_warm 0 = .ok (.aload_n 0, 1) := by decide +kernel
theorem dX11_warm_1 : decode cX11_warm 1 = .ok (.iload_n 1, 1) := by decide +kernel
theorem dX11_warm_2 : decode cX11_warm 2 = .ok (.invokevirtual 222, 3) := by decide +kernel
theorem dX11_warm_5 : decode cX11_warm 5 = .ok (.ifCond .eq 13, 3) := by decide +kernel
theorem dX11_warm_8 : decode cX11_warm 8 = .ok (.iload_n 2, 1) := by decide +kernel
theorem dX11_warm_9 : decode cX11_warm 9 = .ok (.iconst 0, 1) := by decide +kernel
theorem dX11_warm_10 : decode cX11_warm 10 = .ok (.bipush 95, 2) := by decide +kernel
theorem dX11_warm_12 : decode cX11_warm 12 = .ok (.invokestatic 120, 3) := by decide +kernel
theorem dX11_warm_15 : decode cX11_warm 15 = .ok (.ifCond .ne 6, 3) := by decide +kernel
theorem dX11_warm_18 : decode cX11_warm 18 = .ok (.bipush (-2), 2) := by decide +kernel
theorem dX11_warm_20 : decode cX11_warm 20 = .ok (.ireturn, 1) := by decide +kernel
theorem dX11_warm_21 : decode cX11_warm 21 = .ok (.iload_n 3, 1) := by decide +kernel
theorem dX11_warm_22 : decode cX11_warm 22 = .ok (.iconst 0, 1) := by decide +kernel
theorem dX11_warm_23 : decode cX11_warm 23 = .ok (.iconst 2, 1) := by decide +kernel
theorem dX11_warm_24 : decode cX11_warm 24 = .ok (.invokestatic 120, 3) := by decide +kernel
theorem dX11_warm_27 : decode cX11_warm 27 = .ok (.ifCond .ne 6, 3) := by decide +kernel
theorem dX11_warm_30 : decode cX11_warm 30 = .ok (.bipush (-3), 2) := by decide +kernel
theorem dX11_warm_32 : decode cX11_warm 32 = .ok (.ireturn, 1) := by decide +kernel
theorem dX11_warm_33 : decode cX11_warm 33 = .ok (.aload_n 0, 1) := by decide +kernel
theorem dX11_warm_34 : decode cX11_warm 34 = .ok (.invokevirtual 253, 3) := by decide +kernel
theorem dX11_warm_37 : decode cX11_warm 37 = .ok (.aload_n 0, 1) := by decide +kernel
theorem dX11_warm_38 : decode cX11_warm 38 = .ok (.invokevirtual 247, 3) := by decide +kernel
theorem dX11_warm_41 : decode cX11_warm 41 = .ok (.bipush 96, 2) := by decide +kernel
theorem dX11_warm_43 : decode cX11_warm 43 = .ok (.iload_n 1, 1) := by decide +kernel
theorem dX11_warm_44 : decode cX11_warm 44 = .ok (.imul, 1) := by decide +kernel
theorem dX11_warm_45 : decode cX11_warm 45 = .ok (.iload_n 2, 1) := by decide +kernel
theorem dX11_warm_46 : decode cX11_warm 46 = .ok (.iadd, 1) := by decide +kernel
theorem dX11_warm_47 : decode cX11_warm 47 = .ok (.istore 4, 2) := by decide +kernel
theorem dX11_warm_49 : decode cX11_warm 49 = .ok (.iload_n 3, 1) := by decide +kernel
theorem dX11_warm_50 : decode cX11_warm 50 = .ok (.ifCond .ne 13, 3) := by decide +kernel
theorem dX11_warm_53 : decode cX11_warm 53 = .ok (.aload_n 0, 1) := by decide +kernel
theorem dX11_warm_54 : decode cX11_warm 54 = .ok (.getfield 60, 3) := by decide +kernel
theorem dX11_warm_57 : decode cX11_warm 57 = .ok (.iload 4, 2) := by decide +kernel
theorem dX11_warm_59 : decode cX11_warm 59 = .ok (.iaload, 1) := by decide +kernel
theorem dX11_warm_60 : decode cX11_warm 60 = .ok (.goto 25, 3) := by decide +kernel
theorem dX11_warm_63 : decode cX11_warm 63 = .ok (.iload_n 3, 1) := by decide +kernel
theorem dX11_warm_64 : decode cX11_warm 64 = .ok (.iconst 1, 1) := by decide +kernel
theorem dX11_warm_65 : decode cX11_warm 65 = .ok (.if_icmp .ne 13, 3) := by decide +kernel
theorem dX11_warm_68 : decode cX11_warm 68 = .ok (.aload_n 0, 1) := by decide +kernel
theorem dX11_warm_69 : decode cX11_warm 69 = .ok (.getfield 63, 3) := by decide +kernel
theorem dX11_warm_72 : decode cX11_warm 72 = .ok (.iload 4, 2) := by decide +kernel
theorem dX11_warm_74 : decode cX11_warm 74 = .ok (.iaload, 1) := by decide +kernel
theorem dX11_warm_75 : decode cX11_warm 75 = .ok (.goto 10, 3) := by decide +kernel
theorem dX11_warm_78 : decode cX11_warm 78 = .ok (.aload_n 0, 1) := by decide +kernel
theorem dX11_warm_79 : decode cX11_warm 79 = .ok (.getfield 66, 3) := by decide +kernel
theorem dX11_warm_82 : decode cX11_warm 82 = .ok (.iload 4, 2) := by decide +kernel
theorem dX11_warm_84 : decode cX11_warm 84 = .ok (.iaload, 1) := by decide +kernel
theorem dX11_warm_85 : decode cX11_warm 85 = .ok (.ireturn, 1) := by decide +kernel
theorem dX11_night_0 : decode cX11_night 0 = .ok (.iload_n 1, 1) := by decide +kernel
theorem dX11_night_1 : decode cX11_night 1 = .ok (.iconst (-1), 1) := by decide +kernel
theorem dX11_night_2 : decode cX11_night 2 = .ok (.if_icmp .eq 14, 3) := by decide +kernel
theorem dX11_night_5 : decode cX11_night 5 = .ok (.aload_n 0, 1) := by decide +kernel
theorem dX11_night_6 : decode cX11_night 6 = .ok (.iload_n 1, 1) := by decide +kernel
theorem dX11_night_7 : decode cX11_night 7 = .ok (.invokevirtual 222, 3) := by decide +kernel
theorem dX11_night_10 : decode cX11_night 10 = .ok (.ifCond .ne 6, 3) := by decide +kernel
theorem dX11_night_13 : decode cX11_night 13 = .ok (.bipush (-2), 2) := by decide +kernel
theorem dX11_night_15 : decode cX11_night 15 = .ok (.ireturn, 1) := by decide +kernel
theorem dX11_night_16 : decode cX11_night 16 = .ok (.aload_n 0, 1) := by decide +kernel
theorem dX11_night_17 : decode cX11_night 17 = .ok (.invokevirtual 253, 3) := by decide +kernel
theorem dX11_night_20 : decode cX11_night 20 = .ok (.aload_n 0, 1) := by decide +kernel
theorem dX11_night_21 : decode cX11_night 21 = .ok (.invokevirtual 256, 3) := by decide +kernel
theorem dX11_night_24 : decode cX11_night 24 = .ok (.istore_n 2, 1) := by decide +kernel
theorem dX11_night_25 : decode cX11_night 25 = .ok (.iload_n 1, 1) := by decide +kernel
theorem dX11_night_26 : decode cX11_night 26 = .ok (.iconst (-1), 1) := by decide +kernel
theorem dX11_night_27 : decode cX11_night 27 = .ok (.if_icmp .ne 7, 3) := by decide +kernel
theorem dX11_night_30 : decode cX11_night 30 = .ok (.iload_n 2, 1) := by decide +kernel
theorem dX11_night_31 : decode cX11_night 31 = .ok (.goto 8, 3) := by decide +kernel
theorem dX11_night_34 : decode cX11_night 34 = .ok (.aload_n 0, 1) := by decide +kernel
theorem dX11_night_35 : decode cX11_night 35 = .ok (.iload_n 1, 1) := by decide +kernel
theorem dX11_night_36 : decode cX11_night 36 = .ok (.invokevirtual 250, 3) := by decide +kernel
theorem dX11_night_39 : decode cX11_night 39 = .ok (.ireturn, 1) := by decide +kernel
theorem dX11_above_0 : decode cX11_above 0 = .ok (.aload_n 0, 1) := by decide +kernel
theorem dX11_above_1 : decode cX11_above 1 = .ok (.iload_n 1, 1) := by decide +kernel
theorem dX11_above_2 : decode cX11_above 2 = .ok (.invokevirtual 222, 3) := by decide +kernel
theorem dX11_above_5 : decode cX11_above 5 = .ok (.ifCond .ne 6, 3) := by decide +kernel
theorem dX11_above_8 : decode cX11_above 8 = .ok (.bipush (-2), 2) := by decide +kernel
theorem dX11_above_10 : decode cX11_above 10 = .ok (.ireturn, 1) := by decide +kernel
theorem dX11_above_11 : decode cX11_above 11 = .ok (.iload_n 2, 1) := by decide +kernel
theorem dX11_above_12 : decode cX11_above 12 = .ok (.sipush (-999), 3) := by decide +kernel
theorem dX11_above_15 : decode cX11_above 15 = .ok (.sipush 9999, 3) := by decide +kernel
theorem dX11_above_18 : decode cX11_above 18 = .ok (.invokestatic 120, 3) := by decide +kernel
theorem dX11_above_21 : decode cX11_above 21 = .ok (.ifCond .ne 6, 3) := by decide +kernel
theorem dX11_above_24 : decode cX11_above 24 = .ok (.bipush (-3), 2) := by decide +kernel
theorem dX11_above_26 : decode cX11_above 26 = .ok (.ireturn, 1) := by decide +kernel
theorem dX11_above_27 : decode cX11_above 27 = .ok (.aload_n 0, 1) := by decide +kernel
theorem dX11_above_28 : decode cX11_above 28 = .ok (.invokevirtual 253, 3) := by decide +kernel
theorem dX11_above_31 : decode cX11_above 31 = .ok (.aload_n 0, 1) := by decide +kernel
theorem dX11_above_32 : decode cX11_above 32 = .ok (.invokevirtual 247, 3) := by decide +kernel
theorem dX11_above_35 : decode cX11_above 35 = .ok (.iconst 0, 1) := by decide +kernel
theorem dX11_above_36 : decode cX11_above 36 = .ok (.istore_n 3, 1) := by decide +kernel
theorem dX11_above_37 : decode cX11_above 37 = .ok (.iconst 0, 1) := by decide +kernel
theorem dX11_above_38 : decode cX11_above 38 = .ok (.istore 4, 2) := by decide +kernel
theorem dX11_above_40 : decode cX11_above 40 = .ok (.iconst 0, 1) := by decide +kernel
theorem dX11_above_41 : decode cX11_above 41 = .ok (.istore 5, 2) := by decide +kernel
theorem dX11_above_43 : decode cX11_above 43 = .ok (.iload 5, 2) := by decide +kernel
theorem dX11_above_45 : decode cX11_above 45 = .ok (.bipush 96, 2) := by decide +kernel
theorem dX11_above_47 : decode cX11_above 47 = .ok (.if_icmp .ge 47, 3) := by decide +kernel
theorem dX11_above_50 : decode cX11_above 50 = .ok (.aload_n 0, 1) := by decide +kernel
theorem dX11_above_51 : decode cX11_above 51 = .ok (.getfield 60, 3) := by decide +kernel
theorem dX11_above_54 : decode cX11_above 54 = .ok (.bipush 96, 2) := by decide +kernel
theorem dX11_above_56 : decode cX11_above 56 = .ok (.iload_n 1, 1) := by decide +kernel
theorem dX11_above_57 : decode cX11_above 57 = .ok (.imul, 1) := by decide +kernel
theorem dX11_above_58 : decode cX11_above 58 = .ok (.iload 5, 2) := by decide +kernel
theorem dX11_above_60 : decode cX11_above 60 = .ok (.iadd, 1) := by decide +kernel
theorem dX11_above_61 : decode cX11_above 61 = .ok (.iaload, 1) := by decide +kernel
theorem dX11_above_62 : decode cX11_above 62 = .ok (.iload_n 2, 1) := by decide +kernel
theorem dX11_above_63 : decode cX11_above 63 = .ok (.if_icmp .le 9, 3) := by decide +kernel
theorem dX11_above_66 : decode cX11_above 66 = .ok (.iload_n 3, 1) := by decide +kernel
theorem dX11_above_67 : decode cX11_above 67 = .ok (.iconst 1, 1) := by decide +kernel
theorem dX11_above_68 : decode cX11_above 68 = .ok (.iadd, 1) := by decide +kernel
theorem dX11_above_69 : decode cX11_above 69 = .ok (.goto 4, 3) := by decide +kernel
theorem dX11_above_72 : decode cX11_above 72 = .ok (.iconst 0, 1) := by decide +kernel
theorem dX11_above_73 : decode cX11_above 73 = .ok (.istore_n 3, 1) := by decide +kernel
theorem dX11_above_74 : decode cX11_above 74 = .ok (.iload_n 3, 1) := by decide +kernel
theorem dX11_above_75 : decode cX11_above 75 = .ok (.iload 4, 2) := by decide +kernel
theorem dX11_above_77 : decode cX11_above 77 = .ok (.if_icmp .le 7, 3) := by decide +kernel
theorem dX11_above_80 : decode cX11_above 80 = .ok (.iload_n 3, 1) := by decide +kernel
theorem dX11_above_81 : decode cX11_above 81 = .ok (.goto 5, 3) := by decide +kernel
theorem dX11_above_84 : decode cX11_above 84 = .ok (.iload 4, 2) := by decide +kernel
theorem dX11_above_86 : decode cX11_above 86 = .ok (.istore 4, 2) := by decide +kernel
theorem dX11_above_88 : decode cX11_above 88 = .ok (.iinc 5 1, 3) := by decide +kernel
theorem dX11_above_91 : decode cX11_above 91 = .ok (.goto (-48), 3) := by decide +kernel
theorem dX11_above_94 : decode cX11_above 94 = .ok (.iload 4, 2) := by decide +kernel
theorem dX11_above_96 : decode cX11_above 96 = .ok (.ireturn, 1) := by decide +kernel
theorem dX11_costs_0 : decode cX11_costs 0 = .ok (.aload_n 0, 1) := by decide +kernel
theorem dX11_costs_1 : decode cX11_costs 1 = .ok (.iload_n 1, 1) := by decide +kernel
theorem dX11_costs_2 : decode cX11_costs 2 = .ok (.invokevirtual 222, 3) := by decide +kernel
theorem dX11_costs_5 : decode cX11_costs 5 = .ok (.ifCond .ne 6, 3) := by decide +kernel
theorem dX11_costs_8 : decode cX11_costs 8 = .ok (.bipush (-2), 2) := by decide +kernel
theorem dX11_costs_10 : decode cX11_costs 10 = .ok (.ireturn, 1) := by decide +kernel
theorem dX11_costs_11 : decode cX11_costs 11 = .ok (.aload_n 0, 1) := by decide +kernel
theorem dX11_costs_12 : decode cX11_costs 12 = .ok (.invokevirtual 253, 3) := by decide +kernel
theorem dX11_costs_15 : decode cX11_costs 15 = .ok (.aload_n 0, 1) := by decide +kernel
theorem dX11_costs_16 : decode cX11_costs 16 = .ok (.invokevirtual 256, 3) := by decide +kernel
theorem dX11_costs_19 : decode cX11_costs 19 = .ok (.istore_n 2, 1) := by decide +kernel
theorem dX11_costs_20 : decode cX11_costs 20 = .ok (.aload_n 0, 1) := by decide +kernel
theorem dX11_costs_21 : decode cX11_costs 21 = .ok (.getfield 81, 3) := by decide +kernel
theorem dX11_costs_24 : decode cX11_costs 24 = .ok (.iload_n 1, 1) := by decide +kernel
theorem dX11_costs_25 : decode cX11_costs 25 = .ok (.iconst 1, 1) := by decide +kernel
theorem dX11_costs_26 : decode cX11_costs 26 = .ok (.iastore, 1) := by decide +kernel
theorem dX11_costs_27 : decode cX11_costs 27 = .ok (.iload_n 2, 1) := by decide +kernel
theorem dX11_costs_28 : decode cX11_costs 28 = .ok (.aload_n 0, 1) := by decide +kernel
theorem dX11_costs_29 : decode cX11_costs 29 = .ok (.invokevirtual 256, 3) := by decide +kernel
theorem dX11_costs_32 : decode cX11_costs 32 = .ok (.isub, 1) := by decide +kernel
theorem dX11_costs_33 : decode cX11_costs 33 = .ok (.ldc_w 260, 3) := by decide +kernel
theorem dX11_costs_36 : decode cX11_costs 36 = .ok (.iadd, 1) := by decide +kernel
theorem dX11_costs_37 : decode cX11_costs 37 = .ok (.ireturn, 1) := by decide +kernel
theorem dX11_nightByClock_0 : decode cX11_nightByClock 0 = .ok (.iconst 0, 1) := by decide +kernel
theorem dX11_nightByClock_1 : decode cX11_nightByClock 1 = .ok (.istore_n 3, 1) := by decide +kernel
theorem dX11_nightByClock_2 : decode cX11_nightByClock 2 = .ok (.iload_n 3, 1) := by decide +kernel
theorem dX11_nightByClock_3 : decode cX11_nightByClock 3 = .ok (.iconst 5, 1) := by decide +kernel
theorem dX11_nightByClock_4 : decode cX11_nightByClock 4 = .ok (.if_icmp .ge 27, 3) := by decide +kernel
theorem dX11_nightByClock_7 : decode cX11_nightByClock 7 = .ok (.aload_n 0, 1) := by decide +kernel
theorem dX11_nightByClock_8 : decode cX11_nightByClock 8 = .ok (.getfield 81, 3) := by decide +kernel
theorem dX11_nightByClock_11 : decode cX11_nightByClock 11 = .ok (.iload_n 3, 1) := by decide +kernel
theorem dX11_nightByClock_12 : decode cX11_nightByClock 12 = .ok (.iconst 0, 1) := by decide +kernel
theorem dX11_nightByClock_13 : decode cX11_nightByClock 13 = .ok (.iastore, 1) := by decide +kernel
theorem dX11_nightByClock_14 : decode cX11_nightByClock 14 = .ok (.aload_n 0, 1) := by decide +kernel
theorem dX11_nightByClock_15 : decode cX11_nightByClock 15 = .ok (.getfield 84, 3) := by decide +kernel
theorem dX11_nightByClock_18 : decode cX11_nightByClock 18 = .ok (.iload_n 3, 1) := by decide +kernel
theorem dX11_nightByClock_19 : decode cX11_nightByClock 19 = .ok (.iload_n 1, 1) := by decide +kernel
theorem dX11_nightByClock_20 : decode cX11_nightByClock 20 = .ok (.iload_n 2, 1) := by decide +kernel
theorem dX11_nightByClock_21 : decode cX11_nightByClock 21 = .ok (.invokestatic 214, 3) := by decide +kernel
theorem dX11_nightByClock_24 : decode cX11_nightByClock 24 = .ok (.iastore, 1) := by decide +kernel
theorem dX11_nightByClock_25 : decode cX11_nightByClock 25 = .ok (.iinc 3 1, 3) := by decide +kernel
theorem dX11_nightByClock_28 : decode cX11_nightByClock 28 = .ok (.goto (-26), 3) := by decide +kernel
theorem dX11_nightByClock_31 : decode cX11_nightByClock 31 = .ok (.aload_n 0, 1) := by decide +kernel
theorem dX11_nightByClock_32 : decode cX11_nightByClock 32 = .ok (.invokevirtual 256, 3) := by decide +kernel
theorem dX11_nightByClock_35 : decode cX11_nightByClock 35 = .ok (.ireturn, 1) := by decide +kernel
theorem dX11_nightByGlass_0 : decode cX11_nightByGlass 0 = .ok (.iconst 0, 1) := by decide +kernel
theorem dX11_nightByGlass_1 : decode cX11_nightByGlass 1 = .ok (.istore_n 1, 1) := by decide +kernel
theorem dX11_nightByGlass_2 : decode cX11_nightByGlass 2 = .ok (.iload_n 1, 1) := by decide +kernel
theorem dX11_nightByGlass_3 : decode cX11_nightByGlass 3 = .ok (.iconst 5, 1) := by decide +kernel
theorem dX11_nightByGlass_4 : decode cX11_nightByGlass 4 = .ok (.if_icmp .ge 16, 3) := by decide +kernel
theorem dX11_nightByGlass_7 : decode cX11_nightByGlass 7 = .ok (.aload_n 0, 1) := by decide +kernel
theorem dX11_nightByGlass_8 : decode cX11_nightByGlass 8 = .ok (.getfield 81, 3) := by decide +kernel
theorem dX11_nightByGlass_11 : decode cX11_nightByGlass 11 = .ok (.iload_n 1, 1) := by decide +kernel
theorem dX11_nightByGlass_12 : decode cX11_nightByGlass 12 = .ok (.iconst 1, 1) := by decide +kernel
theorem dX11_nightByGlass_13 : decode cX11_nightByGlass 13 = .ok (.iastore, 1) := by decide +kernel
theorem dX11_nightByGlass_14 : decode cX11_nightByGlass 14 = .ok (.iinc 1 1, 3) := by decide +kernel
theorem dX11_nightByGlass_17 : decode cX11_nightByGlass 17 = .ok (.goto (-15), 3) := by decide +kernel
theorem dX11_nightByGlass_20 : decode cX11_nightByGlass 20 = .ok (.aload_n 0, 1) := by decide +kernel
theorem dX11_nightByGlass_21 : decode cX11_nightByGlass 21 = .ok (.invokevirtual 256, 3) := by decide +kernel
theorem dX11_nightByGlass_24 : decode cX11_nightByGlass 24 = .ok (.ireturn, 1) := by decide +kernel
theorem dX11_clock_0 : decode cX11_clock 0 = .ok (.iload_n 1, 1) := by decide +kernel
theorem dX11_clock_1 : decode cX11_clock 1 = .ok (.iconst 0, 1) := by decide +kernel
theorem dX11_clock_2 : decode cX11_clock 2 = .ok (.iconst 3, 1) := by decide +kernel
theorem dX11_clock_3 : decode cX11_clock 3 = .ok (.invokestatic 120, 3) := by decide +kernel
theorem dX11_clock_6 : decode cX11_clock 6 = .ok (.ifCond .ne 6, 3) := by decide +kernel
theorem dX11_clock_9 : decode cX11_clock 9 = .ok (.bipush (-3), 2) := by decide +kernel
theorem dX11_clock_11 : decode cX11_clock 11 = .ok (.ireturn, 1) := by decide +kernel
theorem dX11_clock_12 : decode cX11_clock 12 = .ok (.aload_n 0, 1) := by decide +kernel
theorem dX11_clock_13 : decode cX11_clock 13 = .ok (.iconst 0, 1) := by decide +kernel
theorem dX11_clock_14 : decode cX11_clock 14 = .ok (.putfield 232, 3) := by decide +kernel
theorem dX11_clock_17 : decode cX11_clock 17 = .ok (.iconst (-1), 1) := by decide +kernel
theorem dX11_clock_18 : decode cX11_clock 18 = .ok (.istore_n 2, 1) := by decide +kernel
theorem dX11_clock_19 : decode cX11_clock 19 = .ok (.iconst 0, 1) := by decide +kernel
theorem dX11_clock_20 : decode cX11_clock 20 = .ok (.istore_n 3, 1) := by decide +kernel
theorem dX11_clock_21 : decode cX11_clock 21 = .ok (.iconst 0, 1) := by decide +kernel
theorem dX11_clock_22 : decode cX11_clock 22 = .ok (.istore 4, 2) := by decide +kernel
theorem dX11_clock_24 : decode cX11_clock 24 = .ok (.iload 4, 2) := by decide +kernel
theorem dX11_clock_26 : decode cX11_clock 26 = .ok (.sipush 576, 3) := by decide +kernel
theorem dX11_clock_29 : decode cX11_clock 29 = .ok (.if_icmp .ge 42, 3) := by decide +kernel
theorem dX11_clock_32 : decode cX11_clock 32 = .ok (.aload_n 0, 1) := by decide +kernel
theorem dX11_clock_33 : decode cX11_clock 33 = .ok (.iload 4, 2) := by decide +kernel
theorem dX11_clock_35 : decode cX11_clock 35 = .ok (.bipush 24, 2) := by decide +kernel
theorem dX11_clock_37 : decode cX11_clock 37 = .ok (.idiv, 1) := by decide +kernel
theorem dX11_clock_38 : decode cX11_clock 38 = .ok (.iload 4, 2) := by decide +kernel
theorem dX11_clock_40 : decode cX11_clock 40 = .ok (.bipush 24, 2) := by decide +kernel
theorem dX11_clock_42 : decode cX11_clock 42 = .ok (.irem, 1) := by decide +kernel
theorem dX11_clock_43 : decode cX11_clock 43 = .ok (.invokevirtual 261, 3) := by decide +kernel
theorem dX11_clock_46 : decode cX11_clock 46 = .ok (.istore 5, 2) := by decide +kernel
theorem dX11_clock_48 : decode cX11_clock 48 = .ok (.iload_n 2, 1) := by decide +kernel
theorem dX11_clock_49 : decode cX11_clock 49 = .ok (.iconst (-1), 1) := by decide +kernel
theorem dX11_clock_50 : decode cX11_clock 50 = .ok (.if_icmp .eq 9, 3) := by decide +kernel
theorem dX11_clock_53 : decode cX11_clock 53 = .ok (.iload 5, 2) := by decide +kernel
theorem dX11_clock_55 : decode cX11_clock 55 = .ok (.iload_n 3, 1) := by decide +kernel
theorem dX11_clock_56 : decode cX11_clock 56 = .ok (.if_icmp .ge 9, 3) := by decide +kernel
theorem dX11_clock_59 : decode cX11_clock 59 = .ok (.iload 4, 2) := by decide +kernel
theorem dX11_clock_61 : decode cX11_clock 61 = .ok (.istore_n 2, 1) := by decide +kernel
theorem dX11_clock_62 : decode cX11_clock 62 = .ok (.iload 5, 2) := by decide +kernel
theorem dX11_clock_64 : decode cX11_clock 64 = .ok (.istore_n 3, 1) := by decide +kernel
theorem dX11_clock_65 : decode cX11_clock 65 = .ok (.iinc 4 1, 3) := by decide +kernel
theorem dX11_clock_68 : decode cX11_clock 68 = .ok (.goto (-44), 3) := by decide +kernel
theorem dX11_clock_71 : decode cX11_clock 71 = .ok (.iload_n 1, 1) := by decide +kernel
theorem dX11_clock_72 : decode cX11_clock 72 = .ok (.ifCond .ne 10, 3) := by decide +kernel
theorem dX11_clock_75 : decode cX11_clock 75 = .ok (.iload_n 2, 1) := by decide +kernel
theorem dX11_clock_76 : decode cX11_clock 76 = .ok (.bipush 24, 2) := by decide +kernel
theorem dX11_clock_78 : decode cX11_clock 78 = .ok (.idiv, 1) := by decide +kernel
theorem dX11_clock_79 : decode cX11_clock 79 = .ok (.goto 34, 3) := by decide +kernel
theorem dX11_clock_82 : decode cX11_clock 82 = .ok (.iload_n 1, 1) := by decide +kernel
theorem dX11_clock_83 : decode cX11_clock 83 = .ok (.iconst 1, 1) := by decide +kernel
theorem dX11_clock_84 : decode cX11_clock 84 = .ok (.if_icmp .ne 10, 3) := by decide +kernel
theorem dX11_clock_87 : decode cX11_clock 87 = .ok (.iload_n 2, 1) := by decide +kernel
theorem dX11_clock_88 : decode cX11_clock 88 = .ok (.bipush 24, 2) := by decide +kernel
theorem dX11_clock_90 : decode cX11_clock 90 = .ok (.irem, 1) := by decide +kernel
theorem dX11_clock_91 : decode cX11_clock 91 = .ok (.goto 22, 3) := by decide +kernel
theorem dX11_clock_94 : decode cX11_clock 94 = .ok (.iload_n 1, 1) := by decide +kernel
theorem dX11_clock_95 : decode cX11_clock 95 = .ok (.iconst 2, 1) := by decide +kernel
theorem dX11_clock_96 : decode cX11_clock 96 = .ok (.if_icmp .ne 7, 3) := by decide +kernel
theorem dX11_clock_99 : decode cX11_clock 99 = .ok (.iload_n 3, 1) := by decide +kernel
theorem dX11_clock_100 : decode cX11_clock 100 = .ok (.goto 13, 3) := by decide +kernel
theorem dX11_clock_103 : decode cX11_clock 103 = .ok (.iload_n 3, 1) := by decide +kernel
theorem dX11_clock_104 : decode cX11_clock 104 = .ok (.aload_n 0, 1) := by decide +kernel
theorem dX11_clock_105 : decode cX11_clock 105 = .ok (.invokevirtual 264, 3) := by decide +kernel
theorem dX11_clock_108 : decode cX11_clock 108 = .ok (.isub, 1) := by decide +kernel
theorem dX11_clock_109 : decode cX11_clock 109 = .ok (.ldc_w 260, 3) := by decide +kernel
theorem dX11_clock_112 : decode cX11_clock 112 = .ok (.iadd, 1) := by decide +kernel
theorem dX11_clock_113 : decode cX11_clock 113 = .ok (.ireturn, 1) := by decide +kernel
theorem dX11_work_0 : decode cX11_work 0 = .ok (.iload_n 1, 1) := by decide +kernel
theorem dX11_work_1 : decode cX11_work 1 = .ok (.iconst 0, 1) := by decide +kernel
theorem dX11_work_2 : decode cX11_work 2 = .ok (.iconst 4, 1) := by decide +kernel
theorem dX11_work_3 : decode cX11_work 3 = .ok (.invokestatic 120, 3) := by decide +kernel
theorem dX11_work_6 : decode cX11_work 6 = .ok (.ifCond .ne 6, 3) := by decide +kernel
theorem dX11_work_9 : decode cX11_work 9 = .ok (.bipush (-2), 2) := by decide +kernel
theorem dX11_work_11 : decode cX11_work 11 = .ok (.ireturn, 1) := by decide +kernel
theorem dX11_work_12 : decode cX11_work 12 = .ok (.iload_n 2, 1) := by decide +kernel
theorem dX11_work_13 : decode cX11_work 13 = .ok (.iconst 1, 1) := by decide +kernel
theorem dX11_work_14 : decode cX11_work 14 = .ok (.sipush 999, 3) := by decide +kernel
theorem dX11_work_17 : decode cX11_work 17 = .ok (.invokestatic 120, 3) := by decide +kernel
theorem dX11_work_20 : decode cX11_work 20 = .ok (.ifCond .eq 24, 3) := by decide +kernel
theorem dX11_work_23 : decode cX11_work 23 = .ok (.iload_n 3, 1) := by decide +kernel
theorem dX11_work_24 : decode cX11_work 24 = .ok (.iconst 0, 1) := by decide +kernel
theorem dX11_work_25 : decode cX11_work 25 = .ok (.bipush 100, 2) := by decide +kernel
theorem dX11_work_27 : decode cX11_work 27 = .ok (.invokestatic 120, 3) := by decide +kernel
theorem dX11_work_30 : decode cX11_work 30 = .ok (.ifCond .eq 14, 3) := by decide +kernel
theorem dX11_work_33 : decode cX11_work 33 = .ok (.iload 4, 2) := by decide +kernel
theorem dX11_work_35 : decode cX11_work 35 = .ok (.iconst 0, 1) := by decide +kernel
theorem dX11_work_36 : decode cX11_work 36 = .ok (.bipush 20, 2) := by decide +kernel
theorem dX11_work_38 : decode cX11_work 38 = .ok (.invokestatic 120, 3) := by decide +kernel
theorem dX11_work_41 : decode cX11_work 41 = .ok (.ifCond .ne 6, 3) := by decide +kernel
theorem dX11_work_44 : decode cX11_work 44 = .ok (.bipush (-3), 2) := by decide +kernel
theorem dX11_work_46 : decode cX11_work 46 = .ok (.ireturn, 1) := by decide +kernel
theorem dX11_work_47 : decode cX11_work 47 = .ok (.aload_n 0, 1) := by decide +kernel
theorem dX11_work_48 : decode cX11_work 48 = .ok (.getfield 229, 3) := by decide +kernel
theorem dX11_work_51 : decode cX11_work 51 = .ok (.bipush 6, 2) := by decide +kernel
theorem dX11_work_53 : decode cX11_work 53 = .ok (.if_icmp .ne 6, 3) := by decide +kernel
theorem dX11_work_56 : decode cX11_work 56 = .ok (.bipush (-5), 2) := by decide +kernel
theorem dX11_work_58 : decode cX11_work 58 = .ok (.ireturn, 1) := by decide +kernel
theorem dX11_work_59 : decode cX11_work 59 = .ok (.aload_n 0, 1) := by decide +kernel
theorem dX11_work_60 : decode cX11_work 60 = .ok (.getfield 87, 3) := by decide +kernel
theorem dX11_work_63 : decode cX11_work 63 = .ok (.aload_n 0, 1) := by decide +kernel
theorem dX11_work_64 : decode cX11_work 64 = .ok (.getfield 229, 3) := by decide +kernel
theorem dX11_work_67 : decode cX11_work 67 = .ok (.iload_n 1, 1) := by decide +kernel
theorem dX11_work_68 : decode cX11_work 68 = .ok (.iastore, 1) := by decide +kernel
theorem dX11_work_69 : decode cX11_work 69 = .ok (.aload_n 0, 1) := by decide +kernel
theorem dX11_work_70 : decode cX11_work 70 = .ok (.getfield 90, 3) := by decide +kernel
theorem dX11_work_73 : decode cX11_work 73 = .ok (.aload_n 0, 1) := by decide +kernel
theorem dX11_work_74 : decode cX11_work 74 = .ok (.getfield 229, 3) := by decide +kernel
theorem dX11_work_77 : decode cX11_work 77 = .ok (.iload_n 2, 1) := by decide +kernel
theorem dX11_work_78 : decode cX11_work 78 = .ok (.iastore, 1) := by decide +kernel
theorem dX11_work_79 : decode cX11_work 79 = .ok (.aload_n 0, 1) := by decide +kernel
theorem dX11_work_80 : decode cX11_work 80 = .ok (.getfield 93, 3) := by decide +kernel
theorem dX11_work_83 : decode cX11_work 83 = .ok (.aload_n 0, 1) := by decide +kernel
theorem dX11_work_84 : decode cX11_work 84 = .ok (.getfield 229, 3) := by decide +kernel
theorem dX11_work_87 : decode cX11_work 87 = .ok (.iload_n 3, 1) := by decide +kernel
theorem dX11_work_88 : decode cX11_work 88 = .ok (.iastore, 1) := by decide +kernel
theorem dX11_work_89 : decode cX11_work 89 = .ok (.aload_n 0, 1) := by decide +kernel
theorem dX11_work_90 : decode cX11_work 90 = .ok (.getfield 96, 3) := by decide +kernel
theorem dX11_work_93 : decode cX11_work 93 = .ok (.aload_n 0, 1) := by decide +kernel
theorem dX11_work_94 : decode cX11_work 94 = .ok (.getfield 229, 3) := by decide +kernel
theorem dX11_work_97 : decode cX11_work 97 = .ok (.iload 4, 2) := by decide +kernel
theorem dX11_work_99 : decode cX11_work 99 = .ok (.iastore, 1) := by decide +kernel
theorem dX11_work_100 : decode cX11_work 100 = .ok (.aload_n 0, 1) := by decide +kernel
theorem dX11_work_101 : decode cX11_work 101 = .ok (.dup, 1) := by decide +kernel
theorem dX11_work_102 : decode cX11_work 102 = .ok (.getfield 229, 3) := by decide +kernel
theorem dX11_work_105 : decode cX11_work 105 = .ok (.iconst 1, 1) := by decide +kernel
theorem dX11_work_106 : decode cX11_work 106 = .ok (.iadd, 1) := by decide +kernel
theorem dX11_work_107 : decode cX11_work 107 = .ok (.putfield 229, 3) := by decide +kernel
theorem dX11_work_110 : decode cX11_work 110 = .ok (.aload_n 0, 1) := by decide +kernel
theorem dX11_work_111 : decode cX11_work 111 = .ok (.getfield 229, 3) := by decide +kernel
theorem dX11_work_114 : decode cX11_work 114 = .ok (.iconst 1, 1) := by decide +kernel
theorem dX11_work_115 : decode cX11_work 115 = .ok (.isub, 1) := by decide +kernel
theorem dX11_work_116 : decode cX11_work 116 = .ok (.ireturn, 1) := by decide +kernel
theorem dX11_costOf_0 : decode cX11_costOf 0 = .ok (.iconst 0, 1) := by decide +kernel
theorem dX11_costOf_1 : decode cX11_costOf 1 = .ok (.istore_n 2, 1) := by decide +kernel
theorem dX11_costOf_2 : decode cX11_costOf 2 = .ok (.iconst 0, 1) := by decide +kernel
theorem dX11_costOf_3 : decode cX11_costOf 3 = .ok (.istore_n 3, 1) := by decide +kernel
theorem dX11_costOf_4 : decode cX11_costOf 4 = .ok (.iload_n 3, 1) := by decide +kernel
theorem dX11_costOf_5 : decode cX11_costOf 5 = .ok (.aload_n 0, 1) := by decide +kernel
theorem dX11_costOf_6 : decode cX11_costOf 6 = .ok (.getfield 229, 3) := by decide +kernel
theorem dX11_costOf_9 : decode cX11_costOf 9 = .ok (.if_icmp .ge 30, 3) := by decide +kernel
theorem dX11_costOf_12 : decode cX11_costOf 12 = .ok (.iload_n 2, 1) := by decide +kernel
theorem dX11_costOf_13 : decode cX11_costOf 13 = .ok (.iload_n 1, 1) := by decide +kernel
theorem dX11_costOf_14 : decode cX11_costOf 14 = .ok (.iload_n 3, 1) := by decide +kernel
theorem dX11_costOf_15 : decode cX11_costOf 15 = .ok (.invokestatic 127, 3) := by decide +kernel
theorem dX11_costOf_18 : decode cX11_costOf 18 = .ok (.ifCond .eq 12, 3) := by decide +kernel
theorem dX11_costOf_21 : decode cX11_costOf 21 = .ok (.aload_n 0, 1) := by decide +kernel
theorem dX11_costOf_22 : decode cX11_costOf 22 = .ok (.getfield 90, 3) := by decide +kernel
theorem dX11_costOf_25 : decode cX11_costOf 25 = .ok (.iload_n 3, 1) := by decide +kernel
theorem dX11_costOf_26 : decode cX11_costOf 26 = .ok (.iaload, 1) := by decide +kernel
theorem dX11_costOf_27 : decode cX11_costOf 27 = .ok (.goto 4, 3) := by decide +kernel
theorem dX11_costOf_30 : decode cX11_costOf 30 = .ok (.iconst 0, 1) := by decide +kernel
theorem dX11_costOf_31 : decode cX11_costOf 31 = .ok (.iadd, 1) := by decide +kernel
theorem dX11_costOf_32 : decode cX11_costOf 32 = .ok (.istore_n 2, 1) := by decide +kernel
theorem dX11_costOf_33 : decode cX11_costOf 33 = .ok (.iinc 3 1, 3) := by decide +kernel
theorem dX11_costOf_36 : decode cX11_costOf 36 = .ok (.goto (-32), 3) := by decide +kernel
theorem dX11_costOf_39 : decode cX11_costOf 39 = .ok (.iload_n 2, 1) := by decide +kernel
theorem dX11_costOf_40 : decode cX11_costOf 40 = .ok (.ireturn, 1) := by decide +kernel
theorem dX11_works_0 : decode cX11_works 0 = .ok (.iload_n 1, 1) := by decide +kernel
theorem dX11_works_1 : decode cX11_works 1 = .ok (.iconst 0, 1) := by decide +kernel
theorem dX11_works_2 : decode cX11_works 2 = .ok (.sipush 9999, 3) := by decide +kernel
theorem dX11_works_5 : decode cX11_works 5 = .ok (.invokestatic 120, 3) := by decide +kernel
theorem dX11_works_8 : decode cX11_works 8 = .ok (.ifCond .eq 12, 3) := by decide +kernel
theorem dX11_works_11 : decode cX11_works 11 = .ok (.iload_n 2, 1) := by decide +kernel
theorem dX11_works_12 : decode cX11_works 12 = .ok (.iconst 0, 1) := by decide +kernel
theorem dX11_works_13 : decode cX11_works 13 = .ok (.iconst 1, 1) := by decide +kernel
theorem dX11_works_14 : decode cX11_works 14 = .ok (.invokestatic 120, 3) := by decide +kernel
theorem dX11_works_17 : decode cX11_works 17 = .ok (.ifCond .ne 6, 3) := by decide +kernel
theorem dX11_works_20 : decode cX11_works 20 = .ok (.bipush (-3), 2) := by decide +kernel
theorem dX11_works_22 : decode cX11_works 22 = .ok (.ireturn, 1) := by decide +kernel
theorem dX11_works_23 : decode cX11_works 23 = .ok (.aload_n 0, 1) := by decide +kernel
theorem dX11_works_24 : decode cX11_works 24 = .ok (.invokevirtual 253, 3) := by decide +kernel
theorem dX11_works_27 : decode cX11_works 27 = .ok (.iconst (-1), 1) := by decide +kernel
theorem dX11_works_28 : decode cX11_works 28 = .ok (.istore_n 3, 1) := by decide +kernel
theorem dX11_works_29 : decode cX11_works 29 = .ok (.iconst 0, 1) := by decide +kernel
theorem dX11_works_30 : decode cX11_works 30 = .ok (.istore 4, 2) := by decide +kernel
theorem dX11_works_32 : decode cX11_works 32 = .ok (.iconst 0, 1) := by decide +kernel
theorem dX11_works_33 : decode cX11_works 33 = .ok (.istore 5, 2) := by decide +kernel
theorem dX11_works_35 : decode cX11_works 35 = .ok (.iload 5, 2) := by decide +kernel
theorem dX11_works_37 : decode cX11_works 37 = .ok (.iconst 1, 1) := by decide +kernel
theorem dX11_works_38 : decode cX11_works 38 = .ok (.aload_n 0, 1) := by decide +kernel
theorem dX11_works_39 : decode cX11_works 39 = .ok (.getfield 229, 3) := by decide +kernel
theorem dX11_works_42 : decode cX11_works 42 = .ok (.ishl, 1) := by decide +kernel
theorem dX11_works_43 : decode cX11_works 43 = .ok (.if_icmp .ge 50, 3) := by decide +kernel
theorem dX11_works_46 : decode cX11_works 46 = .ok (.aload_n 0, 1) := by decide +kernel
theorem dX11_works_47 : decode cX11_works 47 = .ok (.iload 5, 2) := by decide +kernel
theorem dX11_works_49 : decode cX11_works 49 = .ok (.invokevirtual 267, 3) := by decide +kernel
theorem dX11_works_52 : decode cX11_works 52 = .ok (.iload_n 1, 1) := by decide +kernel
theorem dX11_works_53 : decode cX11_works 53 = .ok (.if_icmp .gt 34, 3) := by decide +kernel
theorem dX11_works_56 : decode cX11_works 56 = .ok (.aload_n 0, 1) := by decide +kernel
theorem dX11_works_57 : decode cX11_works 57 = .ok (.iload 5, 2) := by decide +kernel
theorem dX11_works_59 : decode cX11_works 59 = .ok (.putfield 232, 3) := by decide +kernel
theorem dX11_works_62 : decode cX11_works 62 = .ok (.aload_n 0, 1) := by decide +kernel
theorem dX11_works_63 : decode cX11_works 63 = .ok (.invokevirtual 256, 3) := by decide +kernel
theorem dX11_works_66 : decode cX11_works 66 = .ok (.istore 6, 2) := by decide +kernel
theorem dX11_works_68 : decode cX11_works 68 = .ok (.iload_n 3, 1) := by decide +kernel
theorem dX11_works_69 : decode cX11_works 69 = .ok (.iconst (-1), 1) := by decide +kernel
theorem dX11_works_70 : decode cX11_works 70 = .ok (.if_icmp .eq 10, 3) := by decide +kernel
theorem dX11_works_73 : decode cX11_works 73 = .ok (.iload 6, 2) := by decide +kernel
theorem dX11_works_75 : decode cX11_works 75 = .ok (.iload 4, 2) := by decide +kernel
theorem dX11_works_77 : decode cX11_works 77 = .ok (.if_icmp .ge 10, 3) := by decide +kernel
theorem dX11_works_80 : decode cX11_works 80 = .ok (.iload 5, 2) := by decide +kernel
theorem dX11_works_82 : decode cX11_works 82 = .ok (.istore_n 3, 1) := by decide +kernel
theorem dX11_works_83 : decode cX11_works 83 = .ok (.iload 6, 2) := by decide +kernel
theorem dX11_works_85 : decode cX11_works 85 = .ok (.istore 4, 2) := by decide +kernel
theorem dX11_works_87 : decode cX11_works 87 = .ok (.iinc 5 1, 3) := by decide +kernel
theorem dX11_works_90 : decode cX11_works 90 = .ok (.goto (-55), 3) := by decide +kernel
theorem dX11_works_93 : decode cX11_works 93 = .ok (.aload_n 0, 1) := by decide +kernel
theorem dX11_works_94 : decode cX11_works 94 = .ok (.iconst 0, 1) := by decide +kernel
theorem dX11_works_95 : decode cX11_works 95 = .ok (.putfield 232, 3) := by decide +kernel
theorem dX11_works_98 : decode cX11_works 98 = .ok (.iload_n 2, 1) := by decide +kernel
theorem dX11_works_99 : decode cX11_works 99 = .ok (.ifCond .ne 7, 3) := by decide +kernel
theorem dX11_works_102 : decode cX11_works 102 = .ok (.iload_n 3, 1) := by decide +kernel
theorem dX11_works_103 : decode cX11_works 103 = .ok (.goto 5, 3) := by decide +kernel
theorem dX11_works_106 : decode cX11_works 106 = .ok (.iload 4, 2) := by decide +kernel
theorem dX11_works_108 : decode cX11_works 108 = .ok (.ireturn, 1) := by decide +kernel
theorem dX11_read_0 : decode cX11_read 0 = .ok (.iload_n 1, 1) := by decide +kernel
theorem dX11_read_1 : decode cX11_read 1 = .ok (.iconst 0, 1) := by decide +kernel
theorem dX11_read_2 : decode cX11_read 2 = .ok (.iconst 4, 1) := by decide +kernel
theorem dX11_read_3 : decode cX11_read 3 = .ok (.invokestatic 120, 3) := by decide +kernel
theorem dX11_read_6 : decode cX11_read 6 = .ok (.ifCond .eq 13, 3) := by decide +kernel
theorem dX11_read_9 : decode cX11_read 9 = .ok (.iload_n 2, 1) := by decide +kernel
theorem dX11_read_10 : decode cX11_read 10 = .ok (.iconst 0, 1) := by decide +kernel
theorem dX11_read_11 : decode cX11_read 11 = .ok (.bipush 95, 2) := by decide +kernel
theorem dX11_read_13 : decode cX11_read 13 = .ok (.invokestatic 120, 3) := by decide +kernel
theorem dX11_read_16 : decode cX11_read 16 = .ok (.ifCond .ne 6, 3) := by decide +kernel
theorem dX11_read_19 : decode cX11_read 19 = .ok (.bipush (-2), 2) := by decide +kernel
theorem dX11_read_21 : decode cX11_read 21 = .ok (.ireturn, 1) := by decide +kernel
theorem dX11_read_22 : decode cX11_read 22 = .ok (.iload_n 3, 1) := by decide +kernel
theorem dX11_read_23 : decode cX11_read 23 = .ok (.sipush (-999), 3) := by decide +kernel
theorem dX11_read_26 : decode cX11_read 26 = .ok (.sipush 9999, 3) := by decide +kernel
theorem dX11_read_29 : decode cX11_read 29 = .ok (.invokestatic 120, 3) := by decide +kernel
theorem dX11_read_32 : decode cX11_read 32 = .ok (.ifCond .ne 6, 3) := by decide +kernel
theorem dX11_read_35 : decode cX11_read 35 = .ok (.bipush (-3), 2) := by decide +kernel
theorem dX11_read_37 : decode cX11_read 37 = .ok (.ireturn, 1) := by decide +kernel
theorem dX11_read_38 : decode cX11_read 38 = .ok (.aload_n 0, 1) := by decide +kernel
theorem dX11_read_39 : decode cX11_read 39 = .ok (.getfield 270, 3) := by decide +kernel
theorem dX11_read_42 : decode cX11_read 42 = .ok (.bipush 8, 2) := by decide +kernel
theorem dX11_read_44 : decode cX11_read 44 = .ok (.if_icmp .ne 6, 3) := by decide +kernel
theorem dX11_read_47 : decode cX11_read 47 = .ok (.bipush (-5), 2) := by decide +kernel
theorem dX11_read_49 : decode cX11_read 49 = .ok (.ireturn, 1) := by decide +kernel
theorem dX11_read_50 : decode cX11_read 50 = .ok (.aload_n 0, 1) := by decide +kernel
theorem dX11_read_51 : decode cX11_read 51 = .ok (.getfield 99, 3) := by decide +kernel
theorem dX11_read_54 : decode cX11_read 54 = .ok (.aload_n 0, 1) := by decide +kernel
theorem dX11_read_55 : decode cX11_read 55 = .ok (.getfield 270, 3) := by decide +kernel
theorem dX11_read_58 : decode cX11_read 58 = .ok (.iload_n 1, 1) := by decide +kernel
theorem dX11_read_59 : decode cX11_read 59 = .ok (.iastore, 1) := by decide +kernel
theorem dX11_read_60 : decode cX11_read 60 = .ok (.aload_n 0, 1) := by decide +kernel
theorem dX11_read_61 : decode cX11_read 61 = .ok (.getfield 102, 3) := by decide +kernel
theorem dX11_read_64 : decode cX11_read 64 = .ok (.aload_n 0, 1) := by decide +kernel
theorem dX11_read_65 : decode cX11_read 65 = .ok (.getfield 270, 3) := by decide +kernel
theorem dX11_read_68 : decode cX11_read 68 = .ok (.iload_n 2, 1) := by decide +kernel
theorem dX11_read_69 : decode cX11_read 69 = .ok (.iastore, 1) := by decide +kernel
theorem dX11_read_70 : decode cX11_read 70 = .ok (.aload_n 0, 1) := by decide +kernel
theorem dX11_read_71 : decode cX11_read 71 = .ok (.getfield 105, 3) := by decide +kernel
theorem dX11_read_74 : decode cX11_read 74 = .ok (.aload_n 0, 1) := by decide +kernel
theorem dX11_read_75 : decode cX11_read 75 = .ok (.getfield 270, 3) := by decide +kernel
theorem dX11_read_78 : decode cX11_read 78 = .ok (.iload_n 3, 1) := by decide +kernel
theorem dX11_read_79 : decode cX11_read 79 = .ok (.iastore, 1) := by decide +kernel
theorem dX11_read_80 : decode cX11_read 80 = .ok (.aload_n 0, 1) := by decide +kernel
theorem dX11_read_81 : decode cX11_read 81 = .ok (.dup, 1) := by decide +kernel
theorem dX11_read_82 : decode cX11_read 82 = .ok (.getfield 270, 3) := by decide +kernel
theorem dX11_read_85 : decode cX11_read 85 = .ok (.iconst 1, 1) := by decide +kernel
theorem dX11_read_86 : decode cX11_read 86 = .ok (.iadd, 1) := by decide +kernel
theorem dX11_read_87 : decode cX11_read 87 = .ok (.putfield 270, 3) := by decide +kernel
theorem dX11_read_90 : decode cX11_read 90 = .ok (.aload_n 0, 1) := by decide +kernel
theorem dX11_read_91 : decode cX11_read 91 = .ok (.getfield 270, 3) := by decide +kernel
theorem dX11_read_94 : decode cX11_read 94 = .ok (.ireturn, 1) := by decide +kernel
theorem dX11_doHold_0 : decode cX11_doHold 0 = .ok (.iconst 0, 1) := by decide +kernel
theorem dX11_doHold_1 : decode cX11_doHold 1 = .ok (.istore_n 2, 1) := by decide +kernel
theorem dX11_doHold_2 : decode cX11_doHold 2 = .ok (.iload_n 2, 1) := by decide +kernel
theorem dX11_doHold_3 : decode cX11_doHold 3 = .ok (.aload_n 0, 1) := by decide +kernel
theorem dX11_doHold_4 : decode cX11_doHold 4 = .ok (.getfield 270, 3) := by decide +kernel
theorem dX11_doHold_7 : decode cX11_doHold 7 = .ok (.if_icmp .ge 64, 3) := by decide +kernel
theorem dX11_doHold_10 : decode cX11_doHold 10 = .ok (.aload_n 0, 1) := by decide +kernel
theorem dX11_doHold_11 : decode cX11_doHold 11 = .ok (.getfield 60, 3) := by decide +kernel
theorem dX11_doHold_14 : decode cX11_doHold 14 = .ok (.bipush 96, 2) := by decide +kernel
theorem dX11_doHold_16 : decode cX11_doHold 16 = .ok (.aload_n 0, 1) := by decide +kernel
theorem dX11_doHold_17 : decode cX11_doHold 17 = .ok (.getfield 99, 3) := by decide +kernel
theorem dX11_doHold_20 : decode cX11_doHold 20 = .ok (.iload_n 2, 1) := by decide +kernel
theorem dX11_doHold_21 : decode cX11_doHold 21 = .ok (.iaload, 1) := by decide +kernel
theorem dX11_doHold_22 : decode cX11_doHold 22 = .ok (.imul, 1) := by decide +kernel
theorem dX11_doHold_23 : decode cX11_doHold 23 = .ok (.aload_n 0, 1) := by decide +kernel
theorem dX11_doHold_24 : decode cX11_doHold 24 = .ok (.getfield 102, 3) := by decide +kernel
theorem dX11_doHold_27 : decode cX11_doHold 27 = .ok (.iload_n 2, 1) := by decide +kernel
theorem dX11_doHold_28 : decode cX11_doHold 28 = .ok (.iaload, 1) := by decide +kernel
theorem dX11_doHold_29 : decode cX11_doHold 29 = .ok (.iadd, 1) := by decide +kernel
theorem dX11_doHold_30 : decode cX11_doHold 30 = .ok (.iaload, 1) := by decide +kernel
theorem dX11_doHold_31 : decode cX11_doHold 31 = .ok (.aload_n 0, 1) := by decide +kernel
theorem dX11_doHold_32 : decode cX11_doHold 32 = .ok (.getfield 105, 3) := by decide +kernel
theorem dX11_doHold_35 : decode cX11_doHold 35 = .ok (.iload_n 2, 1) := by decide +kernel
theorem dX11_doHold_36 : decode cX11_doHold 36 = .ok (.iaload, 1) := by decide +kernel
theorem dX11_doHold_37 : decode cX11_doHold 37 = .ok (.isub, 1) := by decide +kernel
theorem dX11_doHold_38 : decode cX11_doHold 38 = .ok (.istore_n 3, 1) := by decide +kernel
theorem dX11_doHold_39 : decode cX11_doHold 39 = .ok (.aload_n 0, 1) := by decide +kernel
theorem dX11_doHold_40 : decode cX11_doHold 40 = .ok (.aload_n 0, 1) := by decide +kernel
theorem dX11_doHold_41 : decode cX11_doHold 41 = .ok (.getfield 99, 3) := by decide +kernel
theorem dX11_doHold_44 : decode cX11_doHold 44 = .ok (.iload_n 2, 1) := by decide +kernel
theorem dX11_doHold_45 : decode cX11_doHold 45 = .ok (.iaload, 1) := by decide +kernel
theorem dX11_doHold_46 : decode cX11_doHold 46 = .ok (.invokevirtual 222, 3) := by decide +kernel
theorem dX11_doHold_49 : decode cX11_doHold 49 = .ok (.ifCond .eq 14, 3) := by decide +kernel
theorem dX11_doHold_52 : decode cX11_doHold 52 = .ok (.iload_n 3, 1) := by decide +kernel
theorem dX11_doHold_53 : decode cX11_doHold 53 = .ok (.iload_n 1, 1) := by decide +kernel
theorem dX11_doHold_54 : decode cX11_doHold 54 = .ok (.if_icmp .gt 9, 3) := by decide +kernel
theorem dX11_doHold_57 : decode cX11_doHold 57 = .ok (.iload_n 3, 1) := by decide +kernel
theorem dX11_doHold_58 : decode cX11_doHold 58 = .ok (.ineg, 1) := by decide +kernel
theorem dX11_doHold_59 : decode cX11_doHold 59 = .ok (.iload_n 1, 1) := by decide +kernel
theorem dX11_doHold_60 : decode cX11_doHold 60 = .ok (.if_icmp .le 5, 3) := by decide +kernel
theorem dX11_doHold_63 : decode cX11_doHold 63 = .ok (.iconst 0, 1) := by decide +kernel
theorem dX11_doHold_64 : decode cX11_doHold 64 = .ok (.ireturn, 1) := by decide +kernel
theorem dX11_doHold_65 : decode cX11_doHold 65 = .ok (.iinc 2 1, 3) := by decide +kernel
theorem dX11_doHold_68 : decode cX11_doHold 68 = .ok (.goto (-66), 3) := by decide +kernel
theorem dX11_doHold_71 : decode cX11_doHold 71 = .ok (.iconst 1, 1) := by decide +kernel
theorem dX11_doHold_72 : decode cX11_doHold 72 = .ok (.ireturn, 1) := by decide +kernel
theorem dX11_learnt_0 : decode cX11_learnt 0 = .ok (.iload_n 1, 1) := by decide +kernel
theorem dX11_learnt_1 : decode cX11_learnt 1 = .ok (.iconst 0, 1) := by decide +kernel
theorem dX11_learnt_2 : decode cX11_learnt 2 = .ok (.sipush 999, 3) := by decide +kernel
theorem dX11_learnt_5 : decode cX11_learnt 5 = .ok (.invokestatic 120, 3) := by decide +kernel
theorem dX11_learnt_8 : decode cX11_learnt 8 = .ok (.ifCond .eq 12, 3) := by decide +kernel
theorem dX11_learnt_11 : decode cX11_learnt 11 = .ok (.iload_n 2, 1) := by decide +kernel
theorem dX11_learnt_12 : decode cX11_learnt 12 = .ok (.iconst 0, 1) := by decide +kernel
theorem dX11_learnt_13 : decode cX11_learnt 13 = .ok (.iconst 4, 1) := by decide +kernel
theorem dX11_learnt_14 : decode cX11_learnt 14 = .ok (.invokestatic 120, 3) := by decide +kernel
theorem dX11_learnt_17 : decode cX11_learnt 17 = .ok (.ifCond .ne 6, 3) := by decide +kernel
theorem dX11_learnt_20 : decode cX11_learnt 20 = .ok (.bipush (-3), 2) := by decide +kernel
theorem dX11_learnt_22 : decode cX11_learnt 22 = .ok (.ireturn, 1) := by decide +kernel
theorem dX11_learnt_23 : decode cX11_learnt 23 = .ok (.aload_n 0, 1) := by decide +kernel
theorem dX11_learnt_24 : decode cX11_learnt 24 = .ok (.invokevirtual 253, 3) := by decide +kernel
theorem dX11_learnt_27 : decode cX11_learnt 27 = .ok (.aload_n 0, 1) := by decide +kernel
theorem dX11_learnt_28 : decode cX11_learnt 28 = .ok (.getfield 41, 3) := by decide +kernel
theorem dX11_learnt_31 : decode cX11_learnt 31 = .ok (.istore_n 3, 1) := by decide +kernel
theorem dX11_learnt_32 : decode cX11_learnt 32 = .ok (.aload_n 0, 1) := by decide +kernel
theorem dX11_learnt_33 : decode cX11_learnt 33 = .ok (.getfield 38, 3) := by decide +kernel
theorem dX11_learnt_36 : decode cX11_learnt 36 = .ok (.istore 4, 2) := by decide +kernel
theorem dX11_learnt_38 : decode cX11_learnt 38 = .ok (.aload_n 0, 1) := by decide +kernel
theorem dX11_learnt_39 : decode cX11_learnt 39 = .ok (.getfield 117, 3) := by decide +kernel
theorem dX11_learnt_42 : decode cX11_learnt 42 = .ok (.iconst 0, 1) := by decide +kernel
theorem dX11_learnt_43 : decode cX11_learnt 43 = .ok (.iconst 0, 1) := by decide +kernel
theorem dX11_learnt_44 : decode cX11_learnt 44 = .ok (.iastore, 1) := by decide +kernel
theorem dX11_learnt_45 : decode cX11_learnt 45 = .ok (.iconst 0, 1) := by decide +kernel
theorem dX11_learnt_46 : decode cX11_learnt 46 = .ok (.istore 5, 2) := by decide +kernel
theorem dX11_learnt_48 : decode cX11_learnt 48 = .ok (.iload 5, 2) := by decide +kernel
theorem dX11_learnt_50 : decode cX11_learnt 50 = .ok (.bipush 81, 2) := by decide +kernel
theorem dX11_learnt_52 : decode cX11_learnt 52 = .ok (.if_icmp .ge 217, 3) := by decide +kernel
theorem dX11_learnt_55 : decode cX11_learnt 55 = .ok (.aload_n 0, 1) := by decide +kernel
theorem dX11_learnt_56 : decode cX11_learnt 56 = .ok (.iconst 5, 1) := by decide +kernel
theorem dX11_learnt_57 : decode cX11_learnt 57 = .ok (.iload 5, 2) := by decide +kernel
theorem dX11_learnt_59 : decode cX11_learnt 59 = .ok (.bipush 9, 2) := by decide +kernel
theorem dX11_learnt_61 : decode cX11_learnt 61 = .ok (.idiv, 1) := by decide +kernel
theorem dX11_learnt_62 : decode cX11_learnt 62 = .ok (.imul, 1) := by decide +kernel
theorem dX11_learnt_63 : decode cX11_learnt 63 = .ok (.putfield 41, 3) := by decide +kernel
theorem dX11_learnt_66 : decode cX11_learnt 66 = .ok (.aload_n 0, 1) := by decide +kernel
theorem dX11_learnt_67 : decode cX11_learnt 67 = .ok (.iconst 5, 1) := by decide +kernel
theorem dX11_learnt_68 : decode cX11_learnt 68 = .ok (.iload 5, 2) := by decide +kernel
theorem dX11_learnt_70 : decode cX11_learnt 70 = .ok (.bipush 9, 2) := by decide +kernel
theorem dX11_learnt_72 : decode cX11_learnt 72 = .ok (.irem, 1) := by decide +kernel
theorem dX11_learnt_73 : decode cX11_learnt 73 = .ok (.imul, 1) := by decide +kernel
theorem dX11_learnt_74 : decode cX11_learnt 74 = .ok (.putfield 38, 3) := by decide +kernel
theorem dX11_learnt_77 : decode cX11_learnt 77 = .ok (.aload_n 0, 1) := by decide +kernel
theorem dX11_learnt_78 : decode cX11_learnt 78 = .ok (.invokevirtual 247, 3) := by decide +kernel
theorem dX11_learnt_81 : decode cX11_learnt 81 = .ok (.aload_n 0, 1) := by decide +kernel
theorem dX11_learnt_82 : decode cX11_learnt 82 = .ok (.iload_n 1, 1) := by decide +kernel
theorem dX11_learnt_83 : decode cX11_learnt 83 = .ok (.invokevirtual 273, 3) := by decide +kernel
theorem dX11_learnt_86 : decode cX11_learnt 86 = .ok (.ifCond .eq 177, 3) := by decide +kernel
theorem dX11_learnt_89 : decode cX11_learnt 89 = .ok (.aload_n 0, 1) := by decide +kernel
theorem dX11_learnt_90 : decode cX11_learnt 90 = .ok (.getfield 117, 3) := by decide +kernel
theorem dX11_learnt_93 : decode cX11_learnt 93 = .ok (.iconst 0, 1) := by decide +kernel
theorem dX11_learnt_94 : decode cX11_learnt 94 = .ok (.iaload, 1) := by decide +kernel
theorem dX11_learnt_95 : decode cX11_learnt 95 = .ok (.ifCond .ne 7, 3) := by decide +kernel
theorem dX11_learnt_98 : decode cX11_learnt 98 = .ok (.iconst 1, 1) := by decide +kernel
theorem dX11_learnt_99 : decode cX11_learnt 99 = .ok (.goto 4, 3) := by decide +kernel
theorem dX11_learnt_102 : decode cX11_learnt 102 = .ok (.iconst 0, 1) := by decide +kernel
theorem dX11_learnt_103 : decode cX11_learnt 103 = .ok (.istore 6, 2) := by decide +kernel
theorem dX11_learnt_105 : decode cX11_learnt 105 = .ok (.aload_n 0, 1) := by decide +kernel
theorem dX11_learnt_106 : decode cX11_learnt 106 = .ok (.getfield 117, 3) := by decide +kernel
theorem dX11_learnt_109 : decode cX11_learnt 109 = .ok (.iconst 0, 1) := by decide +kernel
theorem dX11_learnt_110 : decode cX11_learnt 110 = .ok (.dup2, 1) := by decide +kernel
theorem dX11_learnt_111 : decode cX11_learnt 111 = .ok (.iaload, 1) := by decide +kernel
theorem dX11_learnt_112 : decode cX11_learnt 112 = .ok (.iconst 1, 1) := by decide +kernel
theorem dX11_learnt_113 : decode cX11_learnt 113 = .ok (.iadd, 1) := by decide +kernel
theorem dX11_learnt_114 : decode cX11_learnt 114 = .ok (.iastore, 1) := by decide +kernel
theorem dX11_learnt_115 : decode cX11_learnt 115 = .ok (.aload_n 0, 1) := by decide +kernel
theorem dX11_learnt_116 : decode cX11_learnt 116 = .ok (.getfield 117, 3) := by decide +kernel
theorem dX11_learnt_119 : decode cX11_learnt 119 = .ok (.iconst 1, 1) := by decide +kernel
theorem dX11_learnt_120 : decode cX11_learnt 120 = .ok (.iload 6, 2) := by decide +kernel
theorem dX11_learnt_122 : decode cX11_learnt 122 = .ok (.ifCond .ne 16, 3) := by decide +kernel
theorem dX11_learnt_125 : decode cX11_learnt 125 = .ok (.aload_n 0, 1) := by decide +kernel
theorem dX11_learnt_126 : decode cX11_learnt 126 = .ok (.getfield 41, 3) := by decide +kernel
theorem dX11_learnt_129 : decode cX11_learnt 129 = .ok (.aload_n 0, 1) := by decide +kernel
theorem dX11_learnt_130 : decode cX11_learnt 130 = .ok (.getfield 117, 3) := by decide +kernel
theorem dX11_learnt_133 : decode cX11_learnt 133 = .ok (.iconst 1, 1) := by decide +kernel
theorem dX11_learnt_134 : decode cX11_learnt 134 = .ok (.iaload, 1) := by decide +kernel
theorem dX11_learnt_135 : decode cX11_learnt 135 = .ok (.if_icmp .ge 10, 3) := by decide +kernel
theorem dX11_learnt_138 : decode cX11_learnt 138 = .ok (.aload_n 0, 1) := by decide +kernel
theorem dX11_learnt_139 : decode cX11_learnt 139 = .ok (.getfield 41, 3) := by decide +kernel
theorem dX11_learnt_142 : decode cX11_learnt 142 = .ok (.goto 9, 3) := by decide +kernel
theorem dX11_learnt_145 : decode cX11_learnt 145 = .ok (.aload_n 0, 1) := by decide +kernel
theorem dX11_learnt_146 : decode cX11_learnt 146 = .ok (.getfield 117, 3) := by decide +kernel
theorem dX11_learnt_149 : decode cX11_learnt 149 = .ok (.iconst 1, 1) := by decide +kernel
theorem dX11_learnt_150 : decode cX11_learnt 150 = .ok (.iaload, 1) := by decide +kernel
theorem dX11_learnt_151 : decode cX11_learnt 151 = .ok (.iastore, 1) := by decide +kernel
theorem dX11_learnt_152 : decode cX11_learnt 152 = .ok (.aload_n 0, 1) := by decide +kernel
theorem dX11_learnt_153 : decode cX11_learnt 153 = .ok (.getfield 117, 3) := by decide +kernel
theorem dX11_learnt_156 : decode cX11_learnt 156 = .ok (.iconst 2, 1) := by decide +kernel
theorem dX11_learnt_157 : decode cX11_learnt 157 = .ok (.iload 6, 2) := by decide +kernel
theorem dX11_learnt_159 : decode cX11_learnt 159 = .ok (.ifCond .ne 16, 3) := by decide +kernel
theorem dX11_learnt_162 : decode cX11_learnt 162 = .ok (.aload_n 0, 1) := by decide +kernel
theorem dX11_learnt_163 : decode cX11_learnt 163 = .ok (.getfield 41, 3) := by decide +kernel
theorem dX11_learnt_166 : decode cX11_learnt 166 = .ok (.aload_n 0, 1) := by decide +kernel
theorem dX11_learnt_167 : decode cX11_learnt 167 = .ok (.getfield 117, 3) := by decide +kernel
theorem dX11_learnt_170 : decode cX11_learnt 170 = .ok (.iconst 2, 1) := by decide +kernel
theorem dX11_learnt_171 : decode cX11_learnt 171 = .ok (.iaload, 1) := by decide +kernel
theorem dX11_learnt_172 : decode cX11_learnt 172 = .ok (.if_icmp .le 10, 3) := by decide +kernel
theorem dX11_learnt_175 : decode cX11_learnt 175 = .ok (.aload_n 0, 1) := by decide +kernel
theorem dX11_learnt_176 : decode cX11_learnt 176 = .ok (.getfield 41, 3) := by decide +kernel
theorem dX11_learnt_179 : decode cX11_learnt 179 = .ok (.goto 9, 3) := by decide +kernel
theorem dX11_learnt_182 : decode cX11_learnt 182 = .ok (.aload_n 0, 1) := by decide +kernel
theorem dX11_learnt_183 : decode cX11_learnt 183 = .ok (.getfield 117, 3) := by decide +kernel
theorem dX11_learnt_186 : decode cX11_learnt 186 = .ok (.iconst 2, 1) := by decide +kernel
theorem dX11_learnt_187 : decode cX11_learnt 187 = .ok (.iaload, 1) := by decide +kernel
theorem dX11_learnt_188 : decode cX11_learnt 188 = .ok (.iastore, 1) := by decide +kernel
theorem dX11_learnt_189 : decode cX11_learnt 189 = .ok (.aload_n 0, 1) := by decide +kernel
theorem dX11_learnt_190 : decode cX11_learnt 190 = .ok (.getfield 117, 3) := by decide +kernel
theorem dX11_learnt_193 : decode cX11_learnt 193 = .ok (.iconst 3, 1) := by decide +kernel
theorem dX11_learnt_194 : decode cX11_learnt 194 = .ok (.iload 6, 2) := by decide +kernel
theorem dX11_learnt_196 : decode cX11_learnt 196 = .ok (.ifCond .ne 16, 3) := by decide +kernel
theorem dX11_learnt_199 : decode cX11_learnt 199 = .ok (.aload_n 0, 1) := by decide +kernel
theorem dX11_learnt_200 : decode cX11_learnt 200 = .ok (.getfield 38, 3) := by decide +kernel
theorem dX11_learnt_203 : decode cX11_learnt 203 = .ok (.aload_n 0, 1) := by decide +kernel
theorem dX11_learnt_204 : decode cX11_learnt 204 = .ok (.getfield 117, 3) := by decide +kernel
theorem dX11_learnt_207 : decode cX11_learnt 207 = .ok (.iconst 3, 1) := by decide +kernel
theorem dX11_learnt_208 : decode cX11_learnt 208 = .ok (.iaload, 1) := by decide +kernel
theorem dX11_learnt_209 : decode cX11_learnt 209 = .ok (.if_icmp .ge 10, 3) := by decide +kernel
theorem dX11_learnt_212 : decode cX11_learnt 212 = .ok (.aload_n 0, 1) := by decide +kernel
theorem dX11_learnt_213 : decode cX11_learnt 213 = .ok (.getfield 38, 3) := by decide +kernel
theorem dX11_learnt_216 : decode cX11_learnt 216 = .ok (.goto 9, 3) := by decide +kernel
theorem dX11_learnt_219 : decode cX11_learnt 219 = .ok (.aload_n 0, 1) := by decide +kernel
theorem dX11_learnt_220 : decode cX11_learnt 220 = .ok (.getfield 117, 3) := by decide +kernel
theorem dX11_learnt_223 : decode cX11_learnt 223 = .ok (.iconst 3, 1) := by decide +kernel
theorem dX11_learnt_224 : decode cX11_learnt 224 = .ok (.iaload, 1) := by decide +kernel
theorem dX11_learnt_225 : decode cX11_learnt 225 = .ok (.iastore, 1) := by decide +kernel
theorem dX11_learnt_226 : decode cX11_learnt 226 = .ok (.aload_n 0, 1) := by decide +kernel
theorem dX11_learnt_227 : decode cX11_learnt 227 = .ok (.getfield 117, 3) := by decide +kernel
theorem dX11_learnt_230 : decode cX11_learnt 230 = .ok (.iconst 4, 1) := by decide +kernel
theorem dX11_learnt_231 : decode cX11_learnt 231 = .ok (.iload 6, 2) := by decide +kernel
theorem dX11_learnt_233 : decode cX11_learnt 233 = .ok (.ifCond .ne 16, 3) := by decide +kernel
theorem dX11_learnt_236 : decode cX11_learnt 236 = .ok (.aload_n 0, 1) := by decide +kernel
theorem dX11_learnt_237 : decode cX11_learnt 237 = .ok (.getfield 38, 3) := by decide +kernel
theorem dX11_learnt_240 : decode cX11_learnt 240 = .ok (.aload_n 0, 1) := by decide +kernel
theorem dX11_learnt_241 : decode cX11_learnt 241 = .ok (.getfield 117, 3) := by decide +kernel
theorem dX11_learnt_244 : decode cX11_learnt 244 = .ok (.iconst 4, 1) := by decide +kernel
theorem dX11_learnt_245 : decode cX11_learnt 245 = .ok (.iaload, 1) := by decide +kernel
theorem dX11_learnt_246 : decode cX11_learnt 246 = .ok (.if_icmp .le 10, 3) := by decide +kernel
theorem dX11_learnt_249 : decode cX11_learnt 249 = .ok (.aload_n 0, 1) := by decide +kernel
theorem dX11_learnt_250 : decode cX11_learnt 250 = .ok (.getfield 38, 3) := by decide +kernel
theorem dX11_learnt_253 : decode cX11_learnt 253 = .ok (.goto 9, 3) := by decide +kernel
theorem dX11_learnt_256 : decode cX11_learnt 256 = .ok (.aload_n 0, 1) := by decide +kernel
theorem dX11_learnt_257 : decode cX11_learnt 257 = .ok (.getfield 117, 3) := by decide +kernel
theorem dX11_learnt_260 : decode cX11_learnt 260 = .ok (.iconst 4, 1) := by decide +kernel
theorem dX11_learnt_261 : decode cX11_learnt 261 = .ok (.iaload, 1) := by decide +kernel
theorem dX11_learnt_262 : decode cX11_learnt 262 = .ok (.iastore, 1) := by decide +kernel
theorem dX11_learnt_263 : decode cX11_learnt 263 = .ok (.iinc 5 1, 3) := by decide +kernel
theorem dX11_learnt_266 : decode cX11_learnt 266 = .ok (.goto (-218), 3) := by decide +kernel
theorem dX11_learnt_269 : decode cX11_learnt 269 = .ok (.aload_n 0, 1) := by decide +kernel
theorem dX11_learnt_270 : decode cX11_learnt 270 = .ok (.iload_n 3, 1) := by decide +kernel
theorem dX11_learnt_271 : decode cX11_learnt 271 = .ok (.putfield 41, 3) := by decide +kernel
theorem dX11_learnt_274 : decode cX11_learnt 274 = .ok (.aload_n 0, 1) := by decide +kernel
theorem dX11_learnt_275 : decode cX11_learnt 275 = .ok (.iload 4, 2) := by decide +kernel
theorem dX11_learnt_277 : decode cX11_learnt 277 = .ok (.putfield 38, 3) := by decide +kernel
theorem dX11_learnt_280 : decode cX11_learnt 280 = .ok (.iload_n 2, 1) := by decide +kernel
theorem dX11_learnt_281 : decode cX11_learnt 281 = .ok (.ifCond .ne 12, 3) := by decide +kernel
theorem dX11_learnt_284 : decode cX11_learnt 284 = .ok (.aload_n 0, 1) := by decide +kernel
theorem dX11_learnt_285 : decode cX11_learnt 285 = .ok (.getfield 117, 3) := by decide +kernel
theorem dX11_learnt_288 : decode cX11_learnt 288 = .ok (.iconst 0, 1) := by decide +kernel
theorem dX11_learnt_289 : decode cX11_learnt 289 = .ok (.iaload, 1) := by decide +kernel
theorem dX11_learnt_290 : decode cX11_learnt 290 = .ok (.goto 22, 3) := by decide +kernel
theorem dX11_learnt_293 : decode cX11_learnt 293 = .ok (.aload_n 0, 1) := by decide +kernel
theorem dX11_learnt_294 : decode cX11_learnt 294 = .ok (.getfield 117, 3) := by decide +kernel
theorem dX11_learnt_297 : decode cX11_learnt 297 = .ok (.iconst 0, 1) := by decide +kernel
theorem dX11_learnt_298 : decode cX11_learnt 298 = .ok (.iaload, 1) := by decide +kernel
theorem dX11_learnt_299 : decode cX11_learnt 299 = .ok (.ifCond .ne 7, 3) := by decide +kernel
theorem dX11_learnt_302 : decode cX11_learnt 302 = .ok (.iconst (-1), 1) := by decide +kernel
theorem dX11_learnt_303 : decode cX11_learnt 303 = .ok (.goto 9, 3) := by decide +kernel
theorem dX11_learnt_306 : decode cX11_learnt 306 = .ok (.aload_n 0, 1) := by decide +kernel
theorem dX11_learnt_307 : decode cX11_learnt 307 = .ok (.getfield 117, 3) := by decide +kernel
theorem dX11_learnt_310 : decode cX11_learnt 310 = .ok (.iload_n 2, 1) := by decide +kernel
theorem dX11_learnt_311 : decode cX11_learnt 311 = .ok (.iaload, 1) := by decide +kernel
theorem dX11_learnt_312 : decode cX11_learnt 312 = .ok (.ireturn, 1) := by decide +kernel
theorem dX11_flat_0 : decode cX11_flat 0 = .ok (.iload_n 1, 1) := by decide +kernel
theorem dX11_flat_1 : decode cX11_flat 1 = .ok (.iconst 0, 1) := by decide +kernel
theorem dX11_flat_2 : decode cX11_flat 2 = .ok (.bipush 7, 2) := by decide +kernel
theorem dX11_flat_4 : decode cX11_flat 4 = .ok (.invokestatic 120, 3) := by decide +kernel
theorem dX11_flat_7 : decode cX11_flat 7 = .ok (.ifCond .ne 6, 3) := by decide +kernel
theorem dX11_flat_10 : decode cX11_flat 10 = .ok (.bipush (-2), 2) := by decide +kernel
theorem dX11_flat_12 : decode cX11_flat 12 = .ok (.ireturn, 1) := by decide +kernel
theorem dX11_flat_13 : decode cX11_flat 13 = .ok (.iload_n 2, 1) := by decide +kernel
theorem dX11_flat_14 : decode cX11_flat 14 = .ok (.iconst 0, 1) := by decide +kernel
theorem dX11_flat_15 : decode cX11_flat 15 = .ok (.bipush 99, 2) := by decide +kernel
theorem dX11_flat_17 : decode cX11_flat 17 = .ok (.invokestatic 120, 3) := by decide +kernel
theorem dX11_flat_20 : decode cX11_flat 20 = .ok (.ifCond .eq 13, 3) := by decide +kernel
theorem dX11_flat_23 : decode cX11_flat 23 = .ok (.iload_n 3, 1) := by decide +kernel
theorem dX11_flat_24 : decode cX11_flat 24 = .ok (.iconst 1, 1) := by decide +kernel
theorem dX11_flat_25 : decode cX11_flat 25 = .ok (.bipush 8, 2) := by decide +kernel
theorem dX11_flat_27 : decode cX11_flat 27 = .ok (.invokestatic 120, 3) := by decide +kernel
theorem dX11_flat_30 : decode cX11_flat 30 = .ok (.ifCond .ne 6, 3) := by decide +kernel
theorem dX11_flat_33 : decode cX11_flat 33 = .ok (.bipush (-3), 2) := by decide +kernel
theorem dX11_flat_35 : decode cX11_flat 35 = .ok (.ireturn, 1) := by decide +kernel
theorem dX11_flat_36 : decode cX11_flat 36 = .ok (.aload_n 0, 1) := by decide +kernel
theorem dX11_flat_37 : decode cX11_flat 37 = .ok (.getfield 108, 3) := by decide +kernel
theorem dX11_flat_40 : decode cX11_flat 40 = .ok (.iload_n 1, 1) := by decide +kernel
theorem dX11_flat_41 : decode cX11_flat 41 = .ok (.iload_n 2, 1) := by decide +kernel
theorem dX11_flat_42 : decode cX11_flat 42 = .ok (.iastore, 1) := by decide +kernel
theorem dX11_flat_43 : decode cX11_flat 43 = .ok (.aload_n 0, 1) := by decide +kernel
theorem dX11_flat_44 : decode cX11_flat 44 = .ok (.getfield 111, 3) := by decide +kernel
theorem dX11_flat_47 : decode cX11_flat 47 = .ok (.iload_n 1, 1) := by decide +kernel
theorem dX11_flat_48 : decode cX11_flat 48 = .ok (.iload_n 3, 1) := by decide +kernel
theorem dX11_flat_49 : decode cX11_flat 49 = .ok (.iastore, 1) := by decide +kernel
theorem dX11_flat_50 : decode cX11_flat 50 = .ok (.iconst 1, 1) := by decide +kernel
theorem dX11_flat_51 : decode cX11_flat 51 = .ok (.ireturn, 1) := by decide +kernel
theorem dX11_toldFlats_0 : decode cX11_toldFlats 0 = .ok (.iconst 0, 1) := by decide +kernel
theorem dX11_toldFlats_1 : decode cX11_toldFlats 1 = .ok (.istore_n 1, 1) := by decide +kernel
theorem dX11_toldFlats_2 : decode cX11_toldFlats 2 = .ok (.iconst 0, 1) := by decide +kernel
theorem dX11_toldFlats_3 : decode cX11_toldFlats 3 = .ok (.istore_n 2, 1) := by decide +kernel
theorem dX11_toldFlats_4 : decode cX11_toldFlats 4 = .ok (.iload_n 2, 1) := by decide +kernel
theorem dX11_toldFlats_5 : decode cX11_toldFlats 5 = .ok (.bipush 8, 2) := by decide +kernel
theorem dX11_toldFlats_7 : decode cX11_toldFlats 7 = .ok (.if_icmp .ge 28, 3) := by decide +kernel
theorem dX11_toldFlats_10 : decode cX11_toldFlats 10 = .ok (.iload_n 1, 1) := by decide +kernel
theorem dX11_toldFlats_11 : decode cX11_toldFlats 11 = .ok (.aload_n 0, 1) := by decide +kernel
theorem dX11_toldFlats_12 : decode cX11_toldFlats 12 = .ok (.getfield 108, 3) := by decide +kernel
theorem dX11_toldFlats_15 : decode cX11_toldFlats 15 = .ok (.iload_n 2, 1) := by decide +kernel
theorem dX11_toldFlats_16 : decode cX11_toldFlats 16 = .ok (.iaload, 1) := by decide +kernel
theorem dX11_toldFlats_17 : decode cX11_toldFlats 17 = .ok (.ifCond .le 9, 3) := by decide +kernel
theorem dX11_toldFlats_20 : decode cX11_toldFlats 20 = .ok (.iconst 1, 1) := by decide +kernel
theorem dX11_toldFlats_21 : decode cX11_toldFlats 21 = .ok (.iload_n 2, 1) := by decide +kernel
theorem dX11_toldFlats_22 : decode cX11_toldFlats 22 = .ok (.ishl, 1) := by decide +kernel
theorem dX11_toldFlats_23 : decode cX11_toldFlats 23 = .ok (.goto 4, 3) := by decide +kernel
theorem dX11_toldFlats_26 : decode cX11_toldFlats 26 = .ok (.iconst 0, 1) := by decide +kernel
theorem dX11_toldFlats_27 : decode cX11_toldFlats 27 = .ok (.ior, 1) := by decide +kernel
theorem dX11_toldFlats_28 : decode cX11_toldFlats 28 = .ok (.istore_n 1, 1) := by decide +kernel
theorem dX11_toldFlats_29 : decode cX11_toldFlats 29 = .ok (.iinc 2 1, 3) := by decide +kernel
theorem dX11_toldFlats_32 : decode cX11_toldFlats 32 = .ok (.goto (-28), 3) := by decide +kernel
theorem dX11_toldFlats_35 : decode cX11_toldFlats 35 = .ok (.iload_n 1, 1) := by decide +kernel
theorem dX11_toldFlats_36 : decode cX11_toldFlats 36 = .ok (.ireturn, 1) := by decide +kernel
theorem dX11_lostBy_0 : decode cX11_lostBy 0 = .ok (.aload_n 0, 1) := by decide +kernel
theorem dX11_lostBy_1 : decode cX11_lostBy 1 = .ok (.getfield 108, 3) := by decide +kernel
theorem dX11_lostBy_4 : decode cX11_lostBy 4 = .ok (.iload_n 1, 1) := by decide +kernel
theorem dX11_lostBy_5 : decode cX11_lostBy 5 = .ok (.iaload, 1) := by decide +kernel
theorem dX11_lostBy_6 : decode cX11_lostBy 6 = .ok (.iload_n 2, 1) := by decide +kernel
theorem dX11_lostBy_7 : decode cX11_lostBy 7 = .ok (.imul, 1) := by decide +kernel
theorem dX11_lostBy_8 : decode cX11_lostBy 8 = .ok (.iload_n 2, 1) := by decide +kernel
theorem dX11_lostBy_9 : decode cX11_lostBy 9 = .ok (.aload_n 0, 1) := by decide +kernel
theorem dX11_lostBy_10 : decode cX11_lostBy 10 = .ok (.getfield 111, 3) := by decide +kernel
theorem dX11_lostBy_13 : decode cX11_lostBy 13 = .ok (.iload_n 1, 1) := by decide +kernel
theorem dX11_lostBy_14 : decode cX11_lostBy 14 = .ok (.iaload, 1) := by decide +kernel
theorem dX11_lostBy_15 : decode cX11_lostBy 15 = .ok (.if_icmp .le 15, 3) := by decide +kernel
theorem dX11_lostBy_18 : decode cX11_lostBy 18 = .ok (.bipush 10, 2) := by decide +kernel
theorem dX11_lostBy_20 : decode cX11_lostBy 20 = .ok (.aload_n 0, 1) := by decide +kernel
theorem dX11_lostBy_21 : decode cX11_lostBy 21 = .ok (.getfield 108, 3) := by decide +kernel
theorem dX11_lostBy_24 : decode cX11_lostBy 24 = .ok (.iload_n 1, 1) := by decide +kernel
theorem dX11_lostBy_25 : decode cX11_lostBy 25 = .ok (.iaload, 1) := by decide +kernel
theorem dX11_lostBy_26 : decode cX11_lostBy 26 = .ok (.imul, 1) := by decide +kernel
theorem dX11_lostBy_27 : decode cX11_lostBy 27 = .ok (.goto 4, 3) := by decide +kernel
theorem dX11_lostBy_30 : decode cX11_lostBy 30 = .ok (.iconst 0, 1) := by decide +kernel
theorem dX11_lostBy_31 : decode cX11_lostBy 31 = .ok (.iadd, 1) := by decide +kernel
theorem dX11_lostBy_32 : decode cX11_lostBy 32 = .ok (.ireturn, 1) := by decide +kernel
theorem dX11_layRest_0 : decode cX11_layRest 0 = .ok (.sipush 255, 3) := by decide +kernel
theorem dX11_layRest_3 : decode cX11_layRest 3 = .ok (.istore_n 2, 1) := by decide +kernel
theorem dX11_layRest_4 : decode cX11_layRest 4 = .ok (.iload_n 2, 1) := by decide +kernel
theorem dX11_layRest_5 : decode cX11_layRest 5 = .ok (.ifCond .lt 108, 3) := by decide +kernel
theorem dX11_layRest_8 : decode cX11_layRest 8 = .ok (.iload_n 2, 1) := by decide +kernel
theorem dX11_layRest_9 : decode cX11_layRest 9 = .ok (.iload_n 1, 1) := by decide +kernel
theorem dX11_layRest_10 : decode cX11_layRest 10 = .ok (.iconst (-1), 1) := by decide +kernel
theorem dX11_layRest_11 : decode cX11_layRest 11 = .ok (.ixor, 1) := by decide +kernel
theorem dX11_layRest_12 : decode cX11_layRest 12 = .ok (.iand, 1) := by decide +kernel
theorem dX11_layRest_13 : decode cX11_layRest 13 = .ok (.ifCond .ne 94, 3) := by decide +kernel
theorem dX11_layRest_16 : decode cX11_layRest 16 = .ok (.iload_n 2, 1) := by decide +kernel
theorem dX11_layRest_17 : decode cX11_layRest 17 = .ok (.iload_n 1, 1) := by decide +kernel
theorem dX11_layRest_18 : decode cX11_layRest 18 = .ok (.if_icmp .ne 7, 3) := by decide +kernel
theorem dX11_layRest_21 : decode cX11_layRest 21 = .ok (.iconst 0, 1) := by decide +kernel
theorem dX11_layRest_22 : decode cX11_layRest 22 = .ok (.goto 4, 3) := by decide +kernel
theorem dX11_layRest_25 : decode cX11_layRest 25 = .ok (.iconst (-1), 1) := by decide +kernel
theorem dX11_layRest_26 : decode cX11_layRest 26 = .ok (.istore_n 3, 1) := by decide +kernel
theorem dX11_layRest_27 : decode cX11_layRest 27 = .ok (.iconst 0, 1) := by decide +kernel
theorem dX11_layRest_28 : decode cX11_layRest 28 = .ok (.istore 4, 2) := by decide +kernel
theorem dX11_layRest_30 : decode cX11_layRest 30 = .ok (.iload 4, 2) := by decide +kernel
theorem dX11_layRest_32 : decode cX11_layRest 32 = .ok (.bipush 8, 2) := by decide +kernel
theorem dX11_layRest_34 : decode cX11_layRest 34 = .ok (.if_icmp .ge 66, 3) := by decide +kernel
theorem dX11_layRest_37 : decode cX11_layRest 37 = .ok (.iload_n 1, 1) := by decide +kernel
theorem dX11_layRest_38 : decode cX11_layRest 38 = .ok (.iload_n 2, 1) := by decide +kernel
theorem dX11_layRest_39 : decode cX11_layRest 39 = .ok (.iconst (-1), 1) := by decide +kernel
theorem dX11_layRest_40 : decode cX11_layRest 40 = .ok (.ixor, 1) := by decide +kernel
theorem dX11_layRest_41 : decode cX11_layRest 41 = .ok (.iand, 1) := by decide +kernel
theorem dX11_layRest_42 : decode cX11_layRest 42 = .ok (.iload 4, 2) := by decide +kernel
theorem dX11_layRest_44 : decode cX11_layRest 44 = .ok (.invokestatic 127, 3) := by decide +kernel
theorem dX11_layRest_47 : decode cX11_layRest 47 = .ok (.ifCond .eq 47, 3) := by decide +kernel
theorem dX11_layRest_50 : decode cX11_layRest 50 = .ok (.aload_n 0, 1) := by decide +kernel
theorem dX11_layRest_51 : decode cX11_layRest 51 = .ok (.iload 4, 2) := by decide +kernel
theorem dX11_layRest_53 : decode cX11_layRest 53 = .ok (.iload_n 2, 1) := by decide +kernel
theorem dX11_layRest_54 : decode cX11_layRest 54 = .ok (.invokestatic 276, 3) := by decide +kernel
theorem dX11_layRest_57 : decode cX11_layRest 57 = .ok (.iconst 1, 1) := by decide +kernel
theorem dX11_layRest_58 : decode cX11_layRest 58 = .ok (.iadd, 1) := by decide +kernel
theorem dX11_layRest_59 : decode cX11_layRest 59 = .ok (.invokevirtual 279, 3) := by decide +kernel
theorem dX11_layRest_62 : decode cX11_layRest 62 = .ok (.aload_n 0, 1) := by decide +kernel
theorem dX11_layRest_63 : decode cX11_layRest 63 = .ok (.getfield 114, 3) := by decide +kernel
theorem dX11_layRest_66 : decode cX11_layRest 66 = .ok (.iload_n 2, 1) := by decide +kernel
theorem dX11_layRest_67 : decode cX11_layRest 67 = .ok (.iconst 1, 1) := by decide +kernel
theorem dX11_layRest_68 : decode cX11_layRest 68 = .ok (.iload 4, 2) := by decide +kernel
theorem dX11_layRest_70 : decode cX11_layRest 70 = .ok (.ishl, 1) := by decide +kernel
theorem dX11_layRest_71 : decode cX11_layRest 71 = .ok (.ior, 1) := by decide +kernel
theorem dX11_layRest_72 : decode cX11_layRest 72 = .ok (.iaload, 1) := by decide +kernel
theorem dX11_layRest_73 : decode cX11_layRest 73 = .ok (.iadd, 1) := by decide +kernel
theorem dX11_layRest_74 : decode cX11_layRest 74 = .ok (.istore 5, 2) := by decide +kernel
theorem dX11_layRest_76 : decode cX11_layRest 76 = .ok (.iload_n 3, 1) := by decide +kernel
theorem dX11_layRest_77 : decode cX11_layRest 77 = .ok (.iconst (-1), 1) := by decide +kernel
theorem dX11_layRest_78 : decode cX11_layRest 78 = .ok (.if_icmp .eq 9, 3) := by decide +kernel
theorem dX11_layRest_81 : decode cX11_layRest 81 = .ok (.iload 5, 2) := by decide +kernel
theorem dX11_layRest_83 : decode cX11_layRest 83 = .ok (.iload_n 3, 1) := by decide +kernel
theorem dX11_layRest_84 : decode cX11_layRest 84 = .ok (.if_icmp .ge 8, 3) := by decide +kernel
theorem dX11_layRest_87 : decode cX11_layRest 87 = .ok (.iload 5, 2) := by decide +kernel
theorem dX11_layRest_89 : decode cX11_layRest 89 = .ok (.goto 4, 3) := by decide +kernel
theorem dX11_layRest_92 : decode cX11_layRest 92 = .ok (.iload_n 3, 1) := by decide +kernel
theorem dX11_layRest_93 : decode cX11_layRest 93 = .ok (.istore_n 3, 1) := by decide +kernel
theorem dX11_layRest_94 : decode cX11_layRest 94 = .ok (.iinc 4 1, 3) := by decide +kernel
theorem dX11_layRest_97 : decode cX11_layRest 97 = .ok (.goto (-67), 3) := by decide +kernel
theorem dX11_layRest_100 : decode cX11_layRest 100 = .ok (.aload_n 0, 1) := by decide +kernel
theorem dX11_layRest_101 : decode cX11_layRest 101 = .ok (.getfield 114, 3) := by decide +kernel
theorem dX11_layRest_104 : decode cX11_layRest 104 = .ok (.iload_n 2, 1) := by decide +kernel
theorem dX11_layRest_105 : decode cX11_layRest 105 = .ok (.iload_n 3, 1) := by decide +kernel
theorem dX11_layRest_106 : decode cX11_layRest 106 = .ok (.iastore, 1) := by decide +kernel
theorem dX11_layRest_107 : decode cX11_layRest 107 = .ok (.iinc 2 (-1), 3) := by decide +kernel
theorem dX11_layRest_110 : decode cX11_layRest 110 = .ok (.goto (-106), 3) := by decide +kernel
theorem dX11_layRest_113 : decode cX11_layRest 113 = .ok (.return_, 1) := by decide +kernel
theorem dX11_ring_0 : decode cX11_ring 0 = .ok (.iload_n 1, 1) := by decide +kernel
theorem dX11_ring_1 : decode cX11_ring 1 = .ok (.iconst (-1), 1) := by decide +kernel
theorem dX11_ring_2 : decode cX11_ring 2 = .ok (.if_icmp .ge 6, 3) := by decide +kernel
theorem dX11_ring_5 : decode cX11_ring 5 = .ok (.bipush (-3), 2) := by decide +kernel
theorem dX11_ring_7 : decode cX11_ring 7 = .ok (.ireturn, 1) := by decide +kernel
theorem dX11_ring_8 : decode cX11_ring 8 = .ok (.aload_n 0, 1) := by decide +kernel
theorem dX11_ring_9 : decode cX11_ring 9 = .ok (.invokevirtual 282, 3) := by decide +kernel
theorem dX11_ring_12 : decode cX11_ring 12 = .ok (.istore_n 2, 1) := by decide +kernel
theorem dX11_ring_13 : decode cX11_ring 13 = .ok (.aload_n 0, 1) := by decide +kernel
theorem dX11_ring_14 : decode cX11_ring 14 = .ok (.iload_n 2, 1) := by decide +kernel
theorem dX11_ring_15 : decode cX11_ring 15 = .ok (.invokevirtual 285, 3) := by decide +kernel
theorem dX11_ring_18 : decode cX11_ring 18 = .ok (.iload_n 1, 1) := by decide +kernel
theorem dX11_ring_19 : decode cX11_ring 19 = .ok (.iconst (-1), 1) := by decide +kernel
theorem dX11_ring_20 : decode cX11_ring 20 = .ok (.if_icmp .ne 10, 3) := by decide +kernel
theorem dX11_ring_23 : decode cX11_ring 23 = .ok (.aload_n 0, 1) := by decide +kernel
theorem dX11_ring_24 : decode cX11_ring 24 = .ok (.getfield 114, 3) := by decide +kernel
theorem dX11_ring_27 : decode cX11_ring 27 = .ok (.iconst 0, 1) := by decide +kernel
theorem dX11_ring_28 : decode cX11_ring 28 = .ok (.iaload, 1) := by decide +kernel
theorem dX11_ring_29 : decode cX11_ring 29 = .ok (.ireturn, 1) := by decide +kernel
theorem dX11_ring_30 : decode cX11_ring 30 = .ok (.iconst 0, 1) := by decide +kernel
theorem dX11_ring_31 : decode cX11_ring 31 = .ok (.istore_n 3, 1) := by decide +kernel
theorem dX11_ring_32 : decode cX11_ring 32 = .ok (.iconst (-1), 1) := by decide +kernel
theorem dX11_ring_33 : decode cX11_ring 33 = .ok (.istore 4, 2) := by decide +kernel
theorem dX11_ring_35 : decode cX11_ring 35 = .ok (.iconst 0, 1) := by decide +kernel
theorem dX11_ring_36 : decode cX11_ring 36 = .ok (.istore 5, 2) := by decide +kernel
theorem dX11_ring_38 : decode cX11_ring 38 = .ok (.iload 5, 2) := by decide +kernel
theorem dX11_ring_40 : decode cX11_ring 40 = .ok (.iload_n 1, 1) := by decide +kernel
theorem dX11_ring_41 : decode cX11_ring 41 = .ok (.if_icmp .gt 104, 3) := by decide +kernel
theorem dX11_ring_44 : decode cX11_ring 44 = .ok (.iload 5, 2) := by decide +kernel
theorem dX11_ring_46 : decode cX11_ring 46 = .ok (.bipush 8, 2) := by decide +kernel
theorem dX11_ring_48 : decode cX11_ring 48 = .ok (.if_icmp .gt 97, 3) := by decide +kernel
theorem dX11_ring_51 : decode cX11_ring 51 = .ok (.iconst (-1), 1) := by decide +kernel
theorem dX11_ring_52 : decode cX11_ring 52 = .ok (.istore 4, 2) := by decide +kernel
theorem dX11_ring_54 : decode cX11_ring 54 = .ok (.bipush 7, 2) := by decide +kernel
theorem dX11_ring_56 : decode cX11_ring 56 = .ok (.istore 6, 2) := by decide +kernel
theorem dX11_ring_58 : decode cX11_ring 58 = .ok (.iload 6, 2) := by decide +kernel
theorem dX11_ring_60 : decode cX11_ring 60 = .ok (.ifCond .lt 62, 3) := by decide +kernel
theorem dX11_ring_63 : decode cX11_ring 63 = .ok (.iload_n 2, 1) := by decide +kernel
theorem dX11_ring_64 : decode cX11_ring 64 = .ok (.iload_n 3, 1) := by decide +kernel
theorem dX11_ring_65 : decode cX11_ring 65 = .ok (.iconst (-1), 1) := by decide +kernel
theorem dX11_ring_66 : decode cX11_ring 66 = .ok (.ixor, 1) := by decide +kernel
theorem dX11_ring_67 : decode cX11_ring 67 = .ok (.iand, 1) := by decide +kernel
theorem dX11_ring_68 : decode cX11_ring 68 = .ok (.iload 6, 2) := by decide +kernel
theorem dX11_ring_70 : decode cX11_ring 70 = .ok (.invokestatic 127, 3) := by decide +kernel
theorem dX11_ring_73 : decode cX11_ring 73 = .ok (.ifCond .eq 39, 3) := by decide +kernel
theorem dX11_ring_76 : decode cX11_ring 76 = .ok (.aload_n 0, 1) := by decide +kernel
theorem dX11_ring_77 : decode cX11_ring 77 = .ok (.iload 6, 2) := by decide +kernel
theorem dX11_ring_79 : decode cX11_ring 79 = .ok (.iload 5, 2) := by decide +kernel
theorem dX11_ring_81 : decode cX11_ring 81 = .ok (.iconst 1, 1) := by decide +kernel
theorem dX11_ring_82 : decode cX11_ring 82 = .ok (.iadd, 1) := by decide +kernel
theorem dX11_ring_83 : decode cX11_ring 83 = .ok (.invokevirtual 279, 3) := by decide +kernel
theorem dX11_ring_86 : decode cX11_ring 86 = .ok (.aload_n 0, 1) := by decide +kernel
theorem dX11_ring_87 : decode cX11_ring 87 = .ok (.getfield 114, 3) := by decide +kernel
theorem dX11_ring_90 : decode cX11_ring 90 = .ok (.iload_n 3, 1) := by decide +kernel
theorem dX11_ring_91 : decode cX11_ring 91 = .ok (.iconst 1, 1) := by decide +kernel
theorem dX11_ring_92 : decode cX11_ring 92 = .ok (.iload 6, 2) := by decide +kernel
theorem dX11_ring_94 : decode cX11_ring 94 = .ok (.ishl, 1) := by decide +kernel
theorem dX11_ring_95 : decode cX11_ring 95 = .ok (.ior, 1) := by decide +kernel
theorem dX11_ring_96 : decode cX11_ring 96 = .ok (.iaload, 1) := by decide +kernel
theorem dX11_ring_97 : decode cX11_ring 97 = .ok (.iadd, 1) := by decide +kernel
theorem dX11_ring_98 : decode cX11_ring 98 = .ok (.aload_n 0, 1) := by decide +kernel
theorem dX11_ring_99 : decode cX11_ring 99 = .ok (.getfield 114, 3) := by decide +kernel
theorem dX11_ring_102 : decode cX11_ring 102 = .ok (.iload_n 3, 1) := by decide +kernel
theorem dX11_ring_103 : decode cX11_ring 103 = .ok (.iaload, 1) := by decide +kernel
theorem dX11_ring_104 : decode cX11_ring 104 = .ok (.if_icmp .ne 8, 3) := by decide +kernel
theorem dX11_ring_107 : decode cX11_ring 107 = .ok (.iload 6, 2) := by decide +kernel
theorem dX11_ring_109 : decode cX11_ring 109 = .ok (.goto 5, 3) := by decide +kernel
theorem dX11_ring_112 : decode cX11_ring 112 = .ok (.iload 4, 2) := by decide +kernel
theorem dX11_ring_114 : decode cX11_ring 114 = .ok (.istore 4, 2) := by decide +kernel
theorem dX11_ring_116 : decode cX11_ring 116 = .ok (.iinc 6 (-1), 3) := by decide +kernel
theorem dX11_ring_119 : decode cX11_ring 119 = .ok (.goto (-61), 3) := by decide +kernel
theorem dX11_ring_122 : decode cX11_ring 122 = .ok (.iload 4, 2) := by decide +kernel
theorem dX11_ring_124 : decode cX11_ring 124 = .ok (.iconst (-1), 1) := by decide +kernel
theorem dX11_ring_125 : decode cX11_ring 125 = .ok (.if_icmp .ne 7, 3) := by decide +kernel
theorem dX11_ring_128 : decode cX11_ring 128 = .ok (.iload_n 3, 1) := by decide +kernel
theorem dX11_ring_129 : decode cX11_ring 129 = .ok (.goto 9, 3) := by decide +kernel
theorem dX11_ring_132 : decode cX11_ring 132 = .ok (.iload_n 3, 1) := by decide +kernel
theorem dX11_ring_133 : decode cX11_ring 133 = .ok (.iconst 1, 1) := by decide +kernel
theorem dX11_ring_134 : decode cX11_ring 134 = .ok (.iload 4, 2) := by decide +kernel
theorem dX11_ring_136 : decode cX11_ring 136 = .ok (.ishl, 1) := by decide +kernel
theorem dX11_ring_137 : decode cX11_ring 137 = .ok (.ior, 1) := by decide +kernel
theorem dX11_ring_138 : decode cX11_ring 138 = .ok (.istore_n 3, 1) := by decide +kernel
theorem dX11_ring_139 : decode cX11_ring 139 = .ok (.iinc 5 1, 3) := by decide +kernel
theorem dX11_ring_142 : decode cX11_ring 142 = .ok (.goto (-104), 3) := by decide +kernel
theorem dX11_ring_145 : decode cX11_ring 145 = .ok (.iload 4, 2) := by decide +kernel
theorem dX11_ring_147 : decode cX11_ring 147 = .ok (.ireturn, 1) := by decide +kernel
theorem dX11_hasBy_0 : decode cX11_hasBy 0 = .ok (.iload_n 0, 1) := by decide +kernel
theorem dX11_hasBy_1 : decode cX11_hasBy 1 = .ok (.iload_n 1, 1) := by decide +kernel
theorem dX11_hasBy_2 : decode cX11_hasBy 2 = .ok (.invokestatic 127, 3) := by decide +kernel
theorem dX11_hasBy_5 : decode cX11_hasBy 5 = .ok (.ifCond .eq 10, 3) := by decide +kernel
theorem dX11_hasBy_8 : decode cX11_hasBy 8 = .ok (.iload_n 3, 1) := by decide +kernel
theorem dX11_hasBy_9 : decode cX11_hasBy 9 = .ok (.iload 5, 2) := by decide +kernel
theorem dX11_hasBy_11 : decode cX11_hasBy 11 = .ok (.isub, 1) := by decide +kernel
theorem dX11_hasBy_12 : decode cX11_hasBy 12 = .ok (.goto 4, 3) := by decide +kernel
theorem dX11_hasBy_15 : decode cX11_hasBy 15 = .ok (.iconst 0, 1) := by decide +kernel
theorem dX11_hasBy_16 : decode cX11_hasBy 16 = .ok (.istore 6, 2) := by decide +kernel
theorem dX11_hasBy_18 : decode cX11_hasBy 18 = .ok (.iload_n 0, 1) := by decide +kernel
theorem dX11_hasBy_19 : decode cX11_hasBy 19 = .ok (.iload_n 1, 1) := by decide +kernel
theorem dX11_hasBy_20 : decode cX11_hasBy 20 = .ok (.invokestatic 127, 3) := by decide +kernel
theorem dX11_hasBy_23 : decode cX11_hasBy 23 = .ok (.ifCond .eq 8, 3) := by decide +kernel
theorem dX11_hasBy_26 : decode cX11_hasBy 26 = .ok (.iload 4, 2) := by decide +kernel
theorem dX11_hasBy_28 : decode cX11_hasBy 28 = .ok (.goto 7, 3) := by decide +kernel
theorem dX11_hasBy_31 : decode cX11_hasBy 31 = .ok (.iconst 2, 1) := by decide +kernel
theorem dX11_hasBy_32 : decode cX11_hasBy 32 = .ok (.iload 4, 2) := by decide +kernel
theorem dX11_hasBy_34 : decode cX11_hasBy 34 = .ok (.imul, 1) := by decide +kernel
theorem dX11_hasBy_35 : decode cX11_hasBy 35 = .ok (.istore 7, 2) := by decide +kernel
theorem dX11_hasBy_37 : decode cX11_hasBy 37 = .ok (.iload 6, 2) := by decide +kernel
theorem dX11_hasBy_39 : decode cX11_hasBy 39 = .ok (.iload_n 1, 1) := by decide +kernel
theorem dX11_hasBy_40 : decode cX11_hasBy 40 = .ok (.ifCond .le 18, 3) := by decide +kernel
theorem dX11_hasBy_43 : decode cX11_hasBy 43 = .ok (.iload_n 0, 1) := by decide +kernel
theorem dX11_hasBy_44 : decode cX11_hasBy 44 = .ok (.iload_n 1, 1) := by decide +kernel
theorem dX11_hasBy_45 : decode cX11_hasBy 45 = .ok (.iconst 1, 1) := by decide +kernel
theorem dX11_hasBy_46 : decode cX11_hasBy 46 = .ok (.isub, 1) := by decide +kernel
theorem dX11_hasBy_47 : decode cX11_hasBy 47 = .ok (.invokestatic 127, 3) := by decide +kernel
theorem dX11_hasBy_50 : decode cX11_hasBy 50 = .ok (.ifCond .eq 8, 3) := by decide +kernel
theorem dX11_hasBy_53 : decode cX11_hasBy 53 = .ok (.iload 7, 2) := by decide +kernel
theorem dX11_hasBy_55 : decode cX11_hasBy 55 = .ok (.goto 4, 3) := by decide +kernel
theorem dX11_hasBy_58 : decode cX11_hasBy 58 = .ok (.iconst 0, 1) := by decide +kernel
theorem dX11_hasBy_59 : decode cX11_hasBy 59 = .ok (.isub, 1) := by decide +kernel
theorem dX11_hasBy_60 : decode cX11_hasBy 60 = .ok (.istore 6, 2) := by decide +kernel
theorem dX11_hasBy_62 : decode cX11_hasBy 62 = .ok (.iload_n 1, 1) := by decide +kernel
theorem dX11_hasBy_63 : decode cX11_hasBy 63 = .ok (.iload_n 2, 1) := by decide +kernel
theorem dX11_hasBy_64 : decode cX11_hasBy 64 = .ok (.iconst 1, 1) := by decide +kernel
theorem dX11_hasBy_65 : decode cX11_hasBy 65 = .ok (.isub, 1) := by decide +kernel
theorem dX11_hasBy_66 : decode cX11_hasBy 66 = .ok (.if_icmp .ge 21, 3) := by decide +kernel
theorem dX11_hasBy_69 : decode cX11_hasBy 69 = .ok (.iload_n 0, 1) := by decide +kernel
theorem dX11_hasBy_70 : decode cX11_hasBy 70 = .ok (.iload_n 1, 1) := by decide +kernel
theorem dX11_hasBy_71 : decode cX11_hasBy 71 = .ok (.iconst 1, 1) := by decide +kernel
theorem dX11_hasBy_72 : decode cX11_hasBy 72 = .ok (.iadd, 1) := by decide +kernel
theorem dX11_hasBy_73 : decode cX11_hasBy 73 = .ok (.invokestatic 127, 3) := by decide +kernel
theorem dX11_hasBy_76 : decode cX11_hasBy 76 = .ok (.ifCond .eq 11, 3) := by decide +kernel
theorem dX11_hasBy_79 : decode cX11_hasBy 79 = .ok (.iload 6, 2) := by decide +kernel
theorem dX11_hasBy_81 : decode cX11_hasBy 81 = .ok (.iload 7, 2) := by decide +kernel
theorem dX11_hasBy_83 : decode cX11_hasBy 83 = .ok (.isub, 1) := by decide +kernel
theorem dX11_hasBy_84 : decode cX11_hasBy 84 = .ok (.goto 5, 3) := by decide +kernel
theorem dX11_hasBy_87 : decode cX11_hasBy 87 = .ok (.iload 6, 2) := by decide +kernel
theorem dX11_hasBy_89 : decode cX11_hasBy 89 = .ok (.ireturn, 1) := by decide +kernel
theorem dX11_street_0 : decode cX11_street 0 = .ok (.iload_n 1, 1) := by decide +kernel
theorem dX11_street_1 : decode cX11_street 1 = .ok (.iconst 1, 1) := by decide +kernel
theorem dX11_street_2 : decode cX11_street 2 = .ok (.bipush 8, 2) := by decide +kernel
theorem dX11_street_4 : decode cX11_street 4 = .ok (.invokestatic 120, 3) := by decide +kernel
theorem dX11_street_7 : decode cX11_street 7 = .ok (.ifCond .eq 44, 3) := by decide +kernel
theorem dX11_street_10 : decode cX11_street 10 = .ok (.iload_n 2, 1) := by decide +kernel
theorem dX11_street_11 : decode cX11_street 11 = .ok (.iconst 0, 1) := by decide +kernel
theorem dX11_street_12 : decode cX11_street 12 = .ok (.bipush 99, 2) := by decide +kernel
theorem dX11_street_14 : decode cX11_street 14 = .ok (.invokestatic 120, 3) := by decide +kernel
theorem dX11_street_17 : decode cX11_street 17 = .ok (.ifCond .eq 34, 3) := by decide +kernel
theorem dX11_street_20 : decode cX11_street 20 = .ok (.iload_n 3, 1) := by decide +kernel
theorem dX11_street_21 : decode cX11_street 21 = .ok (.iconst 0, 1) := by decide +kernel
theorem dX11_street_22 : decode cX11_street 22 = .ok (.bipush 99, 2) := by decide +kernel
theorem dX11_street_24 : decode cX11_street 24 = .ok (.invokestatic 120, 3) := by decide +kernel
theorem dX11_street_27 : decode cX11_street 27 = .ok (.ifCond .eq 24, 3) := by decide +kernel
theorem dX11_street_30 : decode cX11_street 30 = .ok (.iload 4, 2) := by decide +kernel
theorem dX11_street_32 : decode cX11_street 32 = .ok (.iconst 0, 1) := by decide +kernel
theorem dX11_street_33 : decode cX11_street 33 = .ok (.bipush 99, 2) := by decide +kernel
theorem dX11_street_35 : decode cX11_street 35 = .ok (.invokestatic 120, 3) := by decide +kernel
theorem dX11_street_38 : decode cX11_street 38 = .ok (.ifCond .eq 13, 3) := by decide +kernel
theorem dX11_street_41 : decode cX11_street 41 = .ok (.iload 5, 2) := by decide +kernel
theorem dX11_street_43 : decode cX11_street 43 = .ok (.iconst 0, 1) := by decide +kernel
theorem dX11_street_44 : decode cX11_street 44 = .ok (.iconst 3, 1) := by decide +kernel
theorem dX11_street_45 : decode cX11_street 45 = .ok (.invokestatic 120, 3) := by decide +kernel
theorem dX11_street_48 : decode cX11_street 48 = .ok (.ifCond .ne 6, 3) := by decide +kernel
theorem dX11_street_51 : decode cX11_street 51 = .ok (.bipush (-3), 2) := by decide +kernel
theorem dX11_street_53 : decode cX11_street 53 = .ok (.ireturn, 1) := by decide +kernel
theorem dX11_street_54 : decode cX11_street 54 = .ok (.iconst 0, 1) := by decide +kernel
theorem dX11_street_55 : decode cX11_street 55 = .ok (.istore 6, 2) := by decide +kernel
theorem dX11_street_57 : decode cX11_street 57 = .ok (.iconst (-1), 1) := by decide +kernel
theorem dX11_street_58 : decode cX11_street 58 = .ok (.istore 7, 2) := by decide +kernel
theorem dX11_street_60 : decode cX11_street 60 = .ok (.iconst 0, 1) := by decide +kernel
theorem dX11_street_61 : decode cX11_street 61 = .ok (.istore 8, 2) := by decide +kernel
theorem dX11_street_63 : decode cX11_street 63 = .ok (.iconst 0, 1) := by decide +kernel
theorem dX11_street_64 : decode cX11_street 64 = .ok (.istore 9, 2) := by decide +kernel
theorem dX11_street_66 : decode cX11_street 66 = .ok (.iconst 0, 1) := by decide +kernel
theorem dX11_street_67 : decode cX11_street 67 = .ok (.istore 10, 2) := by decide +kernel
theorem dX11_street_69 : decode cX11_street 69 = .ok (.iload 10, 2) := by decide +kernel
theorem dX11_street_71 : decode cX11_street 71 = .ok (.iconst 1, 1) := by decide +kernel
theorem dX11_street_72 : decode cX11_street 72 = .ok (.iload_n 1, 1) := by decide +kernel
theorem dX11_street_73 : decode cX11_street 73 = .ok (.ishl, 1) := by decide +kernel
theorem dX11_street_74 : decode cX11_street 74 = .ok (.if_icmp .ge 159, 3) := by decide +kernel
theorem dX11_street_77 : decode cX11_street 77 = .ok (.iconst 1, 1) := by decide +kernel
theorem dX11_street_78 : decode cX11_street 78 = .ok (.istore 11, 2) := by decide +kernel
theorem dX11_street_80 : decode cX11_street 80 = .ok (.iconst 0, 1) := by decide +kernel
theorem dX11_street_81 : decode cX11_street 81 = .ok (.istore 12, 2) := by decide +kernel
theorem dX11_street_83 : decode cX11_street 83 = .ok (.iconst 0, 1) := by decide +kernel
theorem dX11_street_84 : decode cX11_street 84 = .ok (.istore 13, 2) := by decide +kernel
theorem dX11_street_86 : decode cX11_street 86 = .ok (.iload 13, 2) := by decide +kernel
theorem dX11_street_88 : decode cX11_street 88 = .ok (.iload_n 1, 1) := by decide +kernel
theorem dX11_street_89 : decode cX11_street 89 = .ok (.if_icmp .ge 88, 3) := by decide +kernel
theorem dX11_street_92 : decode cX11_street 92 = .ok (.iload 10, 2) := by decide +kernel
theorem dX11_street_94 : decode cX11_street 94 = .ok (.iload 13, 2) := by decide +kernel
theorem dX11_street_96 : decode cX11_street 96 = .ok (.iload_n 1, 1) := by decide +kernel
theorem dX11_street_97 : decode cX11_street 97 = .ok (.iload_n 2, 1) := by decide +kernel
theorem dX11_street_98 : decode cX11_street 98 = .ok (.iload_n 3, 1) := by decide +kernel
theorem dX11_street_99 : decode cX11_street 99 = .ok (.iload 4, 2) := by decide +kernel
theorem dX11_street_101 : decode cX11_street 101 = .ok (.invokestatic 288, 3) := by decide +kernel
theorem dX11_street_104 : decode cX11_street 104 = .ok (.istore 14, 2) := by decide +kernel
theorem dX11_street_106 : decode cX11_street 106 = .ok (.iload 10, 2) := by decide +kernel
theorem dX11_street_108 : decode cX11_street 108 = .ok (.iconst 1, 1) := by decide +kernel
theorem dX11_street_109 : decode cX11_street 109 = .ok (.iload 13, 2) := by decide +kernel
theorem dX11_street_111 : decode cX11_street 111 = .ok (.ishl, 1) := by decide +kernel
theorem dX11_street_112 : decode cX11_street 112 = .ok (.ixor, 1) := by decide +kernel
theorem dX11_street_113 : decode cX11_street 113 = .ok (.iload 13, 2) := by decide +kernel
theorem dX11_street_115 : decode cX11_street 115 = .ok (.iload_n 1, 1) := by decide +kernel
theorem dX11_street_116 : decode cX11_street 116 = .ok (.iload_n 2, 1) := by decide +kernel
theorem dX11_street_117 : decode cX11_street 117 = .ok (.iload_n 3, 1) := by decide +kernel
theorem dX11_street_118 : decode cX11_street 118 = .ok (.iload 4, 2) := by decide +kernel
theorem dX11_street_120 : decode cX11_street 120 = .ok (.invokestatic 288, 3) := by decide +kernel
theorem dX11_street_123 : decode cX11_street 123 = .ok (.istore 15, 2) := by decide +kernel
theorem dX11_street_125 : decode cX11_street 125 = .ok (.iload 11, 2) := by decide +kernel
theorem dX11_street_127 : decode cX11_street 127 = .ok (.ifCond .eq 34, 3) := by decide +kernel
theorem dX11_street_130 : decode cX11_street 130 = .ok (.iload 10, 2) := by decide +kernel
theorem dX11_street_132 : decode cX11_street 132 = .ok (.iload 13, 2) := by decide +kernel
theorem dX11_street_134 : decode cX11_street 134 = .ok (.invokestatic 127, 3) := by decide +kernel
theorem dX11_street_137 : decode cX11_street 137 = .ok (.ifCond .eq 13, 3) := by decide +kernel
theorem dX11_street_140 : decode cX11_street 140 = .ok (.iload 14, 2) := by decide +kernel
theorem dX11_street_142 : decode cX11_street 142 = .ok (.iload 15, 2) := by decide +kernel
theorem dX11_street_144 : decode cX11_street 144 = .ok (.if_icmp .le 17, 3) := by decide +kernel
theorem dX11_street_147 : decode cX11_street 147 = .ok (.goto 10, 3) := by decide +kernel
theorem dX11_street_150 : decode cX11_street 150 = .ok (.iload 14, 2) := by decide +kernel
theorem dX11_street_152 : decode cX11_street 152 = .ok (.iload 15, 2) := by decide +kernel
theorem dX11_street_154 : decode cX11_street 154 = .ok (.if_icmp .lt 7, 3) := by decide +kernel
theorem dX11_street_157 : decode cX11_street 157 = .ok (.iconst 1, 1) := by decide +kernel
theorem dX11_street_158 : decode cX11_street 158 = .ok (.goto 4, 3) := by decide +kernel
theorem dX11_street_161 : decode cX11_street 161 = .ok (.iconst 0, 1) := by decide +kernel
theorem dX11_street_162 : decode cX11_street 162 = .ok (.istore 11, 2) := by decide +kernel
theorem dX11_street_164 : decode cX11_street 164 = .ok (.iload 12, 2) := by decide +kernel
theorem dX11_street_166 : decode cX11_street 166 = .ok (.iload 14, 2) := by decide +kernel
theorem dX11_street_168 : decode cX11_street 168 = .ok (.iadd, 1) := by decide +kernel
theorem dX11_street_169 : decode cX11_street 169 = .ok (.istore 12, 2) := by decide +kernel
theorem dX11_street_171 : decode cX11_street 171 = .ok (.iinc 13 1, 3) := by decide +kernel
theorem dX11_street_174 : decode cX11_street 174 = .ok (.goto (-88), 3) := by decide +kernel
theorem dX11_street_177 : decode cX11_street 177 = .ok (.iload 10, 2) := by decide +kernel
theorem dX11_street_179 : decode cX11_street 179 = .ok (.ifCond .eq 10, 3) := by decide +kernel
theorem dX11_street_182 : decode cX11_street 182 = .ok (.iload 12, 2) := by decide +kernel
theorem dX11_street_184 : decode cX11_street 184 = .ok (.iload 9, 2) := by decide +kernel
theorem dX11_street_186 : decode cX11_street 186 = .ok (.if_icmp .le 8, 3) := by decide +kernel
theorem dX11_street_189 : decode cX11_street 189 = .ok (.iload 12, 2) := by decide +kernel
theorem dX11_street_191 : decode cX11_street 191 = .ok (.goto 5, 3) := by decide +kernel
theorem dX11_street_194 : decode cX11_street 194 = .ok (.iload 9, 2) := by decide +kernel
theorem dX11_street_196 : decode cX11_street 196 = .ok (.istore 9, 2) := by decide +kernel
theorem dX11_street_198 : decode cX11_street 198 = .ok (.iload 11, 2) := by decide +kernel
theorem dX11_street_200 : decode cX11_street 200 = .ok (.ifCond .eq 27, 3) := by decide +kernel
theorem dX11_street_203 : decode cX11_street 203 = .ok (.iinc 6 1, 3) := by decide +kernel
theorem dX11_street_206 : decode cX11_street 206 = .ok (.iload 7, 2) := by decide +kernel
theorem dX11_street_208 : decode cX11_street 208 = .ok (.iconst (-1), 1) := by decide +kernel
theorem dX11_street_209 : decode cX11_street 209 = .ok (.if_icmp .eq 10, 3) := by decide +kernel
theorem dX11_street_212 : decode cX11_street 212 = .ok (.iload 12, 2) := by decide +kernel
theorem dX11_street_214 : decode cX11_street 214 = .ok (.iload 8, 2) := by decide +kernel
theorem dX11_street_216 : decode cX11_street 216 = .ok (.if_icmp .le 11, 3) := by decide +kernel
theorem dX11_street_219 : decode cX11_street 219 = .ok (.iload 10, 2) := by decide +kernel
theorem dX11_street_221 : decode cX11_street 221 = .ok (.istore 7, 2) := by decide +kernel
theorem dX11_street_223 : decode cX11_street 223 = .ok (.iload 12, 2) := by decide +kernel
theorem dX11_street_225 : decode cX11_street 225 = .ok (.istore 8, 2) := by decide +kernel
theorem dX11_street_227 : decode cX11_street 227 = .ok (.iinc 10 1, 3) := by decide +kernel
theorem dX11_street_230 : decode cX11_street 230 = .ok (.goto (-161), 3) := by decide +kernel
theorem dX11_street_233 : decode cX11_street 233 = .ok (.iload 5, 2) := by decide +kernel
theorem dX11_street_235 : decode cX11_street 235 = .ok (.ifCond .ne 8, 3) := by decide +kernel
theorem dX11_street_238 : decode cX11_street 238 = .ok (.iload 6, 2) := by decide +kernel
theorem dX11_street_240 : decode cX11_street 240 = .ok (.goto 41, 3) := by decide +kernel
theorem dX11_street_243 : decode cX11_street 243 = .ok (.iload 5, 2) := by decide +kernel
theorem dX11_street_245 : decode cX11_street 245 = .ok (.iconst 3, 1) := by decide +kernel
theorem dX11_street_246 : decode cX11_street 246 = .ok (.if_icmp .ne 12, 3) := by decide +kernel
theorem dX11_street_249 : decode cX11_street 249 = .ok (.iload 9, 2) := by decide +kernel
theorem dX11_street_251 : decode cX11_street 251 = .ok (.ldc_w 292, 3) := by decide +kernel
theorem dX11_street_254 : decode cX11_street 254 = .ok (.iadd, 1) := by decide +kernel
theorem dX11_street_255 : decode cX11_street 255 = .ok (.goto 26, 3) := by decide +kernel
theorem dX11_street_258 : decode cX11_street 258 = .ok (.iload 7, 2) := by decide +kernel
theorem dX11_street_260 : decode cX11_street 260 = .ok (.iconst (-1), 1) := by decide +kernel
theorem dX11_street_261 : decode cX11_street 261 = .ok (.if_icmp .eq 9, 3) := by decide +kernel
theorem dX11_street_264 : decode cX11_street 264 = .ok (.iload 5, 2) := by decide +kernel
theorem dX11_street_266 : decode cX11_street 266 = .ok (.iconst 1, 1) := by decide +kernel
theorem dX11_street_267 : decode cX11_street 267 = .ok (.if_icmp .ne 8, 3) := by decide +kernel
theorem dX11_street_270 : decode cX11_street 270 = .ok (.iload 7, 2) := by decide +kernel
theorem dX11_street_272 : decode cX11_street 272 = .ok (.goto 9, 3) := by decide +kernel
theorem dX11_street_275 : decode cX11_street 275 = .ok (.iload 8, 2) := by decide +kernel
theorem dX11_street_277 : decode cX11_street 277 = .ok (.ldc_w 292, 3) := by decide +kernel
theorem dX11_street_280 : decode cX11_street 280 = .ok (.iadd, 1) := by decide +kernel
theorem dX11_street_281 : decode cX11_street 281 = .ok (.ireturn, 1) := by decide +kernel
theorem dX11_count_0 : decode cX11_count 0 = .ok (.iload_n 1, 1) := by decide +kernel
theorem dX11_count_1 : decode cX11_count 1 = .ok (.tableswitch 75 0 5 #[39, 47, 52, 57, 62, 70], 39) := by decide +kernel
theorem dX11_count_40 : decode cX11_count 40 = .ok (.aload_n 0, 1) := by decide +kernel
theorem dX11_count_41 : decode cX11_count 41 = .ok (.getfield 124, 3) := by decide +kernel
theorem dX11_count_44 : decode cX11_count 44 = .ok (.invokestatic 276, 3) := by decide +kernel
theorem dX11_count_47 : decode cX11_count 47 = .ok (.ireturn, 1) := by decide +kernel
theorem dX11_count_48 : decode cX11_count 48 = .ok (.aload_n 0, 1) := by decide +kernel
theorem dX11_count_49 : decode cX11_count 49 = .ok (.getfield 131, 3) := by decide +kernel
theorem dX11_count_52 : decode cX11_count 52 = .ok (.ireturn, 1) := by decide +kernel
theorem dX11_count_53 : decode cX11_count 53 = .ok (.aload_n 0, 1) := by decide +kernel
theorem dX11_count_54 : decode cX11_count 54 = .ok (.getfield 229, 3) := by decide +kernel
theorem dX11_count_57 : decode cX11_count 57 = .ok (.ireturn, 1) := by decide +kernel
theorem dX11_count_58 : decode cX11_count 58 = .ok (.aload_n 0, 1) := by decide +kernel
theorem dX11_count_59 : decode cX11_count 59 = .ok (.getfield 270, 3) := by decide +kernel
theorem dX11_count_62 : decode cX11_count 62 = .ok (.ireturn, 1) := by decide +kernel
theorem dX11_count_63 : decode cX11_count 63 = .ok (.aload_n 0, 1) := by decide +kernel
theorem dX11_count_64 : decode cX11_count 64 = .ok (.invokevirtual 282, 3) := by decide +kernel
theorem dX11_count_67 : decode cX11_count 67 = .ok (.invokestatic 276, 3) := by decide +kernel
theorem dX11_count_70 : decode cX11_count 70 = .ok (.ireturn, 1) := by decide +kernel
theorem dX11_count_71 : decode cX11_count 71 = .ok (.aload_n 0, 1) := by decide +kernel
theorem dX11_count_72 : decode cX11_count 72 = .ok (.getfield 51, 3) := by decide +kernel
theorem dX11_count_75 : decode cX11_count 75 = .ok (.ireturn, 1) := by decide +kernel
theorem dX11_count_76 : decode cX11_count 76 = .ok (.bipush (-3), 2) := by decide +kernel
theorem dX11_count_78 : decode cX11_count 78 = .ok (.ireturn, 1) := by decide +kernel
theorem dJ6_bitCount_0f7a4_0 : decode cJ6_bitCount_0f7a4 0 = .ok (.iload_n 0, 1) := by decide +kernel
theorem dJ6_bitCount_0f7a4_1 : decode cJ6_bitCount_0f7a4 1 = .ok (.iload_n 0, 1) := by decide +kernel
theorem dJ6_bitCount_0f7a4_2 : decode cJ6_bitCount_0f7a4 2 = .ok (.iconst 1, 1) := by decide +kernel
theorem dJ6_bitCount_0f7a4_3 : decode cJ6_bitCount_0f7a4 3 = .ok (.iushr, 1) := by decide +kernel
theorem dJ6_bitCount_0f7a4_4 : decode cJ6_bitCount_0f7a4 4 = .ok (.ldc_w 265, 3) := by decide +kernel
theorem dJ6_bitCount_0f7a4_7 : decode cJ6_bitCount_0f7a4 7 = .ok (.iand, 1) := by decide +kernel
theorem dJ6_bitCount_0f7a4_8 : decode cJ6_bitCount_0f7a4 8 = .ok (.isub, 1) := by decide +kernel
theorem dJ6_bitCount_0f7a4_9 : decode cJ6_bitCount_0f7a4 9 = .ok (.istore_n 0, 1) := by decide +kernel
theorem dJ6_bitCount_0f7a4_10 : decode cJ6_bitCount_0f7a4 10 = .ok (.iload_n 0, 1) := by decide +kernel
theorem dJ6_bitCount_0f7a4_11 : decode cJ6_bitCount_0f7a4 11 = .ok (.ldc_w 266, 3) := by decide +kernel
theorem dJ6_bitCount_0f7a4_14 : decode cJ6_bitCount_0f7a4 14 = .ok (.iand, 1) := by decide +kernel
theorem dJ6_bitCount_0f7a4_15 : decode cJ6_bitCount_0f7a4 15 = .ok (.iload_n 0, 1) := by decide +kernel
theorem dJ6_bitCount_0f7a4_16 : decode cJ6_bitCount_0f7a4 16 = .ok (.iconst 2, 1) := by decide +kernel
theorem dJ6_bitCount_0f7a4_17 : decode cJ6_bitCount_0f7a4 17 = .ok (.iushr, 1) := by decide +kernel
theorem dJ6_bitCount_0f7a4_18 : decode cJ6_bitCount_0f7a4 18 = .ok (.ldc_w 266, 3) := by decide +kernel
theorem dJ6_bitCount_0f7a4_21 : decode cJ6_bitCount_0f7a4 21 = .ok (.iand, 1) := by decide +kernel
theorem dJ6_bitCount_0f7a4_22 : decode cJ6_bitCount_0f7a4 22 = .ok (.iadd, 1) := by decide +kernel
theorem dJ6_bitCount_0f7a4_23 : decode cJ6_bitCount_0f7a4 23 = .ok (.istore_n 0, 1) := by decide +kernel
theorem dJ6_bitCount_0f7a4_24 : decode cJ6_bitCount_0f7a4 24 = .ok (.iload_n 0, 1) := by decide +kernel
theorem dJ6_bitCount_0f7a4_25 : decode cJ6_bitCount_0f7a4 25 = .ok (.iload_n 0, 1) := by decide +kernel
theorem dJ6_bitCount_0f7a4_26 : decode cJ6_bitCount_0f7a4 26 = .ok (.iconst 4, 1) := by decide +kernel
theorem dJ6_bitCount_0f7a4_27 : decode cJ6_bitCount_0f7a4 27 = .ok (.iushr, 1) := by decide +kernel
theorem dJ6_bitCount_0f7a4_28 : decode cJ6_bitCount_0f7a4 28 = .ok (.iadd, 1) := by decide +kernel
theorem dJ6_bitCount_0f7a4_29 : decode cJ6_bitCount_0f7a4 29 = .ok (.ldc_w 267, 3) := by decide +kernel
theorem dJ6_bitCount_0f7a4_32 : decode cJ6_bitCount_0f7a4 32 = .ok (.iand, 1) := by decide +kernel
theorem dJ6_bitCount_0f7a4_33 : decode cJ6_bitCount_0f7a4 33 = .ok (.istore_n 0, 1) := by decide +kernel
theorem dJ6_bitCount_0f7a4_34 : decode cJ6_bitCount_0f7a4 34 = .ok (.iload_n 0, 1) := by decide +kernel
theorem dJ6_bitCount_0f7a4_35 : decode cJ6_bitCount_0f7a4 35 = .ok (.iload_n 0, 1) := by decide +kernel
theorem dJ6_bitCount_0f7a4_36 : decode cJ6_bitCount_0f7a4 36 = .ok (.bipush 8, 2) := by decide +kernel
theorem dJ6_bitCount_0f7a4_38 : decode cJ6_bitCount_0f7a4 38 = .ok (.iushr, 1) := by decide +kernel
theorem dJ6_bitCount_0f7a4_39 : decode cJ6_bitCount_0f7a4 39 = .ok (.iadd, 1) := by decide +kernel
theorem dJ6_bitCount_0f7a4_40 : decode cJ6_bitCount_0f7a4 40 = .ok (.istore_n 0, 1) := by decide +kernel
theorem dJ6_bitCount_0f7a4_41 : decode cJ6_bitCount_0f7a4 41 = .ok (.iload_n 0, 1) := by decide +kernel
theorem dJ6_bitCount_0f7a4_42 : decode cJ6_bitCount_0f7a4 42 = .ok (.iload_n 0, 1) := by decide +kernel
theorem dJ6_bitCount_0f7a4_43 : decode cJ6_bitCount_0f7a4 43 = .ok (.bipush 16, 2) := by decide +kernel
theorem dJ6_bitCount_0f7a4_45 : decode cJ6_bitCount_0f7a4 45 = .ok (.iushr, 1) := by decide +kernel
theorem dJ6_bitCount_0f7a4_46 : decode cJ6_bitCount_0f7a4 46 = .ok (.iadd, 1) := by decide +kernel
theorem dJ6_bitCount_0f7a4_47 : decode cJ6_bitCount_0f7a4 47 = .ok (.istore_n 0, 1) := by decide +kernel
theorem dJ6_bitCount_0f7a4_48 : decode cJ6_bitCount_0f7a4 48 = .ok (.iload_n 0, 1) := by decide +kernel
theorem dJ6_bitCount_0f7a4_49 : decode cJ6_bitCount_0f7a4 49 = .ok (.bipush 63, 2) := by decide +kernel
theorem dJ6_bitCount_0f7a4_51 : decode cJ6_bitCount_0f7a4 51 = .ok (.iand, 1) := by decide +kernel
theorem dJ6_bitCount_0f7a4_52 : decode cJ6_bitCount_0f7a4 52 = .ok (.ireturn, 1) := by decide +kernel
theorem dJ9_abs_0f7a4_0 : decode cJ9_abs_0f7a4 0 = .ok (.iload_n 0, 1) := by decide +kernel
theorem dJ9_abs_0f7a4_1 : decode cJ9_abs_0f7a4 1 = .ok (.ifCond .ge 8, 3) := by decide +kernel
theorem dJ9_abs_0f7a4_4 : decode cJ9_abs_0f7a4 4 = .ok (.iload_n 0, 1) := by decide +kernel
theorem dJ9_abs_0f7a4_5 : decode cJ9_abs_0f7a4 5 = .ok (.ineg, 1) := by decide +kernel
theorem dJ9_abs_0f7a4_6 : decode cJ9_abs_0f7a4 6 = .ok (.goto 4, 3) := by decide +kernel
theorem dJ9_abs_0f7a4_9 : decode cJ9_abs_0f7a4 9 = .ok (.iload_n 0, 1) := by decide +kernel
theorem dJ9_abs_0f7a4_10 : decode cJ9_abs_0f7a4 10 = .ok (.ireturn, 1) := by decide +kernel
theorem dJ9_max_7cf53_0 : decode cJ9_max_7cf53 0 = .ok (.iload_n 0, 1) := by decide +kernel
theorem dJ9_max_7cf53_1 : decode cJ9_max_7cf53 1 = .ok (.iload_n 1, 1) := by decide +kernel
theorem dJ9_max_7cf53_2 : decode cJ9_max_7cf53 2 = .ok (.if_icmp .lt 7, 3) := by decide +kernel
theorem dJ9_max_7cf53_5 : decode cJ9_max_7cf53 5 = .ok (.iload_n 0, 1) := by decide +kernel
theorem dJ9_max_7cf53_6 : decode cJ9_max_7cf53 6 = .ok (.goto 4, 3) := by decide +kernel
theorem dJ9_max_7cf53_9 : decode cJ9_max_7cf53 9 = .ok (.iload_n 1, 1) := by decide +kernel
theorem dJ9_max_7cf53_10 : decode cJ9_max_7cf53 10 = .ok (.ireturn, 1) := by decide +kernel
theorem dJ9_min_7cf53_0 : decode cJ9_min_7cf53 0 = .ok (.iload_n 0, 1) := by decide +kernel
theorem dJ9_min_7cf53_1 : decode cJ9_min_7cf53 1 = .ok (.iload_n 1, 1) := by decide +kernel
theorem dJ9_min_7cf53_2 : decode cJ9_min_7cf53 2 = .ok (.if_icmp .gt 7, 3) := by decide +kernel
theorem dJ9_min_7cf53_5 : decode cJ9_min_7cf53 5 = .ok (.iload_n 0, 1) := by decide +kernel
theorem dJ9_min_7cf53_6 : decode cJ9_min_7cf53 6 = .ok (.goto 4, 3) := by decide +kernel
theorem dJ9_min_7cf53_9 : decode cJ9_min_7cf53 9 = .ok (.iload_n 1, 1) := by decide +kernel
theorem dJ9_min_7cf53_10 : decode cJ9_min_7cf53 10 = .ok (.ireturn, 1) := by decide +kernel
theorem dJ0_length_8abf5_0 : decode cJ0_length_8abf5 0 = .ok (.aload_n 0, 1) := by decide +kernel
theorem dJ0_length_8abf5_1 : decode cJ0_length_8abf5 1 = .ok (.getfield 9, 3) := by decide +kernel
theorem dJ0_length_8abf5_4 : decode cJ0_length_8abf5 4 = .ok (.arraylength, 1) := by decide +kernel
theorem dJ0_length_8abf5_5 : decode cJ0_length_8abf5 5 = .ok (.aload_n 0, 1) := by decide +kernel
theorem dJ0_length_8abf5_6 : decode cJ0_length_8abf5 6 = .ok (.invokevirtual 335, 3) := by decide +kernel
theorem dJ0_length_8abf5_9 : decode cJ0_length_8abf5 9 = .ok (.ishr, 1) := by decide +kernel
theorem dJ0_length_8abf5_10 : decode cJ0_length_8abf5 10 = .ok (.ireturn, 1) := by decide +kernel
theorem dJ0_charAt_5068e_0 : decode cJ0_charAt_5068e 0 = .ok (.aload_n 0, 1) := by decide +kernel
theorem dJ0_charAt_5068e_1 : decode cJ0_charAt_5068e 1 = .ok (.invokevirtual 492, 3) := by decide +kernel
theorem dJ0_charAt_5068e_4 : decode cJ0_charAt_5068e 4 = .ok (.ifCond .eq 12, 3) := by decide +kernel
theorem dJ0_charAt_5068e_7 : decode cJ0_charAt_5068e 7 = .ok (.aload_n 0, 1) := by decide +kernel
theorem dJ0_charAt_5068e_8 : decode cJ0_charAt_5068e 8 = .ok (.getfield 9, 3) := by decide +kernel
theorem dJ0_charAt_5068e_11 : decode cJ0_charAt_5068e 11 = .ok (.iload_n 1, 1) := by decide +kernel
theorem dJ0_charAt_5068e_12 : decode cJ0_charAt_5068e 12 = .ok (.invokestatic 495, 3) := by decide +kernel
theorem dJ0_charAt_5068e_15 : decode cJ0_charAt_5068e 15 = .ok (.ireturn, 1) := by decide +kernel
theorem dJ0_charAt_5068e_16 : decode cJ0_charAt_5068e 16 = .ok (.aload_n 0, 1) := by decide +kernel
theorem dJ0_charAt_5068e_17 : decode cJ0_charAt_5068e 17 = .ok (.getfield 9, 3) := by decide +kernel
theorem dJ0_charAt_5068e_20 : decode cJ0_charAt_5068e 20 = .ok (.iload_n 1, 1) := by decide +kernel
theorem dJ0_charAt_5068e_21 : decode cJ0_charAt_5068e 21 = .ok (.invokestatic 498, 3) := by decide +kernel
theorem dJ0_charAt_5068e_24 : decode cJ0_charAt_5068e 24 = .ok (.ireturn, 1) := by decide +kernel
theorem dJ0_coder_7d493_0 : decode cJ0_coder_7d493 0 = .ok (.getstatic 38, 3) := by decide +kernel
theorem dJ0_coder_7d493_3 : decode cJ0_coder_7d493 3 = .ok (.ifCond .eq 10, 3) := by decide +kernel
theorem dJ0_coder_7d493_6 : decode cJ0_coder_7d493 6 = .ok (.aload_n 0, 1) := by decide +kernel
theorem dJ0_coder_7d493_7 : decode cJ0_coder_7d493 7 = .ok (.getfield 15, 3) := by decide +kernel
theorem dJ0_coder_7d493_10 : decode cJ0_coder_7d493 10 = .ok (.goto 4, 3) := by decide +kernel
theorem dJ0_coder_7d493_13 : decode cJ0_coder_7d493 13 = .ok (.iconst 1, 1) := by decide +kernel
theorem dJ0_coder_7d493_14 : decode cJ0_coder_7d493 14 = .ok (.ireturn, 1) := by decide +kernel
theorem dJ0_isLatin1_aae02_0 : decode cJ0_isLatin1_aae02 0 = .ok (.getstatic 38, 3) := by decide +kernel
theorem dJ0_isLatin1_aae02_3 : decode cJ0_isLatin1_aae02 3 = .ok (.ifCond .eq 14, 3) := by decide +kernel
theorem dJ0_isLatin1_aae02_6 : decode cJ0_isLatin1_aae02 6 = .ok (.aload_n 0, 1) := by decide +kernel
theorem dJ0_isLatin1_aae02_7 : decode cJ0_isLatin1_aae02 7 = .ok (.getfield 15, 3) := by decide +kernel
theorem dJ0_isLatin1_aae02_10 : decode cJ0_isLatin1_aae02 10 = .ok (.ifCond .ne 7, 3) := by decide +kernel
theorem dJ0_isLatin1_aae02_13 : decode cJ0_isLatin1_aae02 13 = .ok (.iconst 1, 1) := by decide +kernel
theorem dJ0_isLatin1_aae02_14 : decode cJ0_isLatin1_aae02 14 = .ok (.goto 4, 3) := by decide +kernel
theorem dJ0_isLatin1_aae02_17 : decode cJ0_isLatin1_aae02 17 = .ok (.iconst 0, 1) := by decide +kernel
theorem dJ0_isLatin1_aae02_18 : decode cJ0_isLatin1_aae02 18 = .ok (.ireturn, 1) := by decide +kernel
theorem dJ0_checkIndex_df160_0 : decode cJ0_checkIndex_df160 0 = .ok (.iload_n 0, 1) := by decide +kernel
theorem dJ0_checkIndex_df160_1 : decode cJ0_checkIndex_df160 1 = .ok (.iload_n 1, 1) := by decide +kernel
theorem dJ0_checkIndex_df160_2 : decode cJ0_checkIndex_df160 2 = .ok (.getstatic 1053, 3) := by decide +kernel
theorem dJ0_checkIndex_df160_5 : decode cJ0_checkIndex_df160 5 = .ok (.invokestatic 1059, 3) := by decide +kernel
theorem dJ0_checkIndex_df160_8 : decode cJ0_checkIndex_df160 8 = .ok (.pop, 1) := by decide +kernel
theorem dJ0_checkIndex_df160_9 : decode cJ0_checkIndex_df160 9 = .ok (.return_, 1) := by decide +kernel
theorem dJ1_charAt_3b067_0 : decode cJ1_charAt_3b067 0 = .ok (.iload_n 1, 1) := by decide +kernel
theorem dJ1_charAt_3b067_1 : decode cJ1_charAt_3b067 1 = .ok (.aload_n 0, 1) := by decide +kernel
theorem dJ1_charAt_3b067_2 : decode cJ1_charAt_3b067 2 = .ok (.arraylength, 1) := by decide +kernel
theorem dJ1_charAt_3b067_3 : decode cJ1_charAt_3b067 3 = .ok (.invokestatic 9, 3) := by decide +kernel
theorem dJ1_charAt_3b067_6 : decode cJ1_charAt_3b067 6 = .ok (.aload_n 0, 1) := by decide +kernel
theorem dJ1_charAt_3b067_7 : decode cJ1_charAt_3b067 7 = .ok (.iload_n 1, 1) := by decide +kernel
theorem dJ1_charAt_3b067_8 : decode cJ1_charAt_3b067 8 = .ok (.baload, 1) := by decide +kernel
theorem dJ1_charAt_3b067_9 : decode cJ1_charAt_3b067 9 = .ok (.sipush 255, 3) := by decide +kernel
theorem dJ1_charAt_3b067_12 : decode cJ1_charAt_3b067 12 = .ok (.iand, 1) := by decide +kernel
theorem dJ1_charAt_3b067_13 : decode cJ1_charAt_3b067 13 = .ok (.i2c, 1) := by decide +kernel
theorem dJ1_charAt_3b067_14 : decode cJ1_charAt_3b067 14 = .ok (.ireturn, 1) := by decide +kernel
theorem dJ2_getChar_3b067_0 : decode cJ2_getChar_3b067 0 = .ok (.getstatic 44, 3) := by decide +kernel
theorem dJ2_getChar_3b067_3 : decode cJ2_getChar_3b067 3 = .ok (.ifCond .ne 25, 3) := by decide +kernel
theorem dJ2_getChar_3b067_6 : decode cJ2_getChar_3b067 6 = .ok (.iload_n 1, 1) := by decide +kernel
theorem dJ2_getChar_3b067_7 : decode cJ2_getChar_3b067 7 = .ok (.ifCond .lt 11, 3) := by decide +kernel
theorem dJ2_getChar_3b067_10 : decode cJ2_getChar_3b067 10 = .ok (.iload_n 1, 1) := by decide +kernel
theorem dJ2_getChar_3b067_11 : decode cJ2_getChar_3b067 11 = .ok (.aload_n 0, 1) := by decide +kernel
theorem dJ2_getChar_3b067_12 : decode cJ2_getChar_3b067 12 = .ok (.invokestatic 48, 3) := by decide +kernel
theorem dJ2_getChar_3b067_15 : decode cJ2_getChar_3b067 15 = .ok (.if_icmp .lt 13, 3) := by decide +kernel
theorem dJ2_getChar_3b067_18 : decode cJ2_getChar_3b067 18 = .ok (.new 52, 3) := by decide +kernel
theorem dJ2_getChar_3b067_21 : decode cJ2_getChar_3b067 21 = .ok (.dup, 1) := by decide +kernel
theorem dJ2_getChar_3b067_22 : decode cJ2_getChar_3b067 22 = .ok (.ldc 54, 2) := by decide +kernel
theorem dJ2_getChar_3b067_24 : decode cJ2_getChar_3b067 24 = .ok (.invokespecial 56, 3) := by decide +kernel
theorem dJ2_getChar_3b067_27 : decode cJ2_getChar_3b067 27 = .ok (.athrow, 1) := by decide +kernel
theorem dJ2_getChar_3b067_28 : decode cJ2_getChar_3b067 28 = .ok (.iload_n 1, 1) := by decide +kernel
theorem dJ2_getChar_3b067_29 : decode cJ2_getChar_3b067 29 = .ok (.iconst 1, 1) := by decide +kernel
theorem dJ2_getChar_3b067_30 : decode cJ2_getChar_3b067 30 = .ok (.ishl, 1) := by decide +kernel
theorem dJ2_getChar_3b067_31 : decode cJ2_getChar_3b067 31 = .ok (.istore_n 1, 1) := by decide +kernel
theorem dJ2_getChar_3b067_32 : decode cJ2_getChar_3b067 32 = .ok (.aload_n 0, 1) := by decide +kernel
theorem dJ2_getChar_3b067_33 : decode cJ2_getChar_3b067 33 = .ok (.iload_n 1, 1) := by decide +kernel
theorem dJ2_getChar_3b067_34 : decode cJ2_getChar_3b067 34 = .ok (.iinc 1 1, 3) := by decide +kernel
theorem dJ2_getChar_3b067_37 : decode cJ2_getChar_3b067 37 = .ok (.baload, 1) := by decide +kernel
theorem dJ2_getChar_3b067_38 : decode cJ2_getChar_3b067 38 = .ok (.sipush 255, 3) := by decide +kernel
theorem dJ2_getChar_3b067_41 : decode cJ2_getChar_3b067 41 = .ok (.iand, 1) := by decide +kernel
theorem dJ2_getChar_3b067_42 : decode cJ2_getChar_3b067 42 = .ok (.getstatic 59, 3) := by decide +kernel
theorem dJ2_getChar_3b067_45 : decode cJ2_getChar_3b067 45 = .ok (.ishl, 1) := by decide +kernel
theorem dJ2_getChar_3b067_46 : decode cJ2_getChar_3b067 46 = .ok (.aload_n 0, 1) := by decide +kernel
theorem dJ2_getChar_3b067_47 : decode cJ2_getChar_3b067 47 = .ok (.iload_n 1, 1) := by decide +kernel
theorem dJ2_getChar_3b067_48 : decode cJ2_getChar_3b067 48 = .ok (.baload, 1) := by decide +kernel
theorem dJ2_getChar_3b067_49 : decode cJ2_getChar_3b067 49 = .ok (.sipush 255, 3) := by decide +kernel
theorem dJ2_getChar_3b067_52 : decode cJ2_getChar_3b067 52 = .ok (.iand, 1) := by decide +kernel
theorem dJ2_getChar_3b067_53 : decode cJ2_getChar_3b067 53 = .ok (.getstatic 63, 3) := by decide +kernel
theorem dJ2_getChar_3b067_56 : decode cJ2_getChar_3b067 56 = .ok (.ishl, 1) := by decide +kernel
theorem dJ2_getChar_3b067_57 : decode cJ2_getChar_3b067 57 = .ok (.ior, 1) := by decide +kernel
theorem dJ2_getChar_3b067_58 : decode cJ2_getChar_3b067 58 = .ok (.i2c, 1) := by decide +kernel
theorem dJ2_getChar_3b067_59 : decode cJ2_getChar_3b067 59 = .ok (.ireturn, 1) := by decide +kernel
theorem dJ2_length_9d52b_0 : decode cJ2_length_9d52b 0 = .ok (.aload_n 0, 1) := by decide +kernel
theorem dJ2_length_9d52b_1 : decode cJ2_length_9d52b 1 = .ok (.arraylength, 1) := by decide +kernel
theorem dJ2_length_9d52b_2 : decode cJ2_length_9d52b 2 = .ok (.iconst 1, 1) := by decide +kernel
theorem dJ2_length_9d52b_3 : decode cJ2_length_9d52b 3 = .ok (.ishr, 1) := by decide +kernel
theorem dJ2_length_9d52b_4 : decode cJ2_length_9d52b 4 = .ok (.ireturn, 1) := by decide +kernel
theorem dJ2_charAt_3b067_0 : decode cJ2_charAt_3b067 0 = .ok (.iload_n 1, 1) := by decide +kernel
theorem dJ2_charAt_3b067_1 : decode cJ2_charAt_3b067 1 = .ok (.aload_n 0, 1) := by decide +kernel
theorem dJ2_charAt_3b067_2 : decode cJ2_charAt_3b067 2 = .ok (.invokestatic 67, 3) := by decide +kernel
theorem dJ2_charAt_3b067_5 : decode cJ2_charAt_3b067 5 = .ok (.aload_n 0, 1) := by decide +kernel
theorem dJ2_charAt_3b067_6 : decode cJ2_charAt_3b067 6 = .ok (.iload_n 1, 1) := by decide +kernel
theorem dJ2_charAt_3b067_7 : decode cJ2_charAt_3b067 7 = .ok (.invokestatic 71, 3) := by decide +kernel
theorem dJ2_charAt_3b067_10 : decode cJ2_charAt_3b067 10 = .ok (.ireturn, 1) := by decide +kernel
theorem dJ2_checkIndex_2214a_0 : decode cJ2_checkIndex_2214a 0 = .ok (.iload_n 0, 1) := by decide +kernel
theorem dJ2_checkIndex_2214a_1 : decode cJ2_checkIndex_2214a 1 = .ok (.aload_n 1, 1) := by decide +kernel
theorem dJ2_checkIndex_2214a_2 : decode cJ2_checkIndex_2214a 2 = .ok (.invokestatic 48, 3) := by decide +kernel
theorem dJ2_checkIndex_2214a_5 : decode cJ2_checkIndex_2214a 5 = .ok (.invokestatic 414, 3) := by decide +kernel
theorem dJ2_checkIndex_2214a_8 : decode cJ2_checkIndex_2214a 8 = .ok (.return_, 1) := by decide +kernel
theorem dJ3_checkIndex_8e157_0 : decode cJ3_checkIndex_8e157 0 = .ok (.iload_n 0, 1) := by decide +kernel
theorem dJ3_checkIndex_8e157_1 : decode cJ3_checkIndex_8e157 1 = .ok (.ifCond .lt 8, 3) := by decide +kernel
theorem dJ3_checkIndex_8e157_4 : decode cJ3_checkIndex_8e157 4 = .ok (.iload_n 0, 1) := by decide +kernel
theorem dJ3_checkIndex_8e157_5 : decode cJ3_checkIndex_8e157 5 = .ok (.iload_n 1, 1) := by decide +kernel
theorem dJ3_checkIndex_8e157_6 : decode cJ3_checkIndex_8e157 6 = .ok (.if_icmp .lt 10, 3) := by decide +kernel
theorem dJ3_checkIndex_8e157_9 : decode cJ3_checkIndex_8e157 9 = .ok (.aload_n 2, 1) := by decide +kernel
theorem dJ3_checkIndex_8e157_10 : decode cJ3_checkIndex_8e157 10 = .ok (.iload_n 0, 1) := by decide +kernel
theorem dJ3_checkIndex_8e157_11 : decode cJ3_checkIndex_8e157 11 = .ok (.iload_n 1, 1) := by decide +kernel
theorem dJ3_checkIndex_8e157_12 : decode cJ3_checkIndex_8e157 12 = .ok (.invokestatic 95, 3) := by decide +kernel
theorem dJ3_checkIndex_8e157_15 : decode cJ3_checkIndex_8e157 15 = .ok (.athrow, 1) := by decide +kernel
theorem dJ3_checkIndex_8e157_16 : decode cJ3_checkIndex_8e157 16 = .ok (.iload_n 0, 1) := by decide +kernel
theorem dJ3_checkIndex_8e157_17 : decode cJ3_checkIndex_8e157 17 = .ok (.ireturn, 1) := by decide +kernel
theorem dL_law_0 : decode cL_law 0 = .ok (.new 7, 3) := by decide +kernel
theorem dL_law_3 : decode cL_law 3 = .ok (.dup, 1) := by decide +kernel
theorem dL_law_4 : decode cL_law 4 = .ok (.invokespecial 9, 3) := by decide +kernel
theorem dL_law_7 : decode cL_law 7 = .ok (.astore_n 1, 1) := by decide +kernel
theorem dL_law_8 : decode cL_law 8 = .ok (.new 10, 3) := by decide +kernel
theorem dL_law_11 : decode cL_law 11 = .ok (.dup, 1) := by decide +kernel
theorem dL_law_12 : decode cL_law 12 = .ok (.invokespecial 12, 3) := by decide +kernel
theorem dL_law_15 : decode cL_law 15 = .ok (.astore_n 2, 1) := by decide +kernel
theorem dL_law_16 : decode cL_law 16 = .ok (.iconst 0, 1) := by decide +kernel
theorem dL_law_17 : decode cL_law 17 = .ok (.istore_n 3, 1) := by decide +kernel
theorem dL_law_18 : decode cL_law 18 = .ok (.iload_n 3, 1) := by decide +kernel
theorem dL_law_19 : decode cL_law 19 = .ok (.aload_n 0, 1) := by decide +kernel
theorem dL_law_20 : decode cL_law 20 = .ok (.arraylength, 1) := by decide +kernel
theorem dL_law_21 : decode cL_law 21 = .ok (.bipush 6, 2) := by decide +kernel
theorem dL_law_23 : decode cL_law 23 = .ok (.isub, 1) := by decide +kernel
theorem dL_law_24 : decode cL_law 24 = .ok (.if_icmp .gt 760, 3) := by decide +kernel
theorem dL_law_27 : decode cL_law 27 = .ok (.aload_n 0, 1) := by decide +kernel
theorem dL_law_28 : decode cL_law 28 = .ok (.iload_n 3, 1) := by decide +kernel
theorem dL_law_29 : decode cL_law 29 = .ok (.iaload, 1) := by decide +kernel
theorem dL_law_30 : decode cL_law 30 = .ok (.bipush 31, 2) := by decide +kernel
theorem dL_law_32 : decode cL_law 32 = .ok (.iand, 1) := by decide +kernel
theorem dL_law_33 : decode cL_law 33 = .ok (.tableswitch 745 0 19 #[95, 158, 171, 184, 197, 230, 263, 286, 329, 352, 385, 408, 431, 484, 517, 560, 593, 636, 659, 722], 95) := by decide +kernel
theorem dL_law_128 : decode cL_law 128 = .ok (.aload_n 1, 1) := by decide +kernel
theorem dL_law_129 : decode cL_law 129 = .ok (.aload_n 0, 1) := by decide +kernel
theorem dL_law_130 : decode cL_law 130 = .ok (.iload_n 3, 1) := by decide +kernel
theorem dL_law_131 : decode cL_law 131 = .ok (.iconst 1, 1) := by decide +kernel
theorem dL_law_132 : decode cL_law 132 = .ok (.iadd, 1) := by decide +kernel
theorem dL_law_133 : decode cL_law 133 = .ok (.iaload, 1) := by decide +kernel
theorem dL_law_134 : decode cL_law 134 = .ok (.i2l, 1) := by decide +kernel
theorem dL_law_135 : decode cL_law 135 = .ok (.bipush 32, 2) := by decide +kernel
theorem dL_law_137 : decode cL_law 137 = .ok (.lshl, 1) := by decide +kernel
theorem dL_law_138 : decode cL_law 138 = .ok (.aload_n 0, 1) := by decide +kernel
theorem dL_law_139 : decode cL_law 139 = .ok (.iload_n 3, 1) := by decide +kernel
theorem dL_law_140 : decode cL_law 140 = .ok (.iconst 2, 1) := by decide +kernel
theorem dL_law_141 : decode cL_law 141 = .ok (.iadd, 1) := by decide +kernel
theorem dL_law_142 : decode cL_law 142 = .ok (.iaload, 1) := by decide +kernel
theorem dL_law_143 : decode cL_law 143 = .ok (.i2l, 1) := by decide +kernel
theorem dL_law_144 : decode cL_law 144 = .ok (.ldc2_w 13, 3) := by decide +kernel
theorem dL_law_147 : decode cL_law 147 = .ok (.land, 1) := by decide +kernel
theorem dL_law_148 : decode cL_law 148 = .ok (.lor, 1) := by decide +kernel
theorem dL_law_149 : decode cL_law 149 = .ok (.aload_n 0, 1) := by decide +kernel
theorem dL_law_150 : decode cL_law 150 = .ok (.iload_n 3, 1) := by decide +kernel
theorem dL_law_151 : decode cL_law 151 = .ok (.iconst 3, 1) := by decide +kernel
theorem dL_law_152 : decode cL_law 152 = .ok (.iadd, 1) := by decide +kernel
theorem dL_law_153 : decode cL_law 153 = .ok (.iaload, 1) := by decide +kernel
theorem dL_law_154 : decode cL_law 154 = .ok (.invokevirtual 15, 3) := by decide +kernel
theorem dL_law_157 : decode cL_law 157 = .ok (.aload_n 2, 1) := by decide +kernel
theorem dL_law_158 : decode cL_law 158 = .ok (.aload_n 0, 1) := by decide +kernel
theorem dL_law_159 : decode cL_law 159 = .ok (.iload_n 3, 1) := by decide +kernel
theorem dL_law_160 : decode cL_law 160 = .ok (.iconst 1, 1) := by decide +kernel
theorem dL_law_161 : decode cL_law 161 = .ok (.iadd, 1) := by decide +kernel
theorem dL_law_162 : decode cL_law 162 = .ok (.iaload, 1) := by decide +kernel
theorem dL_law_163 : decode cL_law 163 = .ok (.i2l, 1) := by decide +kernel
theorem dL_law_164 : decode cL_law 164 = .ok (.bipush 32, 2) := by decide +kernel
theorem dL_law_166 : decode cL_law 166 = .ok (.lshl, 1) := by decide +kernel
theorem dL_law_167 : decode cL_law 167 = .ok (.aload_n 0, 1) := by decide +kernel
theorem dL_law_168 : decode cL_law 168 = .ok (.iload_n 3, 1) := by decide +kernel
theorem dL_law_169 : decode cL_law 169 = .ok (.iconst 2, 1) := by decide +kernel
theorem dL_law_170 : decode cL_law 170 = .ok (.iadd, 1) := by decide +kernel
theorem dL_law_171 : decode cL_law 171 = .ok (.iaload, 1) := by decide +kernel
theorem dL_law_172 : decode cL_law 172 = .ok (.i2l, 1) := by decide +kernel
theorem dL_law_173 : decode cL_law 173 = .ok (.ldc2_w 13, 3) := by decide +kernel
theorem dL_law_176 : decode cL_law 176 = .ok (.land, 1) := by decide +kernel
theorem dL_law_177 : decode cL_law 177 = .ok (.lor, 1) := by decide +kernel
theorem dL_law_178 : decode cL_law 178 = .ok (.aload_n 0, 1) := by decide +kernel
theorem dL_law_179 : decode cL_law 179 = .ok (.iload_n 3, 1) := by decide +kernel
theorem dL_law_180 : decode cL_law 180 = .ok (.iconst 3, 1) := by decide +kernel
theorem dL_law_181 : decode cL_law 181 = .ok (.iadd, 1) := by decide +kernel
theorem dL_law_182 : decode cL_law 182 = .ok (.iaload, 1) := by decide +kernel
theorem dL_law_183 : decode cL_law 183 = .ok (.invokevirtual 19, 3) := by decide +kernel
theorem dL_law_186 : decode cL_law 186 = .ok (.if_icmp .eq 592, 3) := by decide +kernel
theorem dL_law_189 : decode cL_law 189 = .ok (.iconst 0, 1) := by decide +kernel
theorem dL_law_190 : decode cL_law 190 = .ok (.ireturn, 1) := by decide +kernel
theorem dL_law_191 : decode cL_law 191 = .ok (.aload_n 1, 1) := by decide +kernel
theorem dL_law_192 : decode cL_law 192 = .ok (.invokevirtual 20, 3) := by decide +kernel
theorem dL_law_195 : decode cL_law 195 = .ok (.aload_n 2, 1) := by decide +kernel
theorem dL_law_196 : decode cL_law 196 = .ok (.invokevirtual 24, 3) := by decide +kernel
theorem dL_law_199 : decode cL_law 199 = .ok (.if_icmp .eq 579, 3) := by decide +kernel
theorem dL_law_202 : decode cL_law 202 = .ok (.iconst 0, 1) := by decide +kernel
theorem dL_law_203 : decode cL_law 203 = .ok (.ireturn, 1) := by decide +kernel
theorem dL_law_204 : decode cL_law 204 = .ok (.aload_n 1, 1) := by decide +kernel
theorem dL_law_205 : decode cL_law 205 = .ok (.invokevirtual 25, 3) := by decide +kernel
theorem dL_law_208 : decode cL_law 208 = .ok (.aload_n 2, 1) := by decide +kernel
theorem dL_law_209 : decode cL_law 209 = .ok (.invokevirtual 28, 3) := by decide +kernel
theorem dL_law_212 : decode cL_law 212 = .ok (.if_icmp .eq 566, 3) := by decide +kernel
theorem dL_law_215 : decode cL_law 215 = .ok (.iconst 0, 1) := by decide +kernel
theorem dL_law_216 : decode cL_law 216 = .ok (.ireturn, 1) := by decide +kernel
theorem dL_law_217 : decode cL_law 217 = .ok (.aload_n 1, 1) := by decide +kernel
theorem dL_law_218 : decode cL_law 218 = .ok (.invokevirtual 29, 3) := by decide +kernel
theorem dL_law_221 : decode cL_law 221 = .ok (.aload_n 2, 1) := by decide +kernel
theorem dL_law_222 : decode cL_law 222 = .ok (.invokevirtual 32, 3) := by decide +kernel
theorem dL_law_225 : decode cL_law 225 = .ok (.if_icmp .eq 553, 3) := by decide +kernel
theorem dL_law_228 : decode cL_law 228 = .ok (.iconst 0, 1) := by decide +kernel
theorem dL_law_229 : decode cL_law 229 = .ok (.ireturn, 1) := by decide +kernel
theorem dL_law_230 : decode cL_law 230 = .ok (.aload_n 1, 1) := by decide +kernel
theorem dL_law_231 : decode cL_law 231 = .ok (.aload_n 0, 1) := by decide +kernel
theorem dL_law_232 : decode cL_law 232 = .ok (.iload_n 3, 1) := by decide +kernel
theorem dL_law_233 : decode cL_law 233 = .ok (.iconst 1, 1) := by decide +kernel
theorem dL_law_234 : decode cL_law 234 = .ok (.iadd, 1) := by decide +kernel
theorem dL_law_235 : decode cL_law 235 = .ok (.iaload, 1) := by decide +kernel
theorem dL_law_236 : decode cL_law 236 = .ok (.aload_n 0, 1) := by decide +kernel
theorem dL_law_237 : decode cL_law 237 = .ok (.iload_n 3, 1) := by decide +kernel
theorem dL_law_238 : decode cL_law 238 = .ok (.iconst 2, 1) := by decide +kernel
theorem dL_law_239 : decode cL_law 239 = .ok (.iadd, 1) := by decide +kernel
theorem dL_law_240 : decode cL_law 240 = .ok (.iaload, 1) := by decide +kernel
theorem dL_law_241 : decode cL_law 241 = .ok (.invokevirtual 33, 3) := by decide +kernel
theorem dL_law_244 : decode cL_law 244 = .ok (.aload_n 2, 1) := by decide +kernel
theorem dL_law_245 : decode cL_law 245 = .ok (.aload_n 0, 1) := by decide +kernel
theorem dL_law_246 : decode cL_law 246 = .ok (.iload_n 3, 1) := by decide +kernel
theorem dL_law_247 : decode cL_law 247 = .ok (.iconst 1, 1) := by decide +kernel
theorem dL_law_248 : decode cL_law 248 = .ok (.iadd, 1) := by decide +kernel
theorem dL_law_249 : decode cL_law 249 = .ok (.iaload, 1) := by decide +kernel
theorem dL_law_250 : decode cL_law 250 = .ok (.aload_n 0, 1) := by decide +kernel
theorem dL_law_251 : decode cL_law 251 = .ok (.iload_n 3, 1) := by decide +kernel
theorem dL_law_252 : decode cL_law 252 = .ok (.iconst 2, 1) := by decide +kernel
theorem dL_law_253 : decode cL_law 253 = .ok (.iadd, 1) := by decide +kernel
theorem dL_law_254 : decode cL_law 254 = .ok (.iaload, 1) := by decide +kernel
theorem dL_law_255 : decode cL_law 255 = .ok (.invokevirtual 37, 3) := by decide +kernel
theorem dL_law_258 : decode cL_law 258 = .ok (.if_icmp .eq 520, 3) := by decide +kernel
theorem dL_law_261 : decode cL_law 261 = .ok (.iconst 0, 1) := by decide +kernel
theorem dL_law_262 : decode cL_law 262 = .ok (.ireturn, 1) := by decide +kernel
theorem dL_law_263 : decode cL_law 263 = .ok (.aload_n 1, 1) := by decide +kernel
theorem dL_law_264 : decode cL_law 264 = .ok (.aload_n 0, 1) := by decide +kernel
theorem dL_law_265 : decode cL_law 265 = .ok (.iload_n 3, 1) := by decide +kernel
theorem dL_law_266 : decode cL_law 266 = .ok (.iconst 1, 1) := by decide +kernel
theorem dL_law_267 : decode cL_law 267 = .ok (.iadd, 1) := by decide +kernel
theorem dL_law_268 : decode cL_law 268 = .ok (.iaload, 1) := by decide +kernel
theorem dL_law_269 : decode cL_law 269 = .ok (.aload_n 0, 1) := by decide +kernel
theorem dL_law_270 : decode cL_law 270 = .ok (.iload_n 3, 1) := by decide +kernel
theorem dL_law_271 : decode cL_law 271 = .ok (.iconst 2, 1) := by decide +kernel
theorem dL_law_272 : decode cL_law 272 = .ok (.iadd, 1) := by decide +kernel
theorem dL_law_273 : decode cL_law 273 = .ok (.iaload, 1) := by decide +kernel
theorem dL_law_274 : decode cL_law 274 = .ok (.invokevirtual 38, 3) := by decide +kernel
theorem dL_law_277 : decode cL_law 277 = .ok (.aload_n 2, 1) := by decide +kernel
theorem dL_law_278 : decode cL_law 278 = .ok (.aload_n 0, 1) := by decide +kernel
theorem dL_law_279 : decode cL_law 279 = .ok (.iload_n 3, 1) := by decide +kernel
theorem dL_law_280 : decode cL_law 280 = .ok (.iconst 1, 1) := by decide +kernel
theorem dL_law_281 : decode cL_law 281 = .ok (.iadd, 1) := by decide +kernel
theorem dL_law_282 : decode cL_law 282 = .ok (.iaload, 1) := by decide +kernel
theorem dL_law_283 : decode cL_law 283 = .ok (.aload_n 0, 1) := by decide +kernel
theorem dL_law_284 : decode cL_law 284 = .ok (.iload_n 3, 1) := by decide +kernel
theorem dL_law_285 : decode cL_law 285 = .ok (.iconst 2, 1) := by decide +kernel
theorem dL_law_286 : decode cL_law 286 = .ok (.iadd, 1) := by decide +kernel
theorem dL_law_287 : decode cL_law 287 = .ok (.iaload, 1) := by decide +kernel
theorem dL_law_288 : decode cL_law 288 = .ok (.invokevirtual 41, 3) := by decide +kernel
theorem dL_law_291 : decode cL_law 291 = .ok (.if_icmp .eq 487, 3) := by decide +kernel
theorem dL_law_294 : decode cL_law 294 = .ok (.iconst 0, 1) := by decide +kernel
theorem dL_law_295 : decode cL_law 295 = .ok (.ireturn, 1) := by decide +kernel
theorem dL_law_296 : decode cL_law 296 = .ok (.aload_n 1, 1) := by decide +kernel
theorem dL_law_297 : decode cL_law 297 = .ok (.aload_n 0, 1) := by decide +kernel
theorem dL_law_298 : decode cL_law 298 = .ok (.iload_n 3, 1) := by decide +kernel
theorem dL_law_299 : decode cL_law 299 = .ok (.iconst 1, 1) := by decide +kernel
theorem dL_law_300 : decode cL_law 300 = .ok (.iadd, 1) := by decide +kernel
theorem dL_law_301 : decode cL_law 301 = .ok (.iaload, 1) := by decide +kernel
theorem dL_law_302 : decode cL_law 302 = .ok (.invokevirtual 42, 3) := by decide +kernel
theorem dL_law_305 : decode cL_law 305 = .ok (.aload_n 2, 1) := by decide +kernel
theorem dL_law_306 : decode cL_law 306 = .ok (.aload_n 0, 1) := by decide +kernel
theorem dL_law_307 : decode cL_law 307 = .ok (.iload_n 3, 1) := by decide +kernel
theorem dL_law_308 : decode cL_law 308 = .ok (.iconst 1, 1) := by decide +kernel
theorem dL_law_309 : decode cL_law 309 = .ok (.iadd, 1) := by decide +kernel
theorem dL_law_310 : decode cL_law 310 = .ok (.iaload, 1) := by decide +kernel
theorem dL_law_311 : decode cL_law 311 = .ok (.invokevirtual 46, 3) := by decide +kernel
theorem dL_law_314 : decode cL_law 314 = .ok (.if_icmp .eq 464, 3) := by decide +kernel
theorem dL_law_317 : decode cL_law 317 = .ok (.iconst 0, 1) := by decide +kernel
theorem dL_law_318 : decode cL_law 318 = .ok (.ireturn, 1) := by decide +kernel
theorem dL_law_319 : decode cL_law 319 = .ok (.aload_n 1, 1) := by decide +kernel
theorem dL_law_320 : decode cL_law 320 = .ok (.aload_n 0, 1) := by decide +kernel
theorem dL_law_321 : decode cL_law 321 = .ok (.iload_n 3, 1) := by decide +kernel
theorem dL_law_322 : decode cL_law 322 = .ok (.iconst 1, 1) := by decide +kernel
theorem dL_law_323 : decode cL_law 323 = .ok (.iadd, 1) := by decide +kernel
theorem dL_law_324 : decode cL_law 324 = .ok (.iaload, 1) := by decide +kernel
theorem dL_law_325 : decode cL_law 325 = .ok (.aload_n 0, 1) := by decide +kernel
theorem dL_law_326 : decode cL_law 326 = .ok (.iload_n 3, 1) := by decide +kernel
theorem dL_law_327 : decode cL_law 327 = .ok (.iconst 2, 1) := by decide +kernel
theorem dL_law_328 : decode cL_law 328 = .ok (.iadd, 1) := by decide +kernel
theorem dL_law_329 : decode cL_law 329 = .ok (.iaload, 1) := by decide +kernel
theorem dL_law_330 : decode cL_law 330 = .ok (.aload_n 0, 1) := by decide +kernel
theorem dL_law_331 : decode cL_law 331 = .ok (.iload_n 3, 1) := by decide +kernel
theorem dL_law_332 : decode cL_law 332 = .ok (.iconst 3, 1) := by decide +kernel
theorem dL_law_333 : decode cL_law 333 = .ok (.iadd, 1) := by decide +kernel
theorem dL_law_334 : decode cL_law 334 = .ok (.iaload, 1) := by decide +kernel
theorem dL_law_335 : decode cL_law 335 = .ok (.invokevirtual 47, 3) := by decide +kernel
theorem dL_law_338 : decode cL_law 338 = .ok (.aload_n 2, 1) := by decide +kernel
theorem dL_law_339 : decode cL_law 339 = .ok (.aload_n 0, 1) := by decide +kernel
theorem dL_law_340 : decode cL_law 340 = .ok (.iload_n 3, 1) := by decide +kernel
theorem dL_law_341 : decode cL_law 341 = .ok (.iconst 1, 1) := by decide +kernel
theorem dL_law_342 : decode cL_law 342 = .ok (.iadd, 1) := by decide +kernel
theorem dL_law_343 : decode cL_law 343 = .ok (.iaload, 1) := by decide +kernel
theorem dL_law_344 : decode cL_law 344 = .ok (.aload_n 0, 1) := by decide +kernel
theorem dL_law_345 : decode cL_law 345 = .ok (.iload_n 3, 1) := by decide +kernel
theorem dL_law_346 : decode cL_law 346 = .ok (.iconst 2, 1) := by decide +kernel
theorem dL_law_347 : decode cL_law 347 = .ok (.iadd, 1) := by decide +kernel
theorem dL_law_348 : decode cL_law 348 = .ok (.iaload, 1) := by decide +kernel
theorem dL_law_349 : decode cL_law 349 = .ok (.aload_n 0, 1) := by decide +kernel
theorem dL_law_350 : decode cL_law 350 = .ok (.iload_n 3, 1) := by decide +kernel
theorem dL_law_351 : decode cL_law 351 = .ok (.iconst 3, 1) := by decide +kernel
theorem dL_law_352 : decode cL_law 352 = .ok (.iadd, 1) := by decide +kernel
theorem dL_law_353 : decode cL_law 353 = .ok (.iaload, 1) := by decide +kernel
theorem dL_law_354 : decode cL_law 354 = .ok (.invokevirtual 51, 3) := by decide +kernel
theorem dL_law_357 : decode cL_law 357 = .ok (.if_icmp .eq 421, 3) := by decide +kernel
theorem dL_law_360 : decode cL_law 360 = .ok (.iconst 0, 1) := by decide +kernel
theorem dL_law_361 : decode cL_law 361 = .ok (.ireturn, 1) := by decide +kernel
theorem dL_law_362 : decode cL_law 362 = .ok (.aload_n 1, 1) := by decide +kernel
theorem dL_law_363 : decode cL_law 363 = .ok (.aload_n 0, 1) := by decide +kernel
theorem dL_law_364 : decode cL_law 364 = .ok (.iload_n 3, 1) := by decide +kernel
theorem dL_law_365 : decode cL_law 365 = .ok (.iconst 1, 1) := by decide +kernel
theorem dL_law_366 : decode cL_law 366 = .ok (.iadd, 1) := by decide +kernel
theorem dL_law_367 : decode cL_law 367 = .ok (.iaload, 1) := by decide +kernel
theorem dL_law_368 : decode cL_law 368 = .ok (.invokevirtual 52, 3) := by decide +kernel
theorem dL_law_371 : decode cL_law 371 = .ok (.aload_n 2, 1) := by decide +kernel
theorem dL_law_372 : decode cL_law 372 = .ok (.aload_n 0, 1) := by decide +kernel
theorem dL_law_373 : decode cL_law 373 = .ok (.iload_n 3, 1) := by decide +kernel
theorem dL_law_374 : decode cL_law 374 = .ok (.iconst 1, 1) := by decide +kernel
theorem dL_law_375 : decode cL_law 375 = .ok (.iadd, 1) := by decide +kernel
theorem dL_law_376 : decode cL_law 376 = .ok (.iaload, 1) := by decide +kernel
theorem dL_law_377 : decode cL_law 377 = .ok (.invokevirtual 55, 3) := by decide +kernel
theorem dL_law_380 : decode cL_law 380 = .ok (.if_icmp .eq 398, 3) := by decide +kernel
theorem dL_law_383 : decode cL_law 383 = .ok (.iconst 0, 1) := by decide +kernel
theorem dL_law_384 : decode cL_law 384 = .ok (.ireturn, 1) := by decide +kernel
theorem dL_law_385 : decode cL_law 385 = .ok (.aload_n 1, 1) := by decide +kernel
theorem dL_law_386 : decode cL_law 386 = .ok (.aload_n 0, 1) := by decide +kernel
theorem dL_law_387 : decode cL_law 387 = .ok (.iload_n 3, 1) := by decide +kernel
theorem dL_law_388 : decode cL_law 388 = .ok (.iconst 1, 1) := by decide +kernel
theorem dL_law_389 : decode cL_law 389 = .ok (.iadd, 1) := by decide +kernel
theorem dL_law_390 : decode cL_law 390 = .ok (.iaload, 1) := by decide +kernel
theorem dL_law_391 : decode cL_law 391 = .ok (.aload_n 0, 1) := by decide +kernel
theorem dL_law_392 : decode cL_law 392 = .ok (.iload_n 3, 1) := by decide +kernel
theorem dL_law_393 : decode cL_law 393 = .ok (.iconst 2, 1) := by decide +kernel
theorem dL_law_394 : decode cL_law 394 = .ok (.iadd, 1) := by decide +kernel
theorem dL_law_395 : decode cL_law 395 = .ok (.iaload, 1) := by decide +kernel
theorem dL_law_396 : decode cL_law 396 = .ok (.invokevirtual 56, 3) := by decide +kernel
theorem dL_law_399 : decode cL_law 399 = .ok (.aload_n 2, 1) := by decide +kernel
theorem dL_law_400 : decode cL_law 400 = .ok (.aload_n 0, 1) := by decide +kernel
theorem dL_law_401 : decode cL_law 401 = .ok (.iload_n 3, 1) := by decide +kernel
theorem dL_law_402 : decode cL_law 402 = .ok (.iconst 1, 1) := by decide +kernel
theorem dL_law_403 : decode cL_law 403 = .ok (.iadd, 1) := by decide +kernel
theorem dL_law_404 : decode cL_law 404 = .ok (.iaload, 1) := by decide +kernel
theorem dL_law_405 : decode cL_law 405 = .ok (.aload_n 0, 1) := by decide +kernel
theorem dL_law_406 : decode cL_law 406 = .ok (.iload_n 3, 1) := by decide +kernel
theorem dL_law_407 : decode cL_law 407 = .ok (.iconst 2, 1) := by decide +kernel
theorem dL_law_408 : decode cL_law 408 = .ok (.iadd, 1) := by decide +kernel
theorem dL_law_409 : decode cL_law 409 = .ok (.iaload, 1) := by decide +kernel
theorem dL_law_410 : decode cL_law 410 = .ok (.invokevirtual 59, 3) := by decide +kernel
theorem dL_law_413 : decode cL_law 413 = .ok (.if_icmp .eq 365, 3) := by decide +kernel
theorem dL_law_416 : decode cL_law 416 = .ok (.iconst 0, 1) := by decide +kernel
theorem dL_law_417 : decode cL_law 417 = .ok (.ireturn, 1) := by decide +kernel
theorem dL_law_418 : decode cL_law 418 = .ok (.aload_n 1, 1) := by decide +kernel
theorem dL_law_419 : decode cL_law 419 = .ok (.aload_n 0, 1) := by decide +kernel
theorem dL_law_420 : decode cL_law 420 = .ok (.iload_n 3, 1) := by decide +kernel
theorem dL_law_421 : decode cL_law 421 = .ok (.iconst 1, 1) := by decide +kernel
theorem dL_law_422 : decode cL_law 422 = .ok (.iadd, 1) := by decide +kernel
theorem dL_law_423 : decode cL_law 423 = .ok (.iaload, 1) := by decide +kernel
theorem dL_law_424 : decode cL_law 424 = .ok (.invokevirtual 60, 3) := by decide +kernel
theorem dL_law_427 : decode cL_law 427 = .ok (.aload_n 2, 1) := by decide +kernel
theorem dL_law_428 : decode cL_law 428 = .ok (.aload_n 0, 1) := by decide +kernel
theorem dL_law_429 : decode cL_law 429 = .ok (.iload_n 3, 1) := by decide +kernel
theorem dL_law_430 : decode cL_law 430 = .ok (.iconst 1, 1) := by decide +kernel
theorem dL_law_431 : decode cL_law 431 = .ok (.iadd, 1) := by decide +kernel
theorem dL_law_432 : decode cL_law 432 = .ok (.iaload, 1) := by decide +kernel
theorem dL_law_433 : decode cL_law 433 = .ok (.invokevirtual 63, 3) := by decide +kernel
theorem dL_law_436 : decode cL_law 436 = .ok (.if_icmp .eq 342, 3) := by decide +kernel
theorem dL_law_439 : decode cL_law 439 = .ok (.iconst 0, 1) := by decide +kernel
theorem dL_law_440 : decode cL_law 440 = .ok (.ireturn, 1) := by decide +kernel
theorem dL_law_441 : decode cL_law 441 = .ok (.aload_n 1, 1) := by decide +kernel
theorem dL_law_442 : decode cL_law 442 = .ok (.aload_n 0, 1) := by decide +kernel
theorem dL_law_443 : decode cL_law 443 = .ok (.iload_n 3, 1) := by decide +kernel
theorem dL_law_444 : decode cL_law 444 = .ok (.iconst 1, 1) := by decide +kernel
theorem dL_law_445 : decode cL_law 445 = .ok (.iadd, 1) := by decide +kernel
theorem dL_law_446 : decode cL_law 446 = .ok (.iaload, 1) := by decide +kernel
theorem dL_law_447 : decode cL_law 447 = .ok (.invokevirtual 64, 3) := by decide +kernel
theorem dL_law_450 : decode cL_law 450 = .ok (.aload_n 2, 1) := by decide +kernel
theorem dL_law_451 : decode cL_law 451 = .ok (.aload_n 0, 1) := by decide +kernel
theorem dL_law_452 : decode cL_law 452 = .ok (.iload_n 3, 1) := by decide +kernel
theorem dL_law_453 : decode cL_law 453 = .ok (.iconst 1, 1) := by decide +kernel
theorem dL_law_454 : decode cL_law 454 = .ok (.iadd, 1) := by decide +kernel
theorem dL_law_455 : decode cL_law 455 = .ok (.iaload, 1) := by decide +kernel
theorem dL_law_456 : decode cL_law 456 = .ok (.invokevirtual 67, 3) := by decide +kernel
theorem dL_law_459 : decode cL_law 459 = .ok (.if_icmp .eq 319, 3) := by decide +kernel
theorem dL_law_462 : decode cL_law 462 = .ok (.iconst 0, 1) := by decide +kernel
theorem dL_law_463 : decode cL_law 463 = .ok (.ireturn, 1) := by decide +kernel
theorem dL_law_464 : decode cL_law 464 = .ok (.aload_n 1, 1) := by decide +kernel
theorem dL_law_465 : decode cL_law 465 = .ok (.aload_n 0, 1) := by decide +kernel
theorem dL_law_466 : decode cL_law 466 = .ok (.iload_n 3, 1) := by decide +kernel
theorem dL_law_467 : decode cL_law 467 = .ok (.iconst 1, 1) := by decide +kernel
theorem dL_law_468 : decode cL_law 468 = .ok (.iadd, 1) := by decide +kernel
theorem dL_law_469 : decode cL_law 469 = .ok (.iaload, 1) := by decide +kernel
theorem dL_law_470 : decode cL_law 470 = .ok (.aload_n 0, 1) := by decide +kernel
theorem dL_law_471 : decode cL_law 471 = .ok (.iload_n 3, 1) := by decide +kernel
theorem dL_law_472 : decode cL_law 472 = .ok (.iconst 2, 1) := by decide +kernel
theorem dL_law_473 : decode cL_law 473 = .ok (.iadd, 1) := by decide +kernel
theorem dL_law_474 : decode cL_law 474 = .ok (.iaload, 1) := by decide +kernel
theorem dL_law_475 : decode cL_law 475 = .ok (.aload_n 0, 1) := by decide +kernel
theorem dL_law_476 : decode cL_law 476 = .ok (.iload_n 3, 1) := by decide +kernel
theorem dL_law_477 : decode cL_law 477 = .ok (.iconst 3, 1) := by decide +kernel
theorem dL_law_478 : decode cL_law 478 = .ok (.iadd, 1) := by decide +kernel
theorem dL_law_479 : decode cL_law 479 = .ok (.iaload, 1) := by decide +kernel
theorem dL_law_480 : decode cL_law 480 = .ok (.aload_n 0, 1) := by decide +kernel
theorem dL_law_481 : decode cL_law 481 = .ok (.iload_n 3, 1) := by decide +kernel
theorem dL_law_482 : decode cL_law 482 = .ok (.iconst 4, 1) := by decide +kernel
theorem dL_law_483 : decode cL_law 483 = .ok (.iadd, 1) := by decide +kernel
theorem dL_law_484 : decode cL_law 484 = .ok (.iaload, 1) := by decide +kernel
theorem dL_law_485 : decode cL_law 485 = .ok (.invokevirtual 68, 3) := by decide +kernel
theorem dL_law_488 : decode cL_law 488 = .ok (.aload_n 2, 1) := by decide +kernel
theorem dL_law_489 : decode cL_law 489 = .ok (.aload_n 0, 1) := by decide +kernel
theorem dL_law_490 : decode cL_law 490 = .ok (.iload_n 3, 1) := by decide +kernel
theorem dL_law_491 : decode cL_law 491 = .ok (.iconst 1, 1) := by decide +kernel
theorem dL_law_492 : decode cL_law 492 = .ok (.iadd, 1) := by decide +kernel
theorem dL_law_493 : decode cL_law 493 = .ok (.iaload, 1) := by decide +kernel
theorem dL_law_494 : decode cL_law 494 = .ok (.aload_n 0, 1) := by decide +kernel
theorem dL_law_495 : decode cL_law 495 = .ok (.iload_n 3, 1) := by decide +kernel
theorem dL_law_496 : decode cL_law 496 = .ok (.iconst 2, 1) := by decide +kernel
theorem dL_law_497 : decode cL_law 497 = .ok (.iadd, 1) := by decide +kernel
theorem dL_law_498 : decode cL_law 498 = .ok (.iaload, 1) := by decide +kernel
theorem dL_law_499 : decode cL_law 499 = .ok (.aload_n 0, 1) := by decide +kernel
theorem dL_law_500 : decode cL_law 500 = .ok (.iload_n 3, 1) := by decide +kernel
theorem dL_law_501 : decode cL_law 501 = .ok (.iconst 3, 1) := by decide +kernel
theorem dL_law_502 : decode cL_law 502 = .ok (.iadd, 1) := by decide +kernel
theorem dL_law_503 : decode cL_law 503 = .ok (.iaload, 1) := by decide +kernel
theorem dL_law_504 : decode cL_law 504 = .ok (.aload_n 0, 1) := by decide +kernel
theorem dL_law_505 : decode cL_law 505 = .ok (.iload_n 3, 1) := by decide +kernel
theorem dL_law_506 : decode cL_law 506 = .ok (.iconst 4, 1) := by decide +kernel
theorem dL_law_507 : decode cL_law 507 = .ok (.iadd, 1) := by decide +kernel
theorem dL_law_508 : decode cL_law 508 = .ok (.iaload, 1) := by decide +kernel
theorem dL_law_509 : decode cL_law 509 = .ok (.invokevirtual 72, 3) := by decide +kernel
theorem dL_law_512 : decode cL_law 512 = .ok (.if_icmp .eq 266, 3) := by decide +kernel
theorem dL_law_515 : decode cL_law 515 = .ok (.iconst 0, 1) := by decide +kernel
theorem dL_law_516 : decode cL_law 516 = .ok (.ireturn, 1) := by decide +kernel
theorem dL_law_517 : decode cL_law 517 = .ok (.aload_n 1, 1) := by decide +kernel
theorem dL_law_518 : decode cL_law 518 = .ok (.aload_n 0, 1) := by decide +kernel
theorem dL_law_519 : decode cL_law 519 = .ok (.iload_n 3, 1) := by decide +kernel
theorem dL_law_520 : decode cL_law 520 = .ok (.iconst 1, 1) := by decide +kernel
theorem dL_law_521 : decode cL_law 521 = .ok (.iadd, 1) := by decide +kernel
theorem dL_law_522 : decode cL_law 522 = .ok (.iaload, 1) := by decide +kernel
theorem dL_law_523 : decode cL_law 523 = .ok (.aload_n 0, 1) := by decide +kernel
theorem dL_law_524 : decode cL_law 524 = .ok (.iload_n 3, 1) := by decide +kernel
theorem dL_law_525 : decode cL_law 525 = .ok (.iconst 2, 1) := by decide +kernel
theorem dL_law_526 : decode cL_law 526 = .ok (.iadd, 1) := by decide +kernel
theorem dL_law_527 : decode cL_law 527 = .ok (.iaload, 1) := by decide +kernel
theorem dL_law_528 : decode cL_law 528 = .ok (.invokevirtual 73, 3) := by decide +kernel
theorem dL_law_531 : decode cL_law 531 = .ok (.aload_n 2, 1) := by decide +kernel
theorem dL_law_532 : decode cL_law 532 = .ok (.aload_n 0, 1) := by decide +kernel
theorem dL_law_533 : decode cL_law 533 = .ok (.iload_n 3, 1) := by decide +kernel
theorem dL_law_534 : decode cL_law 534 = .ok (.iconst 1, 1) := by decide +kernel
theorem dL_law_535 : decode cL_law 535 = .ok (.iadd, 1) := by decide +kernel
theorem dL_law_536 : decode cL_law 536 = .ok (.iaload, 1) := by decide +kernel
theorem dL_law_537 : decode cL_law 537 = .ok (.aload_n 0, 1) := by decide +kernel
theorem dL_law_538 : decode cL_law 538 = .ok (.iload_n 3, 1) := by decide +kernel
theorem dL_law_539 : decode cL_law 539 = .ok (.iconst 2, 1) := by decide +kernel
theorem dL_law_540 : decode cL_law 540 = .ok (.iadd, 1) := by decide +kernel
theorem dL_law_541 : decode cL_law 541 = .ok (.iaload, 1) := by decide +kernel
theorem dL_law_542 : decode cL_law 542 = .ok (.invokevirtual 76, 3) := by decide +kernel
theorem dL_law_545 : decode cL_law 545 = .ok (.if_icmp .eq 233, 3) := by decide +kernel
theorem dL_law_548 : decode cL_law 548 = .ok (.iconst 0, 1) := by decide +kernel
theorem dL_law_549 : decode cL_law 549 = .ok (.ireturn, 1) := by decide +kernel
theorem dL_law_550 : decode cL_law 550 = .ok (.aload_n 1, 1) := by decide +kernel
theorem dL_law_551 : decode cL_law 551 = .ok (.aload_n 0, 1) := by decide +kernel
theorem dL_law_552 : decode cL_law 552 = .ok (.iload_n 3, 1) := by decide +kernel
theorem dL_law_553 : decode cL_law 553 = .ok (.iconst 1, 1) := by decide +kernel
theorem dL_law_554 : decode cL_law 554 = .ok (.iadd, 1) := by decide +kernel
theorem dL_law_555 : decode cL_law 555 = .ok (.iaload, 1) := by decide +kernel
theorem dL_law_556 : decode cL_law 556 = .ok (.aload_n 0, 1) := by decide +kernel
theorem dL_law_557 : decode cL_law 557 = .ok (.iload_n 3, 1) := by decide +kernel
theorem dL_law_558 : decode cL_law 558 = .ok (.iconst 2, 1) := by decide +kernel
theorem dL_law_559 : decode cL_law 559 = .ok (.iadd, 1) := by decide +kernel
theorem dL_law_560 : decode cL_law 560 = .ok (.iaload, 1) := by decide +kernel
theorem dL_law_561 : decode cL_law 561 = .ok (.aload_n 0, 1) := by decide +kernel
theorem dL_law_562 : decode cL_law 562 = .ok (.iload_n 3, 1) := by decide +kernel
theorem dL_law_563 : decode cL_law 563 = .ok (.iconst 3, 1) := by decide +kernel
theorem dL_law_564 : decode cL_law 564 = .ok (.iadd, 1) := by decide +kernel
theorem dL_law_565 : decode cL_law 565 = .ok (.iaload, 1) := by decide +kernel
theorem dL_law_566 : decode cL_law 566 = .ok (.invokevirtual 77, 3) := by decide +kernel
theorem dL_law_569 : decode cL_law 569 = .ok (.aload_n 2, 1) := by decide +kernel
theorem dL_law_570 : decode cL_law 570 = .ok (.aload_n 0, 1) := by decide +kernel
theorem dL_law_571 : decode cL_law 571 = .ok (.iload_n 3, 1) := by decide +kernel
theorem dL_law_572 : decode cL_law 572 = .ok (.iconst 1, 1) := by decide +kernel
theorem dL_law_573 : decode cL_law 573 = .ok (.iadd, 1) := by decide +kernel
theorem dL_law_574 : decode cL_law 574 = .ok (.iaload, 1) := by decide +kernel
theorem dL_law_575 : decode cL_law 575 = .ok (.aload_n 0, 1) := by decide +kernel
theorem dL_law_576 : decode cL_law 576 = .ok (.iload_n 3, 1) := by decide +kernel
theorem dL_law_577 : decode cL_law 577 = .ok (.iconst 2, 1) := by decide +kernel
theorem dL_law_578 : decode cL_law 578 = .ok (.iadd, 1) := by decide +kernel
theorem dL_law_579 : decode cL_law 579 = .ok (.iaload, 1) := by decide +kernel
theorem dL_law_580 : decode cL_law 580 = .ok (.aload_n 0, 1) := by decide +kernel
theorem dL_law_581 : decode cL_law 581 = .ok (.iload_n 3, 1) := by decide +kernel
theorem dL_law_582 : decode cL_law 582 = .ok (.iconst 3, 1) := by decide +kernel
theorem dL_law_583 : decode cL_law 583 = .ok (.iadd, 1) := by decide +kernel
theorem dL_law_584 : decode cL_law 584 = .ok (.iaload, 1) := by decide +kernel
theorem dL_law_585 : decode cL_law 585 = .ok (.invokevirtual 80, 3) := by decide +kernel
theorem dL_law_588 : decode cL_law 588 = .ok (.if_icmp .eq 190, 3) := by decide +kernel
theorem dL_law_591 : decode cL_law 591 = .ok (.iconst 0, 1) := by decide +kernel
theorem dL_law_592 : decode cL_law 592 = .ok (.ireturn, 1) := by decide +kernel
theorem dL_law_593 : decode cL_law 593 = .ok (.aload_n 1, 1) := by decide +kernel
theorem dL_law_594 : decode cL_law 594 = .ok (.aload_n 0, 1) := by decide +kernel
theorem dL_law_595 : decode cL_law 595 = .ok (.iload_n 3, 1) := by decide +kernel
theorem dL_law_596 : decode cL_law 596 = .ok (.iconst 1, 1) := by decide +kernel
theorem dL_law_597 : decode cL_law 597 = .ok (.iadd, 1) := by decide +kernel
theorem dL_law_598 : decode cL_law 598 = .ok (.iaload, 1) := by decide +kernel
theorem dL_law_599 : decode cL_law 599 = .ok (.aload_n 0, 1) := by decide +kernel
theorem dL_law_600 : decode cL_law 600 = .ok (.iload_n 3, 1) := by decide +kernel
theorem dL_law_601 : decode cL_law 601 = .ok (.iconst 2, 1) := by decide +kernel
theorem dL_law_602 : decode cL_law 602 = .ok (.iadd, 1) := by decide +kernel
theorem dL_law_603 : decode cL_law 603 = .ok (.iaload, 1) := by decide +kernel
theorem dL_law_604 : decode cL_law 604 = .ok (.invokevirtual 81, 3) := by decide +kernel
theorem dL_law_607 : decode cL_law 607 = .ok (.aload_n 2, 1) := by decide +kernel
theorem dL_law_608 : decode cL_law 608 = .ok (.aload_n 0, 1) := by decide +kernel
theorem dL_law_609 : decode cL_law 609 = .ok (.iload_n 3, 1) := by decide +kernel
theorem dL_law_610 : decode cL_law 610 = .ok (.iconst 1, 1) := by decide +kernel
theorem dL_law_611 : decode cL_law 611 = .ok (.iadd, 1) := by decide +kernel
theorem dL_law_612 : decode cL_law 612 = .ok (.iaload, 1) := by decide +kernel
theorem dL_law_613 : decode cL_law 613 = .ok (.aload_n 0, 1) := by decide +kernel
theorem dL_law_614 : decode cL_law 614 = .ok (.iload_n 3, 1) := by decide +kernel
theorem dL_law_615 : decode cL_law 615 = .ok (.iconst 2, 1) := by decide +kernel
theorem dL_law_616 : decode cL_law 616 = .ok (.iadd, 1) := by decide +kernel
theorem dL_law_617 : decode cL_law 617 = .ok (.iaload, 1) := by decide +kernel
theorem dL_law_618 : decode cL_law 618 = .ok (.invokevirtual 84, 3) := by decide +kernel
theorem dL_law_621 : decode cL_law 621 = .ok (.if_icmp .eq 157, 3) := by decide +kernel
theorem dL_law_624 : decode cL_law 624 = .ok (.iconst 0, 1) := by decide +kernel
theorem dL_law_625 : decode cL_law 625 = .ok (.ireturn, 1) := by decide +kernel
theorem dL_law_626 : decode cL_law 626 = .ok (.aload_n 1, 1) := by decide +kernel
theorem dL_law_627 : decode cL_law 627 = .ok (.aload_n 0, 1) := by decide +kernel
theorem dL_law_628 : decode cL_law 628 = .ok (.iload_n 3, 1) := by decide +kernel
theorem dL_law_629 : decode cL_law 629 = .ok (.iconst 1, 1) := by decide +kernel
theorem dL_law_630 : decode cL_law 630 = .ok (.iadd, 1) := by decide +kernel
theorem dL_law_631 : decode cL_law 631 = .ok (.iaload, 1) := by decide +kernel
theorem dL_law_632 : decode cL_law 632 = .ok (.aload_n 0, 1) := by decide +kernel
theorem dL_law_633 : decode cL_law 633 = .ok (.iload_n 3, 1) := by decide +kernel
theorem dL_law_634 : decode cL_law 634 = .ok (.iconst 2, 1) := by decide +kernel
theorem dL_law_635 : decode cL_law 635 = .ok (.iadd, 1) := by decide +kernel
theorem dL_law_636 : decode cL_law 636 = .ok (.iaload, 1) := by decide +kernel
theorem dL_law_637 : decode cL_law 637 = .ok (.aload_n 0, 1) := by decide +kernel
theorem dL_law_638 : decode cL_law 638 = .ok (.iload_n 3, 1) := by decide +kernel
theorem dL_law_639 : decode cL_law 639 = .ok (.iconst 3, 1) := by decide +kernel
theorem dL_law_640 : decode cL_law 640 = .ok (.iadd, 1) := by decide +kernel
theorem dL_law_641 : decode cL_law 641 = .ok (.iaload, 1) := by decide +kernel
theorem dL_law_642 : decode cL_law 642 = .ok (.invokevirtual 85, 3) := by decide +kernel
theorem dL_law_645 : decode cL_law 645 = .ok (.aload_n 2, 1) := by decide +kernel
theorem dL_law_646 : decode cL_law 646 = .ok (.aload_n 0, 1) := by decide +kernel
theorem dL_law_647 : decode cL_law 647 = .ok (.iload_n 3, 1) := by decide +kernel
theorem dL_law_648 : decode cL_law 648 = .ok (.iconst 1, 1) := by decide +kernel
theorem dL_law_649 : decode cL_law 649 = .ok (.iadd, 1) := by decide +kernel
theorem dL_law_650 : decode cL_law 650 = .ok (.iaload, 1) := by decide +kernel
theorem dL_law_651 : decode cL_law 651 = .ok (.aload_n 0, 1) := by decide +kernel
theorem dL_law_652 : decode cL_law 652 = .ok (.iload_n 3, 1) := by decide +kernel
theorem dL_law_653 : decode cL_law 653 = .ok (.iconst 2, 1) := by decide +kernel
theorem dL_law_654 : decode cL_law 654 = .ok (.iadd, 1) := by decide +kernel
theorem dL_law_655 : decode cL_law 655 = .ok (.iaload, 1) := by decide +kernel
theorem dL_law_656 : decode cL_law 656 = .ok (.aload_n 0, 1) := by decide +kernel
theorem dL_law_657 : decode cL_law 657 = .ok (.iload_n 3, 1) := by decide +kernel
theorem dL_law_658 : decode cL_law 658 = .ok (.iconst 3, 1) := by decide +kernel
theorem dL_law_659 : decode cL_law 659 = .ok (.iadd, 1) := by decide +kernel
theorem dL_law_660 : decode cL_law 660 = .ok (.iaload, 1) := by decide +kernel
theorem dL_law_661 : decode cL_law 661 = .ok (.invokevirtual 88, 3) := by decide +kernel
theorem dL_law_664 : decode cL_law 664 = .ok (.if_icmp .eq 114, 3) := by decide +kernel
theorem dL_law_667 : decode cL_law 667 = .ok (.iconst 0, 1) := by decide +kernel
theorem dL_law_668 : decode cL_law 668 = .ok (.ireturn, 1) := by decide +kernel
theorem dL_law_669 : decode cL_law 669 = .ok (.aload_n 1, 1) := by decide +kernel
theorem dL_law_670 : decode cL_law 670 = .ok (.aload_n 0, 1) := by decide +kernel
theorem dL_law_671 : decode cL_law 671 = .ok (.iload_n 3, 1) := by decide +kernel
theorem dL_law_672 : decode cL_law 672 = .ok (.iconst 1, 1) := by decide +kernel
theorem dL_law_673 : decode cL_law 673 = .ok (.iadd, 1) := by decide +kernel
theorem dL_law_674 : decode cL_law 674 = .ok (.iaload, 1) := by decide +kernel
theorem dL_law_675 : decode cL_law 675 = .ok (.invokevirtual 89, 3) := by decide +kernel
theorem dL_law_678 : decode cL_law 678 = .ok (.aload_n 2, 1) := by decide +kernel
theorem dL_law_679 : decode cL_law 679 = .ok (.aload_n 0, 1) := by decide +kernel
theorem dL_law_680 : decode cL_law 680 = .ok (.iload_n 3, 1) := by decide +kernel
theorem dL_law_681 : decode cL_law 681 = .ok (.iconst 1, 1) := by decide +kernel
theorem dL_law_682 : decode cL_law 682 = .ok (.iadd, 1) := by decide +kernel
theorem dL_law_683 : decode cL_law 683 = .ok (.iaload, 1) := by decide +kernel
theorem dL_law_684 : decode cL_law 684 = .ok (.invokevirtual 92, 3) := by decide +kernel
theorem dL_law_687 : decode cL_law 687 = .ok (.if_icmp .eq 91, 3) := by decide +kernel
theorem dL_law_690 : decode cL_law 690 = .ok (.iconst 0, 1) := by decide +kernel
theorem dL_law_691 : decode cL_law 691 = .ok (.ireturn, 1) := by decide +kernel
theorem dL_law_692 : decode cL_law 692 = .ok (.aload_n 1, 1) := by decide +kernel
theorem dL_law_693 : decode cL_law 693 = .ok (.aload_n 0, 1) := by decide +kernel
theorem dL_law_694 : decode cL_law 694 = .ok (.iload_n 3, 1) := by decide +kernel
theorem dL_law_695 : decode cL_law 695 = .ok (.iconst 1, 1) := by decide +kernel
theorem dL_law_696 : decode cL_law 696 = .ok (.iadd, 1) := by decide +kernel
theorem dL_law_697 : decode cL_law 697 = .ok (.iaload, 1) := by decide +kernel
theorem dL_law_698 : decode cL_law 698 = .ok (.aload_n 0, 1) := by decide +kernel
theorem dL_law_699 : decode cL_law 699 = .ok (.iload_n 3, 1) := by decide +kernel
theorem dL_law_700 : decode cL_law 700 = .ok (.iconst 2, 1) := by decide +kernel
theorem dL_law_701 : decode cL_law 701 = .ok (.iadd, 1) := by decide +kernel
theorem dL_law_702 : decode cL_law 702 = .ok (.iaload, 1) := by decide +kernel
theorem dL_law_703 : decode cL_law 703 = .ok (.aload_n 0, 1) := by decide +kernel
theorem dL_law_704 : decode cL_law 704 = .ok (.iload_n 3, 1) := by decide +kernel
theorem dL_law_705 : decode cL_law 705 = .ok (.iconst 3, 1) := by decide +kernel
theorem dL_law_706 : decode cL_law 706 = .ok (.iadd, 1) := by decide +kernel
theorem dL_law_707 : decode cL_law 707 = .ok (.iaload, 1) := by decide +kernel
theorem dL_law_708 : decode cL_law 708 = .ok (.aload_n 0, 1) := by decide +kernel
theorem dL_law_709 : decode cL_law 709 = .ok (.iload_n 3, 1) := by decide +kernel
theorem dL_law_710 : decode cL_law 710 = .ok (.iconst 4, 1) := by decide +kernel
theorem dL_law_711 : decode cL_law 711 = .ok (.iadd, 1) := by decide +kernel
theorem dL_law_712 : decode cL_law 712 = .ok (.iaload, 1) := by decide +kernel
theorem dL_law_713 : decode cL_law 713 = .ok (.aload_n 0, 1) := by decide +kernel
theorem dL_law_714 : decode cL_law 714 = .ok (.iload_n 3, 1) := by decide +kernel
theorem dL_law_715 : decode cL_law 715 = .ok (.iconst 5, 1) := by decide +kernel
theorem dL_law_716 : decode cL_law 716 = .ok (.iadd, 1) := by decide +kernel
theorem dL_law_717 : decode cL_law 717 = .ok (.iaload, 1) := by decide +kernel
theorem dL_law_718 : decode cL_law 718 = .ok (.invokevirtual 93, 3) := by decide +kernel
theorem dL_law_721 : decode cL_law 721 = .ok (.aload_n 2, 1) := by decide +kernel
theorem dL_law_722 : decode cL_law 722 = .ok (.aload_n 0, 1) := by decide +kernel
theorem dL_law_723 : decode cL_law 723 = .ok (.iload_n 3, 1) := by decide +kernel
theorem dL_law_724 : decode cL_law 724 = .ok (.iconst 1, 1) := by decide +kernel
theorem dL_law_725 : decode cL_law 725 = .ok (.iadd, 1) := by decide +kernel
theorem dL_law_726 : decode cL_law 726 = .ok (.iaload, 1) := by decide +kernel
theorem dL_law_727 : decode cL_law 727 = .ok (.aload_n 0, 1) := by decide +kernel
theorem dL_law_728 : decode cL_law 728 = .ok (.iload_n 3, 1) := by decide +kernel
theorem dL_law_729 : decode cL_law 729 = .ok (.iconst 2, 1) := by decide +kernel
theorem dL_law_730 : decode cL_law 730 = .ok (.iadd, 1) := by decide +kernel
theorem dL_law_731 : decode cL_law 731 = .ok (.iaload, 1) := by decide +kernel
theorem dL_law_732 : decode cL_law 732 = .ok (.aload_n 0, 1) := by decide +kernel
theorem dL_law_733 : decode cL_law 733 = .ok (.iload_n 3, 1) := by decide +kernel
theorem dL_law_734 : decode cL_law 734 = .ok (.iconst 3, 1) := by decide +kernel
theorem dL_law_735 : decode cL_law 735 = .ok (.iadd, 1) := by decide +kernel
theorem dL_law_736 : decode cL_law 736 = .ok (.iaload, 1) := by decide +kernel
theorem dL_law_737 : decode cL_law 737 = .ok (.aload_n 0, 1) := by decide +kernel
theorem dL_law_738 : decode cL_law 738 = .ok (.iload_n 3, 1) := by decide +kernel
theorem dL_law_739 : decode cL_law 739 = .ok (.iconst 4, 1) := by decide +kernel
theorem dL_law_740 : decode cL_law 740 = .ok (.iadd, 1) := by decide +kernel
theorem dL_law_741 : decode cL_law 741 = .ok (.iaload, 1) := by decide +kernel
theorem dL_law_742 : decode cL_law 742 = .ok (.aload_n 0, 1) := by decide +kernel
theorem dL_law_743 : decode cL_law 743 = .ok (.iload_n 3, 1) := by decide +kernel
theorem dL_law_744 : decode cL_law 744 = .ok (.iconst 5, 1) := by decide +kernel
theorem dL_law_745 : decode cL_law 745 = .ok (.iadd, 1) := by decide +kernel
theorem dL_law_746 : decode cL_law 746 = .ok (.iaload, 1) := by decide +kernel
theorem dL_law_747 : decode cL_law 747 = .ok (.invokevirtual 97, 3) := by decide +kernel
theorem dL_law_750 : decode cL_law 750 = .ok (.if_icmp .eq 28, 3) := by decide +kernel
theorem dL_law_753 : decode cL_law 753 = .ok (.iconst 0, 1) := by decide +kernel
theorem dL_law_754 : decode cL_law 754 = .ok (.ireturn, 1) := by decide +kernel
theorem dL_law_755 : decode cL_law 755 = .ok (.aload_n 1, 1) := by decide +kernel
theorem dL_law_756 : decode cL_law 756 = .ok (.aload_n 0, 1) := by decide +kernel
theorem dL_law_757 : decode cL_law 757 = .ok (.iload_n 3, 1) := by decide +kernel
theorem dL_law_758 : decode cL_law 758 = .ok (.iconst 1, 1) := by decide +kernel
theorem dL_law_759 : decode cL_law 759 = .ok (.iadd, 1) := by decide +kernel
theorem dL_law_760 : decode cL_law 760 = .ok (.iaload, 1) := by decide +kernel
theorem dL_law_761 : decode cL_law 761 = .ok (.invokevirtual 98, 3) := by decide +kernel
theorem dL_law_764 : decode cL_law 764 = .ok (.aload_n 2, 1) := by decide +kernel
theorem dL_law_765 : decode cL_law 765 = .ok (.aload_n 0, 1) := by decide +kernel
theorem dL_law_766 : decode cL_law 766 = .ok (.iload_n 3, 1) := by decide +kernel
theorem dL_law_767 : decode cL_law 767 = .ok (.iconst 1, 1) := by decide +kernel
theorem dL_law_768 : decode cL_law 768 = .ok (.iadd, 1) := by decide +kernel
theorem dL_law_769 : decode cL_law 769 = .ok (.iaload, 1) := by decide +kernel
theorem dL_law_770 : decode cL_law 770 = .ok (.invokevirtual 101, 3) := by decide +kernel
theorem dL_law_773 : decode cL_law 773 = .ok (.if_icmp .eq 5, 3) := by decide +kernel
theorem dL_law_776 : decode cL_law 776 = .ok (.iconst 0, 1) := by decide +kernel
theorem dL_law_777 : decode cL_law 777 = .ok (.ireturn, 1) := by decide +kernel
theorem dL_law_778 : decode cL_law 778 = .ok (.iinc 3 6, 3) := by decide +kernel
theorem dL_law_781 : decode cL_law 781 = .ok (.goto (-763), 3) := by decide +kernel
theorem dL_law_784 : decode cL_law 784 = .ok (.iconst 1, 1) := by decide +kernel
theorem dL_law_785 : decode cL_law 785 = .ok (.ireturn, 1) := by decide +kernel
end
section
/-! THE GRAPH: HotWeek 0, Text 1, text.bytes 2, Reader 3, reader.kinds 4, reader.numbers 5, reader.numbers0 6, House 14, house.told 15, house.firstAir 16, house.firstWall 17, house.side 18, house.folk 19, house.habit 20, house.openHours 21, house.shutHours 22, house.passes 23, house.passes0 24, Plan 29, plan.habit 30, plan.openHours 31, plan.leaks 32, plan.sun 33, plan.sun0 34, plan.sky 39, Course.told 40, told.air 41, told.wall 42, told.open 43, told.air0 44, told.wall0 49, told.open0 54, Course.tried 59, tried.air 60, tried.wall 61, tried.open 62, tried.air0 63, tried.wall0 68, tried.open0 73, BestClock 78, Works 79, works.room 80, works.cost 81, works.sun 82, works.leak 83, Glasses 84, glasses.room 85, glasses.hour 86, glasses.air 87, Rings 88, rings.weight 89, rings.due 90, rings.leastLost 91, Street 92, Model 93, m.room 94, m.habit 95, m.open 96, m.shut 97, m.door 98, m.text 99, m.read 100, m.air 101, m.wall 102, m.isOpen 103, m.airNow 104, m.wallNow 105, m.airThen 106, m.wallThen 107, m.habitNow 108, m.openNow 109, m.workRoom 110, m.workCost 111, m.workSun 112, m.workLeak 113, m.rowRoom 114, m.rowHour 115, m.rowAir 116, m.weight 117, m.due 118, m.rest 119, m.learnt 120 -/
def hT : List (Nat × Nat × List Nat) := [
  (0, 10, [3, 5, 16, 31, 42, 61, 80, 81, 86, 90, 94, 0]),
  (0, 8, [4, 0]),
  (1, 200, []),
  (0, 5, [6, 7, 0, 0]),
  (1, 8, []),
  (3, 8, [6]),
  (1, 5, []),
  (1, 5, []),
  (1, 5, []),
  (1, 5, []),
  (1, 5, []),
  (1, 5, []),
  (1, 5, []),
  (1, 5, []),
  (0, 3, [17, 18, 19, 20, 21, 22, 23, 24, 25, 0, 0, 0, 0, 0, 0, 0, 0, 0]),
  (2, 5, []),
  (1, 5, []),
  (1, 5, []),
  (1, 5, []),
  (1, 5, []),
  (1, 5, []),
  (1, 5, []),
  (1, 5, []),
  (3, 5, [24]),
  (1, 5, []),
  (1, 5, []),
  (1, 5, []),
  (1, 5, []),
  (1, 5, []),
  (0, 4, [32, 33, 34, 35, 41, 0, 0]),
  (1, 5, []),
  (1, 5, []),
  (1, 5, []),
  (3, 5, [34]),
  (1, 24, []),
  (1, 24, []),
  (1, 24, []),
  (1, 24, []),
  (1, 24, []),
  (1, 96, []),
  (0, 1, [43, 44, 45]),
  (3, 5, [44]),
  (3, 5, [49]),
  (3, 5, [54]),
  (1, 97, []),
  (1, 97, []),
  (1, 97, []),
  (1, 97, []),
  (1, 97, []),
  (1, 97, []),
  (1, 97, []),
  (1, 97, []),
  (1, 97, []),
  (1, 97, []),
  (1, 96, []),
  (1, 96, []),
  (1, 96, []),
  (1, 96, []),
  (1, 96, []),
  (0, 1, [62, 63, 64]),
  (3, 5, [63]),
  (3, 5, [68]),
  (3, 5, [73]),
  (1, 97, []),
  (1, 97, []),
  (1, 97, []),
  (1, 97, []),
  (1, 97, []),
  (1, 97, []),
  (1, 97, []),
  (1, 97, []),
  (1, 97, []),
  (1, 97, []),
  (1, 96, []),
  (1, 96, []),
  (1, 96, []),
  (1, 96, []),
  (1, 96, []),
  (0, 0, [0, 0, 0, 0, 0]),
  (0, 9, [82, 83, 84, 85, 0, 0, 0]),
  (1, 6, []),
  (1, 6, []),
  (1, 6, []),
  (1, 6, []),
  (0, 2, [87, 88, 89, 0, 0, 0, 0, 0, 0]),
  (1, 8, []),
  (1, 8, []),
  (1, 8, []),
  (0, 6, [91, 92, 93]),
  (1, 8, []),
  (1, 8, []),
  (1, 256, []),
  (0, 7, [0, 0, 0, 0, 0, 0, 0, 0]),
  (0, 11, [0, 96, 97, 98, 99, 100, 0, 0, 0, 0, 0, 0, 0, 0, 0, 0, 101, 0, 0, 1, 0, 0, 0, 0, 102, 103, 104, 105, 106, 107, 108, 109, 0, 110, 111, 0, 112, 113, 114, 115, 0, 116, 117, 118, 119, 120, 121, 122]),
  (1, 20, []),
  (1, 5, []),
  (1, 5, []),
  (1, 5, []),
  (1, 25, []),
  (1, 200, []),
  (1, 48, []),
  (1, 480, []),
  (1, 480, []),
  (1, 480, []),
  (1, 5, []),
  (1, 5, []),
  (1, 5, []),
  (1, 5, []),
  (1, 5, []),
  (1, 5, []),
  (1, 6, []),
  (1, 6, []),
  (1, 6, []),
  (1, 6, []),
  (1, 8, []),
  (1, 8, []),
  (1, 8, []),
  (1, 8, []),
  (1, 8, []),
  (1, 256, []),
  (1, 5, [])]
theorem hT_len : hT.length = 121 := rfl
theorem sh_0 : hT[0]? = some (0, 10, [3, 5, 16, 31, 42, 61, 80, 81, 86, 90, 94, 0]) := rfl
theorem sh_1 : hT[1]? = some (0, 8, [4, 0]) := rfl
theorem sh_2 : hT[2]? = some (1, 200, []) := rfl
theorem sh_3 : hT[3]? = some (0, 5, [6, 7, 0, 0]) := rfl
theorem sh_4 : hT[4]? = some (1, 8, []) := rfl
theorem sh_5 : hT[5]? = some (3, 8, [6]) := rfl
theorem sh_6 : hT[6]? = some (1, 5, []) := rfl
theorem sh_7 : hT[7]? = some (1, 5, []) := rfl
theorem sh_8 : hT[8]? = some (1, 5, []) := rfl
theorem sh_9 : hT[9]? = some (1, 5, []) := rfl
theorem sh_10 : hT[10]? = some (1, 5, []) := rfl
theorem sh_11 : hT[11]? = some (1, 5, []) := rfl
theorem sh_12 : hT[12]? = some (1, 5, []) := rfl
theorem sh_13 : hT[13]? = some (1, 5, []) := rfl
theorem sh_14 : hT[14]? = some (0, 3, [17, 18, 19, 20, 21, 22, 23, 24, 25, 0, 0, 0, 0, 0, 0, 0, 0, 0]) := rfl
theorem sh_15 : hT[15]? = some (2, 5, []) := rfl
theorem sh_16 : hT[16]? = some (1, 5, []) := rfl
theorem sh_17 : hT[17]? = some (1, 5, []) := rfl
theorem sh_18 : hT[18]? = some (1, 5, []) := rfl
theorem sh_19 : hT[19]? = some (1, 5, []) := rfl
theorem sh_20 : hT[20]? = some (1, 5, []) := rfl
theorem sh_21 : hT[21]? = some (1, 5, []) := rfl
theorem sh_22 : hT[22]? = some (1, 5, []) := rfl
theorem sh_23 : hT[23]? = some (3, 5, [24]) := rfl
theorem sh_24 : hT[24]? = some (1, 5, []) := rfl
theorem sh_25 : hT[25]? = some (1, 5, []) := rfl
theorem sh_26 : hT[26]? = some (1, 5, []) := rfl
theorem sh_27 : hT[27]? = some (1, 5, []) := rfl
theorem sh_28 : hT[28]? = some (1, 5, []) := rfl
theorem sh_29 : hT[29]? = some (0, 4, [32, 33, 34, 35, 41, 0, 0]) := rfl
theorem sh_30 : hT[30]? = some (1, 5, []) := rfl
theorem sh_31 : hT[31]? = some (1, 5, []) := rfl
theorem sh_32 : hT[32]? = some (1, 5, []) := rfl
theorem sh_33 : hT[33]? = some (3, 5, [34]) := rfl
theorem sh_34 : hT[34]? = some (1, 24, []) := rfl
theorem sh_35 : hT[35]? = some (1, 24, []) := rfl
theorem sh_36 : hT[36]? = some (1, 24, []) := rfl
theorem sh_37 : hT[37]? = some (1, 24, []) := rfl
theorem sh_38 : hT[38]? = some (1, 24, []) := rfl
theorem sh_39 : hT[39]? = some (1, 96, []) := rfl
theorem sh_40 : hT[40]? = some (0, 1, [43, 44, 45]) := rfl
theorem sh_41 : hT[41]? = some (3, 5, [44]) := rfl
theorem sh_42 : hT[42]? = some (3, 5, [49]) := rfl
theorem sh_43 : hT[43]? = some (3, 5, [54]) := rfl
theorem sh_44 : hT[44]? = some (1, 97, []) := rfl
theorem sh_45 : hT[45]? = some (1, 97, []) := rfl
theorem sh_46 : hT[46]? = some (1, 97, []) := rfl
theorem sh_47 : hT[47]? = some (1, 97, []) := rfl
theorem sh_48 : hT[48]? = some (1, 97, []) := rfl
theorem sh_49 : hT[49]? = some (1, 97, []) := rfl
theorem sh_50 : hT[50]? = some (1, 97, []) := rfl
theorem sh_51 : hT[51]? = some (1, 97, []) := rfl
theorem sh_52 : hT[52]? = some (1, 97, []) := rfl
theorem sh_53 : hT[53]? = some (1, 97, []) := rfl
theorem sh_54 : hT[54]? = some (1, 96, []) := rfl
theorem sh_55 : hT[55]? = some (1, 96, []) := rfl
theorem sh_56 : hT[56]? = some (1, 96, []) := rfl
theorem sh_57 : hT[57]? = some (1, 96, []) := rfl
theorem sh_58 : hT[58]? = some (1, 96, []) := rfl
theorem sh_59 : hT[59]? = some (0, 1, [62, 63, 64]) := rfl
theorem sh_60 : hT[60]? = some (3, 5, [63]) := rfl
theorem sh_61 : hT[61]? = some (3, 5, [68]) := rfl
theorem sh_62 : hT[62]? = some (3, 5, [73]) := rfl
theorem sh_63 : hT[63]? = some (1, 97, []) := rfl
theorem sh_64 : hT[64]? = some (1, 97, []) := rfl
theorem sh_65 : hT[65]? = some (1, 97, []) := rfl
theorem sh_66 : hT[66]? = some (1, 97, []) := rfl
theorem sh_67 : hT[67]? = some (1, 97, []) := rfl
theorem sh_68 : hT[68]? = some (1, 97, []) := rfl
theorem sh_69 : hT[69]? = some (1, 97, []) := rfl
theorem sh_70 : hT[70]? = some (1, 97, []) := rfl
theorem sh_71 : hT[71]? = some (1, 97, []) := rfl
theorem sh_72 : hT[72]? = some (1, 97, []) := rfl
theorem sh_73 : hT[73]? = some (1, 96, []) := rfl
theorem sh_74 : hT[74]? = some (1, 96, []) := rfl
theorem sh_75 : hT[75]? = some (1, 96, []) := rfl
theorem sh_76 : hT[76]? = some (1, 96, []) := rfl
theorem sh_77 : hT[77]? = some (1, 96, []) := rfl
theorem sh_78 : hT[78]? = some (0, 0, [0, 0, 0, 0, 0]) := rfl
theorem sh_79 : hT[79]? = some (0, 9, [82, 83, 84, 85, 0, 0, 0]) := rfl
theorem sh_80 : hT[80]? = some (1, 6, []) := rfl
theorem sh_81 : hT[81]? = some (1, 6, []) := rfl
theorem sh_82 : hT[82]? = some (1, 6, []) := rfl
theorem sh_83 : hT[83]? = some (1, 6, []) := rfl
theorem sh_84 : hT[84]? = some (0, 2, [87, 88, 89, 0, 0, 0, 0, 0, 0]) := rfl
theorem sh_85 : hT[85]? = some (1, 8, []) := rfl
theorem sh_86 : hT[86]? = some (1, 8, []) := rfl
theorem sh_87 : hT[87]? = some (1, 8, []) := rfl
theorem sh_88 : hT[88]? = some (0, 6, [91, 92, 93]) := rfl
theorem sh_89 : hT[89]? = some (1, 8, []) := rfl
theorem sh_90 : hT[90]? = some (1, 8, []) := rfl
theorem sh_91 : hT[91]? = some (1, 256, []) := rfl
theorem sh_92 : hT[92]? = some (0, 7, [0, 0, 0, 0, 0, 0, 0, 0]) := rfl
theorem sh_93 : hT[93]? = some (0, 11, [0, 96, 97, 98, 99, 100, 0, 0, 0, 0, 0, 0, 0, 0, 0, 0, 101, 0, 0, 1, 0, 0, 0, 0, 102, 103, 104, 105, 106, 107, 108, 109, 0, 110, 111, 0, 112, 113, 114, 115, 0, 116, 117, 118, 119, 120, 121, 122]) := rfl
theorem sh_94 : hT[94]? = some (1, 20, []) := rfl
theorem sh_95 : hT[95]? = some (1, 5, []) := rfl
theorem sh_96 : hT[96]? = some (1, 5, []) := rfl
theorem sh_97 : hT[97]? = some (1, 5, []) := rfl
theorem sh_98 : hT[98]? = some (1, 25, []) := rfl
theorem sh_99 : hT[99]? = some (1, 200, []) := rfl
theorem sh_100 : hT[100]? = some (1, 48, []) := rfl
theorem sh_101 : hT[101]? = some (1, 480, []) := rfl
theorem sh_102 : hT[102]? = some (1, 480, []) := rfl
theorem sh_103 : hT[103]? = some (1, 480, []) := rfl
theorem sh_104 : hT[104]? = some (1, 5, []) := rfl
theorem sh_105 : hT[105]? = some (1, 5, []) := rfl
theorem sh_106 : hT[106]? = some (1, 5, []) := rfl
theorem sh_107 : hT[107]? = some (1, 5, []) := rfl
theorem sh_108 : hT[108]? = some (1, 5, []) := rfl
theorem sh_109 : hT[109]? = some (1, 5, []) := rfl
theorem sh_110 : hT[110]? = some (1, 6, []) := rfl
theorem sh_111 : hT[111]? = some (1, 6, []) := rfl
theorem sh_112 : hT[112]? = some (1, 6, []) := rfl
theorem sh_113 : hT[113]? = some (1, 6, []) := rfl
theorem sh_114 : hT[114]? = some (1, 8, []) := rfl
theorem sh_115 : hT[115]? = some (1, 8, []) := rfl
theorem sh_116 : hT[116]? = some (1, 8, []) := rfl
theorem sh_117 : hT[117]? = some (1, 8, []) := rfl
theorem sh_118 : hT[118]? = some (1, 8, []) := rfl
theorem sh_119 : hT[119]? = some (1, 256, []) := rfl
theorem sh_120 : hT[120]? = some (1, 5, []) := rfl
def hBnd : List Int32 := [4, 600, 600, 3, 9, 4, 4, 10, -1, -1, 500, 500, 50, -1, -1, 99, -1, -1, -1, -1, 40, 40, 20, 40, -1, 4, 3, -1, -1, -1, 4, 23, 23, -1, -1, 4, 23, 23, -1, -1, 23, 23, -1, -1, -1, 4, -1, -1, -1, -1]
def hIdx : List Nat := [71, 73, 75, 77, 78, 80, 81, 83, 85, 87]
def hTxt : List String := ["room", "door", "sky", "sun", "house", "habit", "open", "shut", "home", "bare"]
def hLen : List Nat := [4, 4, 3, 3, 5, 5, 4, 4, 4, 4]
def hByt : List (List Int32) := [[114, 111, 111, 109], [100, 111, 111, 114], [115, 107, 121], [115, 117, 110], [104, 111, 117, 115, 101], [104, 97, 98, 105, 116], [111, 112, 101, 110], [115, 104, 117, 116], [104, 111, 109, 101], [98, 97, 114, 101]]
def hNest : List (String × Nat × MethodName × String) := [(RX5, 67, yX10_isWithin, "HotWeek"), (RX3, 93, yX10_hoursFrom, "HotWeek"), (RX3, 104, yX10_isWithin, "HotWeek"), (RX3, 101, yX10_hasBit, "HotWeek"), (RX1, 48, yX10_hasBit, "HotWeek"), (RX4, 70, yX10_hasBit, "HotWeek"), (RX0, 38, yX10_hoursFrom, "HotWeek"), (RX9, 65, yX10_hasBit, "HotWeek"), (RX6, 39, yX10_hasBit, "HotWeek"), (RX7, 48, yX10_hasBit, "HotWeek")]
/-! The abstract machine: every object is made in the constructors and every field that holds a reference is final, so the world is a fixed graph of cells (numbers 0 .. 120) whose numbers are a function M; a judgement J (place, locals, stack, M) with a row for each instruction. -/
abbrev hM : Type := Nat → Nat → Int32
def mu (M : hM) (a k : Nat) (x : Int32) : hM := fun b j => if b = a ∧ j = k then x else M b j
theorem mu_s {M : hM} {a k : Nat} {x : Int32} : mu M a k x a k = x := if_pos ⟨rfl, rfl⟩
theorem mu_k {M : hM} {a k b j : Nat} {x : Int32} (h : j ≠ k) : mu M a k x b j = M b j := if_neg fun q => h q.2
theorem mu_a {M : hM} {a k b j : Nat} {x : Int32} (h : b ≠ a) : mu M a k x b j = M b j := if_neg fun q => h q.1
def hiW (x : Int64) : Int32 := Int32.ofNat (x.toUInt64.toNat / 4294967296)
def loW (x : Int64) : Int32 := Int32.ofNat (x.toUInt64.toNat % 4294967296)
def mkL (hi lo : Int32) : Int64 := (UInt64.ofNat (hi.toUInt32.toNat * 4294967296 + lo.toUInt32.toNat)).toInt64
theorem mkL_hl (x : Int64) : mkL (hiW x) (loW x) = x := by
  have h1 : ∀ n : Nat, n < 4294967296 → (Int32.ofNat n).toUInt32.toNat = n := fun n hn => by
    show ((Int32.ofNat n).toUInt32).toNat = n
    have : (Int32.ofNat n).toUInt32 = UInt32.ofNat n := rfl
    rw [this]
    first
      | exact UInt32.toNat_ofNat_of_lt' hn
      | (rw [UInt32.toNat_ofNat']; exact Nat.mod_eq_of_lt hn)
      | (simp; omega)
  have hx : x.toUInt64.toNat < 18446744073709551616 := x.toUInt64.toNat_lt
  unfold mkL hiW loW
  rw [h1 _ (by omega), h1 _ (by omega), show x.toUInt64.toNat / 4294967296 * 4294967296 + x.toUInt64.toNat % 4294967296 = x.toUInt64.toNat by omega]
  rw [UInt64.ofNat_toNat]
  exact Int64.toInt64_toUInt64 x
abbrev hSh : Type := Nat × Nat × List Nat
/-- an address of the graph in the heap -/
def cv (ρ : Nat → Nat) : Value → Value
  | .ref a => .ref (ρ a)
  | v => v
theorem cv_cat (ρ : Nat → Nat) (v : Value) : (cv ρ v).category = v.category := by cases v <;> rfl
/-- a field's value: 0 an int, 1 a long, b + 2 the cell b -/
def fva (M : hM) (a k : Nat) : Nat → Value
  | 0 => .int (M a k)
  | 1 => .long (mkL (M a k) (M a (k + 1000)))
  | b + 2 => .ref b
def fvs (ρ : Nat → Nat) (M : hM) (a : Nat) : Nat → List Nat → List Value
  | _, [] => []
  | k, f :: fs => cv ρ (fva M a k f) :: fvs ρ M a (k + 1) fs
theorem fvs_len (ρ : Nat → Nat) (M : hM) (a : Nat) : ∀ (fs : List Nat) (k : Nat), (fvs ρ M a k fs).length = fs.length
  | [], _ => rfl
  | _ :: fs, k => congrArg Nat.succ (fvs_len ρ M a fs (k + 1))
theorem fvs_get (ρ : Nat → Nat) (M : hM) (a : Nat) : ∀ (fs : List Nat) (k j : Nat), (fvs ρ M a k fs)[j]? = (fs[j]?).map (fun f => cv ρ (fva M a (k + j) f))
  | [], _, _ => rfl
  | _ :: _, _, 0 => rfl
  | f :: fs, k, j + 1 => by
    show (fvs ρ M a (k + 1) fs)[j]? = (fs[j]?).map _
    rw [fvs_get ρ M a fs (k + 1) j, Nat.add_right_comm]
    rfl
/-- what a cell is: (0, class, fields), (1, n, []) ints, (2, n, []) booleans, (3, n, [b]) rows b, b + 1 .. -/
def hE (cI cZ cQ : ClassId) (ρ : Nat → Nat) (M : hM) (a : Nat) : hSh → va_E
  | (0, ci, fs) => .inr (ci, fvs ρ M a 0 fs)
  | (1, n, _) => .inl (cI, n, .inl (M a))
  | (2, n, _) => .inl (cZ, n, .inl (M a))
  | (_ + 3, n, fs) => .inl (cQ, n, .inr (.inr (.inr (.inr (fun i => if i < n then some (ρ (fs.headD 0 + i)) else none)))))
def hW (cI cZ cQ : ClassId) (ρ : Nat → Nat) (M : hM) : va_W := (List.range hT.length).map (fun a => (ρ a, hE cI cZ cQ ρ M a (hT.getD a (0, 0, []))))
theorem hW_len (cI cZ cQ : ClassId) (ρ : Nat → Nat) (M : hM) : (hW cI cZ cQ ρ M).length = hT.length := by simp [hW]
theorem hW_get (cI cZ cQ : ClassId) (ρ : Nat → Nat) (M : hM) {a : Nat} {sh : hSh} (h : hT[a]? = some sh) : (hW cI cZ cQ ρ M)[a]? = some (ρ a, hE cI cZ cQ ρ M a sh) := by
  have hl : a < hT.length := (List.getElem?_eq_some_iff.mp h).1
  unfold hW
  rw [List.getElem?_map, List.getElem?_range hl]
  show some (ρ a, hE cI cZ cQ ρ M a (hT.getD a (0, 0, []))) = _
  rw [List.getD_eq_getElem?_getD, h]
  rfl
theorem hW_inv (cI cZ cQ : ClassId) (ρ : Nat → Nat) (M : hM) {k : Nat} {q : Nat × va_E} (h : (hW cI cZ cQ ρ M)[k]? = some q) : k < hT.length ∧ q.1 = ρ k := by
  have hl : k < (hW cI cZ cQ ρ M).length := (List.getElem?_eq_some_iff.mp h).1
  rw [hW_len] at hl
  refine ⟨hl, ?_⟩
  unfold hW at h
  rw [List.getElem?_map, List.getElem?_range hl] at h
  cases h
  rfl
theorem hW_put (cI cZ cQ : ClassId) (ρ : Nat → Nat) (M M' : hM) {a : Nat} {e : va_E} {sh : hSh} (h : hT[a]? = some sh) (he : hE cI cZ cQ ρ M' a sh = e) (ho : ∀ b, b ≠ a → ∀ s2, hE cI cZ cQ ρ M' b s2 = hE cI cZ cQ ρ M b s2) : (hW cI cZ cQ ρ M).set a (ρ a, e) = hW cI cZ cQ ρ M' := by
  have hl : a < hT.length := (List.getElem?_eq_some_iff.mp h).1
  apply List.ext_getElem?
  intro k
  by_cases hk : k < hT.length
  · obtain ⟨s2, hs2⟩ : ∃ s2, hT[k]? = some s2 := ⟨hT[k], List.getElem?_eq_getElem hk⟩
    rw [hW_get cI cZ cQ ρ M' hs2]
    by_cases e2 : k = a
    · subst e2
      rw [List.getElem?_set_self (by rw [hW_len]; exact hk)]
      cases h.symm.trans hs2
      rw [he]
    · rw [List.getElem?_set_ne (fun q => e2 q.symm), hW_get cI cZ cQ ρ M hs2, ho k e2]
  · rw [List.getElem?_eq_none (by rw [List.length_set, hW_len]; omega), List.getElem?_eq_none (by rw [hW_len]; omega)]
theorem fvs_off (ρ : Nat → Nat) (M : hM) {a a0 k0 : Nat} {x : Int32} (h : a ≠ a0) : ∀ (fs : List Nat) (k : Nat), fvs ρ (mu M a0 k0 x) a k fs = fvs ρ M a k fs
  | [], _ => rfl
  | f :: fs, k => by
    show _ :: _ = _ :: _
    rw [fvs_off ρ M h fs (k + 1)]
    congr 1
    match f with
    | 0 => show cv ρ (.int _) = cv ρ (.int _); rw [mu_a h]
    | 1 => show cv ρ (.long _) = cv ρ (.long _); rw [mu_a h, mu_a h]
    | b + 2 => rfl
theorem hE_off (cI cZ cQ : ClassId) (ρ : Nat → Nat) (M : hM) {a0 k0 : Nat} {x : Int32} : ∀ b, b ≠ a0 → ∀ s2, hE cI cZ cQ ρ (mu M a0 k0 x) b s2 = hE cI cZ cQ ρ M b s2 := by
  intro b hb s2
  obtain ⟨t, n, fs⟩ := s2
  have e : mu M a0 k0 x b = M b := funext fun j => mu_a hb
  match t with
  | 0 => show Sum.inr (n, fvs ρ (mu M a0 k0 x) b 0 fs) = Sum.inr (n, fvs ρ M b 0 fs); rw [fvs_off ρ M hb fs 0]
  | 1 => show Sum.inl (cI, n, Sum.inl (mu M a0 k0 x b)) = _; rw [e]; rfl
  | 2 => show Sum.inl (cZ, n, Sum.inl (mu M a0 k0 x b)) = _; rw [e]; rfl
  | t + 3 => rfl
theorem fvs_put (ρ : Nat → Nat) (M : hM) (a : Nat) {k0 : Nat} {x : Int32} : ∀ (fs : List Nat) (k j : Nat), k + j = k0 → fs[j]? = some 0 → (∀ f ∈ fs, f = 1 → k0 < 1000) → (∀ i, fs[i]? = some 1 → k + i < 1000) → (fvs ρ M a k fs).set j (.int x) = fvs ρ (mu M a k0 x) a k fs := by
  intro fs k j e hj h1 h2
  apply List.ext_getElem?
  intro i
  rw [fvs_get ρ (mu M a k0 x) a fs k i]
  by_cases hij : i = j
  · subst hij
    have hl : i < (fvs ρ M a k fs).length := by rw [fvs_len]; exact (List.getElem?_eq_some_iff.mp hj).1
    rw [List.getElem?_set_self hl, hj]
    subst e
    show some (Value.int x) = some (cv ρ (.int (mu M a (k + i) x a (k + i))))
    rw [mu_s]; rfl
  · rw [List.getElem?_set_ne (Ne.symm hij), fvs_get ρ M a fs k i]
    cases hf : fs[i]? with
    | none => rfl
    | some f =>
      show some _ = some _
      congr 1
      have hne : k + i ≠ k0 := by omega
      match f with
      | 0 => show cv ρ (.int _) = cv ρ (.int _); rw [mu_k hne]
      | 1 =>
        have g1 := h1 1 (List.mem_of_getElem? hf) rfl
        have g2 := h2 i hf
        show cv ρ (.long _) = cv ρ (.long _); rw [mu_k hne, mu_k (show k + i + 1000 ≠ k0 by omega)]
      | b + 2 => rfl
/-- the statics that are read: BOUNDS (540), the words (500 + i, their bytes 520 + i), COMPACT_STRINGS; the links between nest mates -/
def hSd (ρ : Nat → Nat) (A : Nat → Prop) (U : State) (H : Heap) : Prop :=
  va_Z "java/lang/String" "COMPACT_STRINGS" "Z" (.int 1) A U H ∧ (va_Z "HotWeek$Reader" "BOUNDS" "[I" (.ref (ρ 540)) A U H ∧ va_T .int (ρ 540) 50 (fun j => .int (hBnd.getD j 0)) A U H) ∧
  vk_S 10 hLen hByt (fun i => ρ (500 + i)) (fun i => ρ (520 + i)) A U H ∧ (∀ i, i < 10 → vk_R RX3 (hIdx.getD i 0) (hTxt.getD i "") (ρ (500 + i)) U) ∧ ∀ q ∈ hNest, va_Nw (.methodLinkNest q.1 q.2.1 q.2.2.1 q.2.2.2) U
theorem hSd_go {ρ : Nat → Nat} {A B : Nat → Prop} {s U : State} {H H1 : Heap} (h : hSd ρ A s H) (hW : s.WarmedH U.vm) (hq : ∀ a : Nat, a < H.size → ¬ A a → H1[a]? = H[a]?) (hAB : ∀ q, B q → A q) : hSd ρ B U H1 := by
  obtain ⟨h1, ⟨h2, h3⟩, h4, h5, h6⟩ := h
  refine ⟨((va_Z.moved hW.alike h1).kept hq).narrow hAB, ⟨((va_Z.moved hW.alike h2).kept hq).narrow hAB, ((va_T.moved hW.alike h3).kept hq).narrow hAB⟩, ((vk_S.moved hW.alike h4).kept hq).narrow hAB, fun i hi => vk_R.warm hW (h5 i hi), fun q hm => va_Nw.warmM hW (h6 q hm)⟩
def hA (ρ : Nat → Nat) (sz : Nat) : Nat → Prop := fun q => (∃ k, k < hT.length ∧ q = ρ k) ∨ sz ≤ q
/-- what holds at a method's start -/
def hU (D : va_G) (cI cZ cQ : ClassId) (ρ : Nat → Nat) (A : Nat → Prop) (M : hM) (U : State) : Prop :=
  va_P D vwCl (hW cI cZ cQ ρ M) U.heap ∧ va_K D vwCl [(cI, .int), (cZ, .boolean), (cQ, .array .int)] U ∧ va_D (fun _ => True) (hW cI cZ cQ ρ M) ∧ hSd ρ A U U.heap
def hQ (D : va_G) (cI cZ cQ : ClassId) (ρ : Nat → Nat) (A : Nat → Prop) (Post : Option Value → hM → Prop) : Array Value → State → Outcome → State → Prop := fun _ st oc t =>
  (∃ (r : Option Value) (M : hM), oc = .returned (r.map (cv ρ)) ∧ Post r M ∧ va_P D vwCl (hW cI cZ cQ ρ M) t.heap) ∧ va_F A st t
def hRm (d : Nat) : Room := { frames := d, cells := 0, slots := 0, locals := 39 * d }
abbrev hMd : Type := MethodName × ByteArray × Nat × Option FieldType
/-- a method's contract: from every world M with these arguments it returns, and Post holds of its answer and the world behind it -/
def Ct (d : Nat) (y : hMd) (as : List Value) (M : hM) (Post : Option Value → hM → Prop) : Prop :=
  ∀ (l : Launch) (D : va_G) (cI cZ cQ : ClassId) (ρ : Nat → Nat) (sz : Nat), Met l y.1 (.code y.1 y.2.1 y.2.2.1 y.2.2.2 :: wsL_law) (hRm d) (va_Pc (as.map (cv ρ)) (fun U => U.heap.size = sz ∧ hU D cI cZ cQ ρ (hA ρ sz) M U)) (hQ D cI cZ cQ ρ (hA ρ sz) Post) 0 0 (hA ρ sz)
/-- the machine's standing things, for one call of one method -/
abbrev hC : Type := Program × Launch × Env × Room × State × MethodId × Array Value × List Frame × Method × Code × va_G × (ClassId × ClassId × ClassId) × (Nat → Nat) × (Nat → Prop) × (State → Prop) × Nat × Nat
/-- locals: place by place, none where nothing is known -/
def lvc (ρ : Nat → Nat) : Nat → List (Option Value) → List (Nat × Value)
  | _, [] => []
  | k, none :: r => lvc ρ (k + 1) r
  | k, some v :: r => (k, cv ρ v) :: lvc ρ (k + 1) r
def lg : List (Option Value) → Nat → Option Value
  | [], _ => none
  | v :: _, 0 => v
  | _ :: r, i + 1 => lg r i
def lset : List (Option Value) → Nat → Option Value → List (Option Value)
  | [], _, _ => []
  | _ :: r, 0, w => w :: r
  | v :: r, i + 1, w => v :: lset r i w
/-- i is a place, and the place ahead of it holds no long -/
def lok : List (Option Value) → Nat → Bool
  | [], _ => false
  | _ :: _, 0 => true
  | [_], _ + 1 => false
  | some v :: _ :: _, 1 => v.category == 1
  | none :: _ :: _, 1 => true
  | _ :: a :: r, i + 2 => lok (a :: r) (i + 1)
theorem lset_len : ∀ (lv : List (Option Value)) (i : Nat) (w : Option Value), (lset lv i w).length = lv.length
  | [], _, _ => rfl
  | _ :: _, 0, _ => rfl
  | _ :: r, i + 1, w => congrArg Nat.succ (lset_len r i w)
theorem lg_lset : ∀ (lv : List (Option Value)) (i j : Nat) (w v : Option Value), lg (lset lv i w) j = v → j = i ∨ lg lv j = v
  | [], _, _, _, _, h => Or.inr h
  | _ :: _, 0, 0, _, _, _ => Or.inl rfl
  | _ :: _, 0, _ + 1, _, _, h => Or.inr h
  | _ :: _, _ + 1, 0, _, _, h => Or.inr h
  | _ :: r, i + 1, j + 1, w, v, h => (lg_lset r i j w v h).imp (congrArg Nat.succ) id
theorem lg_same : ∀ (lv : List (Option Value)) (i : Nat) (w : Value) (v : Option Value), lg (lset lv i (some w)) i = v → v = none ∨ v = some w
  | [], _, _, _, h => Or.inl h.symm
  | _ :: _, 0, _, _, h => Or.inr h.symm
  | _ :: r, i + 1, w, v, h => lg_same r i w v h
theorem lok_ok : ∀ (lv : List (Option Value)) (i : Nat), lok lv i = true → i < lv.length ∧ ∀ (j : Nat) (v : Value), j + 1 = i → lg lv j = some v → ¬ v.category = 2
  | [], _, h => by cases h
  | _ :: _, 0, _ => ⟨Nat.succ_pos _, fun _ _ h => by cases h⟩
  | [_], _ + 1, h => by cases h
  | some v :: _ :: _, 1, h => ⟨by simp, fun j w hj hw => by
      have hj0 : j = 0 := by omega
      subst hj0
      cases hw
      have h1 : (v.category == 1) = true := h
      have h2 : v.category = 1 := by simpa using h1
      omega⟩
  | none :: _ :: _, 1, _ => ⟨by simp, fun j w hj hw => by
      have hj0 : j = 0 := by omega
      subst hj0
      cases hw⟩
  | x :: a :: r, i + 2, h => by
      obtain ⟨h1, h2⟩ := lok_ok (a :: r) (i + 1) h
      refine ⟨Nat.succ_lt_succ h1, fun j v hj hv => ?_⟩
      match j, hj, hv with
      | 0, hj, _ => omega
      | j + 1, hj, hv => exact h2 j v (by omega) hv
theorem lvc_in (ρ : Nat → Nat) : ∀ (lv : List (Option Value)) (k i : Nat) (v : Value), lg lv i = some v → (k + i, cv ρ v) ∈ lvc ρ k lv
  | [], _, _, _, h => by cases h
  | none :: _, _, 0, _, h => by cases h
  | some w :: r, k, 0, v, h => by cases h; exact List.mem_cons_self
  | none :: r, k, i + 1, v, h => by
      have := lvc_in ρ r (k + 1) i v h
      rw [show k + (i + 1) = k + 1 + i by omega]; exact this
  | some w :: r, k, i + 1, v, h => by
      have := lvc_in ρ r (k + 1) i v h
      rw [show k + (i + 1) = k + 1 + i by omega]; exact List.mem_cons_of_mem _ this
theorem lvc_out (ρ : Nat → Nat) : ∀ (lv : List (Option Value)) (k : Nat) (q : Nat × Value), q ∈ lvc ρ k lv → ∃ (i : Nat) (v : Value), lg lv i = some v ∧ q = (k + i, cv ρ v)
  | [], _, _, h => by cases h
  | none :: r, k, q, h => by
      obtain ⟨i, v, h1, h2⟩ := lvc_out ρ r (k + 1) q h
      exact ⟨i + 1, v, h1, by rw [h2]; congr 1; omega⟩
  | some w :: r, k, q, h => by
      rcases List.mem_cons.mp h with h | h
      · exact ⟨0, w, rfl, h⟩
      · obtain ⟨i, v, h1, h2⟩ := lvc_out ρ r (k + 1) q h
        exact ⟨i + 1, v, h1, by rw [h2]; congr 1; omega⟩
theorem lv_of (ρ : Nat → Nat) {ls : Array Slot} {nL : Nat} {lv : List (Option Value)} (h : lv_has ls nL (lvc ρ 0 lv)) {i : Nat} {v : Value} (hi : lg lv i = some v) : ls[i]? = some (.val (cv ρ v)) := by
  have := h.2.2 _ (lvc_in ρ lv 0 i v hi)
  rwa [Nat.zero_add] at this
/-- behind a store -/
theorem lv_st (ρ : Nat → Nat) {ls' : Array Slot} {nL i : Nat} {lv : List (Option Value)} {w : Value} (hk : lok lv i = true) (h : lv_has ls' nL ((i, cv ρ w) :: (lvc ρ 0 lv).filter (fun q => !(q.1 == i) && !(q.1 + 1 == i && q.2.category == 2)))) : lv_has ls' nL (lvc ρ 0 (lset lv i (some w))) := by
  refine ⟨h.1, h.2.1, fun q hq => ?_⟩
  obtain ⟨j, v, h1, rfl⟩ := lvc_out ρ _ 0 q hq
  rw [Nat.zero_add]
  by_cases hj : j = i
  · subst hj
    rcases lg_same lv j w _ h1 with e | e
    · cases e
    · cases e
      exact h.2.2 (j, cv ρ w) List.mem_cons_self
  · have h2 : lg lv j = some v := (lg_lset lv i j _ _ h1).resolve_left hj
    have h3 := lvc_in ρ lv 0 j v h2
    rw [Nat.zero_add] at h3
    refine h.2.2 (j, cv ρ v) (List.mem_cons_of_mem _ (List.mem_filter.mpr ⟨h3, ?_⟩))
    have h4 := (lok_ok lv i hk).2 j v
    simp only [Bool.and_eq_true, Bool.not_eq_true', beq_eq_false_iff_ne, Bool.and_eq_false_iff, ne_eq]
    refine ⟨hj, ?_⟩
    by_cases e : j + 1 = i
    · right
      rw [cv_cat]
      exact h4 e h2
    · exact Or.inl e
/-- the judgement -/
def J : hC → Nat → List (Option Value) → List Value → hM → Prop
  | (p, l, e, R, s, m, args, below, meth, c, D, (cI, cZ, cQ), ρ, A, Q, kc, ks), pc, lv, st, M =>
    lv.length ≤ c.maxLocals → ∀ (H : Heap) (locs : List Loc) (ls : Array Slot), va_P D vwCl (hW cI cZ cQ ρ M) H → va_S A s.heap H locs → lv_has ls c.maxLocals (lvc ρ 0 lv) → W p l e R s m args below meth c H locs kc ks Q (F0 m pc ls (st.map (cv ρ)))
def Ok : hC → String → ByteArray → Nat → Prop
  | (p, l, e, R, s, m, args, below, meth, c, D, (cI, cZ, cQ), ρ, A, Q, kc, ks), own, cc, d =>
    p.tables.exec = Jvm.exec ∧ c.code = cc ∧ s.vm.findClass own = some m.cls ∧ (∀ w ∈ wsL_law, w.before args s = true) ∧ (d ≤ R.frames ∧ 39 * d ≤ R.locals ∧ kc ≤ R.cells ∧ ks ≤ R.slots) ∧
    va_K D vwCl [(cI, .int), (cZ, .boolean), (cQ, .array .int)] s ∧ (∀ M, va_D A (hW cI cZ cQ ρ M)) ∧ (∀ q, s.heap.size ≤ q → A q) ∧ hSd ρ A s s.heap
/-- the end of a method: its answer -/
def Rt : hC → Option FieldType → (Option Value → hM → Prop) → Prop
  | (p, l, e, R, s, m, args, below, meth, c, D, (cI, cZ, cQ), ρ, A, Q, kc, ks), ret, Post =>
    meth.sig.returnType = ret ∧ meth.locks = false ∧ Q = MQ below (hQ D cI cZ cQ ρ A Post) args s 0 0 A ∧ kc = 0 ∧ ks = 0
theorem ct_of {d : Nat} {y : hMd} {as : List Value} {M : hM} {Post : Option Value → hM → Prop} {lv : List (Option Value)} (hn : plainName y.1.cls = true) (hlv : ∀ ρ : Nat → Nat, ∀ q ∈ lvc ρ 0 lv, q ∈ lv_args 0 (as.map (cv ρ))) (hlen : Nat.ble lv.length y.2.2.1 = true) (hsl : ∀ ρ : Nat → Nat, (lg_sl (as.map (cv ρ))).length ≤ y.2.2.1)
    (k : ∀ X : hC, Ok X y.1.cls y.2.1 d → Rt X y.2.2.2 Post → J X 0 lv [] M) : Ct d y as M Post := by
  intro l D cI cZ cQ ρ sz
  refine Met.ofW (cc := y.2.1) (maxL := y.2.2.1) (ret := y.2.2.2) hn rfl ?_
  intro p e s m args below meth c s₁ B hml hv
  obtain ⟨rfl, hsz, hP, hK, hD0, hSt⟩ := hv
  have hts := atoms_spec (ws := .code y.1 y.2.1 y.2.2.1 y.2.2.2 :: wsL_law) B.pre
  have hown : s.vm.findClass y.1.cls = some m.cls := findClass_of_methodNamed B.named
  subst hsz
  have hD : ∀ M', va_D (hA ρ s.heap.size) (hW cI cZ cQ ρ M') := by
    intro M'
    refine ⟨fun i j p q hi hj hpq => ?_, fun k q hk => Or.inl ⟨k, hW_inv _ _ _ _ _ hk⟩⟩
    obtain ⟨a1, a2⟩ := hW_inv _ _ _ _ _ hi
    obtain ⟨b1, b2⟩ := hW_inv _ _ _ _ _ hj
    obtain ⟨x, hx⟩ : ∃ x, (hW cI cZ cQ ρ M)[i]? = some x := ⟨_, List.getElem?_eq_getElem (by rw [hW_len]; exact a1)⟩
    obtain ⟨z, hz⟩ : ∃ z, (hW cI cZ cQ ρ M)[j]? = some z := ⟨_, List.getElem?_eq_getElem (by rw [hW_len]; exact b1)⟩
    exact hD0.1 i j x z hx hz (by rw [(hW_inv _ _ _ _ _ hx).2, (hW_inv _ _ _ _ _ hz).2, ← a2, ← b2, hpq])
  have hl := lv_entry (as.map (cv ρ)) (n := y.2.2.1) (hsl ρ)
  rw [lg_entry_eq]
  generalize (lg_sl (as.map (cv ρ)) ++ List.replicate (y.2.2.1 - (lg_sl (as.map (cv ρ))).length) Slot.unset).toArray = ls at hl ⊢
  have hl2 : lv_has ls y.2.2.1 (lvc ρ 0 lv) := ⟨hl.1, hl.2.1, fun q hq => hl.2.2 q (hlv ρ q hq)⟩
  rw [← hml] at hl2
  exact k (p, l, e, hRm d, s, m, _, below, meth, c, D, (cI, cZ, cQ), ρ, hA ρ s.heap.size, _, 0, 0)
    ⟨B.exec, B.bytes, hown, fun w hw => hts w (List.mem_cons_of_mem _ hw), ⟨Nat.le_refl _, Nat.le_refl _, Nat.le_refl _, Nat.le_refl _⟩, hK, hD, fun q hq => Or.inr hq, hSt⟩
    ⟨B.returns, B.notSynchronized, rfl, rfl, rfl⟩ (by rw [hml]; exact Nat.le_of_ble_eq_true hlen) s.heap [] ls hP va_S.rf hl2
end
section
/-! rows of the judgement J, one an instruction: goal behind first -/
section JR
variable {X : hC} {own : String} {cc : ByteArray} {d : Nat} {pc : Nat} {lv : List (Option Value)} {st : List Value} {M : hM}
theorem j_iconst (h : Ok X own cc d) (q : Nat) (hq : pc + 1 = q) {n : Int} (v : Int32) (hv : Int32.ofInt n = v) (hd : decode cc pc = .ok (.iconst n, 1)) (k : J X q lv (.int v :: st) M) : J X pc lv st M := by
  obtain ⟨p, l, e, R, s, m, args, below, meth, c, D, ⟨cI, cZ, cQ⟩, ρ, A, Q, kc, ks⟩ := X
  subst hq; obtain ⟨hx, hb, h⟩ := h
  intro hn H locs ls hP hS hl
  exact lv_iconst hx hb hd hv (k hn H locs ls hP hS hl)
theorem j_bipush (h : Ok X own cc d) (q : Nat) (hq : pc + 2 = q) {n : Int} (v : Int32) (hv : (Int8.ofInt n).toInt32 = v) (hd : decode cc pc = .ok (.bipush n, 2)) (k : J X q lv (.int v :: st) M) : J X pc lv st M := by
  obtain ⟨p, l, e, R, s, m, args, below, meth, c, D, ⟨cI, cZ, cQ⟩, ρ, A, Q, kc, ks⟩ := X
  subst hq; obtain ⟨hx, hb, h⟩ := h
  intro hn H locs ls hP hS hl
  exact lv_bipush hx hb hd hv (k hn H locs ls hP hS hl)
theorem j_sipush (h : Ok X own cc d) (q : Nat) (hq : pc + 3 = q) {n : Int} (v : Int32) (hv : (Int16.ofInt n).toInt32 = v) (hd : decode cc pc = .ok (.sipush n, 3)) (k : J X q lv (.int v :: st) M) : J X pc lv st M := by
  obtain ⟨p, l, e, R, s, m, args, below, meth, c, D, ⟨cI, cZ, cQ⟩, ρ, A, Q, kc, ks⟩ := X
  subst hq; obtain ⟨hx, hb, h⟩ := h
  intro hn H locs ls hP hS hl
  exact lv_sipush hx hb hd hv (k hn H locs ls hP hS hl)
theorem j_lconst (h : Ok X own cc d) (q : Nat) (hq : pc + 1 = q) {n : Fin 2} (v : Int64) (hv : Int64.ofNat (n : Nat) = v) (hd : decode cc pc = .ok (.lconst n, 1)) (k : J X q lv (.long v :: st) M) : J X pc lv st M := by
  obtain ⟨p, l, e, R, s, m, args, below, meth, c, D, ⟨cI, cZ, cQ⟩, ρ, A, Q, kc, ks⟩ := X
  subst hq; obtain ⟨hx, hb, h⟩ := h
  intro hn H locs ls hP hS hl
  exact lv_lconst hx hb hd hv (k hn H locs ls hP hS hl)
theorem j_ldc (h : Ok X own cc d) (q : Nat) (hq : pc + 2 = q) {ix : Nat} (v : Int32) (hw : Cond.constant own ix v ∈ wsL_law) (hd : decode cc pc = .ok (.ldc ix, 2)) (k : J X q lv (.int v :: st) M) : J X pc lv st M := by
  obtain ⟨p, l, e, R, s, m, args, below, meth, c, D, ⟨cI, cZ, cQ⟩, ρ, A, Q, kc, ks⟩ := X
  subst hq; obtain ⟨hx, hb, ho, hts, h⟩ := h
  intro hn H locs ls hP hS hl
  exact lv_ldc hx hb ho (hts _ hw) hd (k hn H locs ls hP hS hl)
theorem j_ldcw (h : Ok X own cc d) (q : Nat) (hq : pc + 3 = q) {ix : Nat} (v : Int32) (hw : Cond.constant own ix v ∈ wsL_law) (hd : decode cc pc = .ok (.ldc_w ix, 3)) (k : J X q lv (.int v :: st) M) : J X pc lv st M := by
  obtain ⟨p, l, e, R, s, m, args, below, meth, c, D, ⟨cI, cZ, cQ⟩, ρ, A, Q, kc, ks⟩ := X
  subst hq; obtain ⟨hx, hb, ho, hts, h⟩ := h
  intro hn H locs ls hP hS hl
  exact lv_ldcw hx hb ho (hts _ hw) hd (k hn H locs ls hP hS hl)
theorem j_ldc2 (h : Ok X own cc d) (q : Nat) (hq : pc + 3 = q) {ix : Nat} (v : Int64) (hw : Cond.constantLong own ix v ∈ wsL_law) (hd : decode cc pc = .ok (.ldc2_w ix, 3)) (k : J X q lv (.long v :: st) M) : J X pc lv st M := by
  obtain ⟨p, l, e, R, s, m, args, below, meth, c, D, ⟨cI, cZ, cQ⟩, ρ, A, Q, kc, ks⟩ := X
  subst hq; obtain ⟨hx, hb, ho, hts, h⟩ := h
  intro hn H locs ls hP hS hl
  exact lv_ldc2 hx hb ho (hts _ hw) hd (k hn H locs ls hP hS hl)
/-- a word of House's -/
theorem j_ldcS (h : Ok X RX3 cc d) (q : Nat) (hq : pc + 2 = q) (i : Nat) (hi : Nat.blt i 10 = true) {ix : Nat} (hix : hIdx.getD i 0 = ix) (hd : decode cc pc = .ok (.ldc ix, 2)) (k : J X q lv (.ref (500 + i) :: st) M) : J X pc lv st M := by
  obtain ⟨p, l, e, R, s, m, args, below, meth, c, D, ⟨cI, cZ, cQ⟩, ρ, A, Q, kc, ks⟩ := X
  subst hq; obtain ⟨hx, hb, ho, hts, -, -, -, -, -, -, -, hR, -⟩ := h
  intro hn H locs ls hP hS hl
  subst hix
  exact va_ldcS hx hb ho (hR i (Nat.le_of_ble_eq_true hi)) hd (k hn H locs ls hP hS hl)
theorem j_iload_n (h : Ok X own cc d) (q : Nat) (hq : pc + 1 = q) {i : Fin 4} {x : Int32} (hl0 : lg lv i = some (.int x)) (hd : decode cc pc = .ok (.iload_n i, 1)) (k : J X q lv (.int x :: st) M) : J X pc lv st M := by
  obtain ⟨p, l, e, R, s, m, args, below, meth, c, D, ⟨cI, cZ, cQ⟩, ρ, A, Q, kc, ks⟩ := X
  subst hq; obtain ⟨hx, hb, h⟩ := h
  intro hn H locs ls hP hS hl
  exact lv_iload_n hx hb hd rfl (lv_of ρ hl hl0) (k hn H locs ls hP hS hl)
theorem j_iload (h : Ok X own cc d) (q : Nat) (hq : pc + 2 = q) {i : Nat} {x : Int32} (hl0 : lg lv i = some (.int x)) (hd : decode cc pc = .ok (.iload i, 2)) (k : J X q lv (.int x :: st) M) : J X pc lv st M := by
  obtain ⟨p, l, e, R, s, m, args, below, meth, c, D, ⟨cI, cZ, cQ⟩, ρ, A, Q, kc, ks⟩ := X
  subst hq; obtain ⟨hx, hb, h⟩ := h
  intro hn H locs ls hP hS hl
  exact lv_iload hx hb hd (lv_of ρ hl hl0) (k hn H locs ls hP hS hl)
theorem j_lload_n (h : Ok X own cc d) (q : Nat) (hq : pc + 1 = q) {i : Fin 4} {x : Int64} (hl0 : lg lv i = some (.long x)) (hd : decode cc pc = .ok (.lload_n i, 1)) (k : J X q lv (.long x :: st) M) : J X pc lv st M := by
  obtain ⟨p, l, e, R, s, m, args, below, meth, c, D, ⟨cI, cZ, cQ⟩, ρ, A, Q, kc, ks⟩ := X
  subst hq; obtain ⟨hx, hb, h⟩ := h
  intro hn H locs ls hP hS hl
  exact lv_lload_n hx hb hd rfl (lv_of ρ hl hl0) (k hn H locs ls hP hS hl)
theorem j_aload_n (h : Ok X own cc d) (q : Nat) (hq : pc + 1 = q) {i : Fin 4} {x : Nat} (hl0 : lg lv i = some (.ref x)) (hd : decode cc pc = .ok (.aload_n i, 1)) (k : J X q lv (.ref x :: st) M) : J X pc lv st M := by
  obtain ⟨p, l, e, R, s, m, args, below, meth, c, D, ⟨cI, cZ, cQ⟩, ρ, A, Q, kc, ks⟩ := X
  subst hq; obtain ⟨hx, hb, h⟩ := h
  intro hn H locs ls hP hS hl
  exact lv_aload_n hx hb hd rfl (lv_of ρ hl hl0) (k hn H locs ls hP hS hl)
theorem j_aload (h : Ok X own cc d) (q : Nat) (hq : pc + 2 = q) {i : Nat} {x : Nat} (hl0 : lg lv i = some (.ref x)) (hd : decode cc pc = .ok (.aload i, 2)) (k : J X q lv (.ref x :: st) M) : J X pc lv st M := by
  obtain ⟨p, l, e, R, s, m, args, below, meth, c, D, ⟨cI, cZ, cQ⟩, ρ, A, Q, kc, ks⟩ := X
  subst hq; obtain ⟨hx, hb, h⟩ := h
  intro hn H locs ls hP hS hl
  exact lv_aload hx hb hd (lv_of ρ hl hl0) (k hn H locs ls hP hS hl)
theorem j_istore_n (h : Ok X own cc d) (q : Nat) (hq : pc + 1 = q) {i : Fin 4} {x : Int32} (hk : lok lv i = true) (hd : decode cc pc = .ok (.istore_n i, 1)) (k : J X q (lset lv i (some (.int x))) st M) : J X pc lv (.int x :: st) M := by
  obtain ⟨p, l, e, R, s, m, args, below, meth, c, D, ⟨cI, cZ, cQ⟩, ρ, A, Q, kc, ks⟩ := X
  subst hq; obtain ⟨hx, hb, h⟩ := h
  intro hn H locs ls hP hS hl
  exact lv_istore_n hx hb hd rfl hl (Nat.lt_of_lt_of_le (lok_ok lv i hk).1 hn) rfl (fun ls' hl' => k (by rw [lset_len]; exact hn) H locs ls' hP hS (lv_st ρ (w := .int x) hk hl'))
theorem j_istore (h : Ok X own cc d) (q : Nat) (hq : pc + 2 = q) {i : Nat} {x : Int32} (hk : lok lv i = true) (hd : decode cc pc = .ok (.istore i, 2)) (k : J X q (lset lv i (some (.int x))) st M) : J X pc lv (.int x :: st) M := by
  obtain ⟨p, l, e, R, s, m, args, below, meth, c, D, ⟨cI, cZ, cQ⟩, ρ, A, Q, kc, ks⟩ := X
  subst hq; obtain ⟨hx, hb, h⟩ := h
  intro hn H locs ls hP hS hl
  exact lv_istore hx hb hd hl (Nat.lt_of_lt_of_le (lok_ok lv i hk).1 hn) rfl (fun ls' hl' => k (by rw [lset_len]; exact hn) H locs ls' hP hS (lv_st ρ (w := .int x) hk hl'))
theorem j_iinc (h : Ok X own cc d) (q : Nat) (hq : pc + 3 = q) {i : Nat} {n : Int} {x : Int32} (v : Int32) (hv : Int32.ofInt n = v) (hl0 : lg lv i = some (.int x)) (hk : lok lv i = true) (hd : decode cc pc = .ok (.iinc i n, 3)) (k : J X q (lset lv i (some (.int (x + v)))) st M) : J X pc lv st M := by
  obtain ⟨p, l, e, R, s, m, args, below, meth, c, D, ⟨cI, cZ, cQ⟩, ρ, A, Q, kc, ks⟩ := X
  subst hq; subst hv; obtain ⟨hx, hb, h⟩ := h
  intro hn H locs ls hP hS hl
  have hm := lvc_in ρ lv 0 i _ hl0
  rw [Nat.zero_add] at hm
  obtain ⟨k9, hk9⟩ := List.getElem?_of_mem hm
  exact lv_iinc hx hb hd hl hk9 rfl (Nat.lt_of_lt_of_le (lok_ok lv i hk).1 hn) rfl (fun ls' hl' => k (by rw [lset_len]; exact hn) H locs ls' hP hS (lv_st ρ (w := .int (x + Int32.ofInt n)) hk hl'))
theorem j_iadd (h : Ok X own cc d) (q : Nat) (hq : pc + 1 = q) {x y : Int32} (hd : decode cc pc = .ok (.iadd, 1)) (k : J X q lv (.int (x + y) :: st) M) : J X pc lv (.int y :: .int x :: st) M := by
  obtain ⟨p, l, e, R, s, m, args, below, meth, c, D, ⟨cI, cZ, cQ⟩, ρ, A, Q, kc, ks⟩ := X
  subst hq; obtain ⟨hx, hb, h⟩ := h
  intro hn H locs ls hP hS hl
  exact lv_iadd hx hb hd (k hn H locs ls hP hS hl)
theorem j_isub (h : Ok X own cc d) (q : Nat) (hq : pc + 1 = q) {x y : Int32} (hd : decode cc pc = .ok (.isub, 1)) (k : J X q lv (.int (x - y) :: st) M) : J X pc lv (.int y :: .int x :: st) M := by
  obtain ⟨p, l, e, R, s, m, args, below, meth, c, D, ⟨cI, cZ, cQ⟩, ρ, A, Q, kc, ks⟩ := X
  subst hq; obtain ⟨hx, hb, h⟩ := h
  intro hn H locs ls hP hS hl
  exact lv_isub hx hb hd (k hn H locs ls hP hS hl)
theorem j_imul (h : Ok X own cc d) (q : Nat) (hq : pc + 1 = q) {x y : Int32} (hd : decode cc pc = .ok (.imul, 1)) (k : J X q lv (.int (x * y) :: st) M) : J X pc lv (.int y :: .int x :: st) M := by
  obtain ⟨p, l, e, R, s, m, args, below, meth, c, D, ⟨cI, cZ, cQ⟩, ρ, A, Q, kc, ks⟩ := X
  subst hq; obtain ⟨hx, hb, h⟩ := h
  intro hn H locs ls hP hS hl
  exact lv_imul hx hb hd (k hn H locs ls hP hS hl)
theorem j_iand (h : Ok X own cc d) (q : Nat) (hq : pc + 1 = q) {x y : Int32} (hd : decode cc pc = .ok (.iand, 1)) (k : J X q lv (.int (x &&& y) :: st) M) : J X pc lv (.int y :: .int x :: st) M := by
  obtain ⟨p, l, e, R, s, m, args, below, meth, c, D, ⟨cI, cZ, cQ⟩, ρ, A, Q, kc, ks⟩ := X
  subst hq; obtain ⟨hx, hb, h⟩ := h
  intro hn H locs ls hP hS hl
  exact lv_iand hx hb hd (k hn H locs ls hP hS hl)
theorem j_ior (h : Ok X own cc d) (q : Nat) (hq : pc + 1 = q) {x y : Int32} (hd : decode cc pc = .ok (.ior, 1)) (k : J X q lv (.int (x ||| y) :: st) M) : J X pc lv (.int y :: .int x :: st) M := by
  obtain ⟨p, l, e, R, s, m, args, below, meth, c, D, ⟨cI, cZ, cQ⟩, ρ, A, Q, kc, ks⟩ := X
  subst hq; obtain ⟨hx, hb, h⟩ := h
  intro hn H locs ls hP hS hl
  exact lv_ior hx hb hd (k hn H locs ls hP hS hl)
theorem j_ixor (h : Ok X own cc d) (q : Nat) (hq : pc + 1 = q) {x y : Int32} (hd : decode cc pc = .ok (.ixor, 1)) (k : J X q lv (.int (x ^^^ y) :: st) M) : J X pc lv (.int y :: .int x :: st) M := by
  obtain ⟨p, l, e, R, s, m, args, below, meth, c, D, ⟨cI, cZ, cQ⟩, ρ, A, Q, kc, ks⟩ := X
  subst hq; obtain ⟨hx, hb, h⟩ := h
  intro hn H locs ls hP hS hl
  exact lv_ixor hx hb hd (k hn H locs ls hP hS hl)
theorem j_ishl (h : Ok X own cc d) (q : Nat) (hq : pc + 1 = q) {x y : Int32} (hd : decode cc pc = .ok (.ishl, 1)) (k : J X q lv (.int (x <<< (y &&& 31)) :: st) M) : J X pc lv (.int y :: .int x :: st) M := by
  obtain ⟨p, l, e, R, s, m, args, below, meth, c, D, ⟨cI, cZ, cQ⟩, ρ, A, Q, kc, ks⟩ := X
  subst hq; obtain ⟨hx, hb, h⟩ := h
  intro hn H locs ls hP hS hl
  exact lv_ishl hx hb hd (k hn H locs ls hP hS hl)
theorem j_ishr (h : Ok X own cc d) (q : Nat) (hq : pc + 1 = q) {x y : Int32} (hd : decode cc pc = .ok (.ishr, 1)) (k : J X q lv (.int (x >>> (y &&& 31)) :: st) M) : J X pc lv (.int y :: .int x :: st) M := by
  obtain ⟨p, l, e, R, s, m, args, below, meth, c, D, ⟨cI, cZ, cQ⟩, ρ, A, Q, kc, ks⟩ := X
  subst hq; obtain ⟨hx, hb, h⟩ := h
  intro hn H locs ls hP hS hl
  exact lv_ishr hx hb hd (k hn H locs ls hP hS hl)
theorem j_ladd (h : Ok X own cc d) (q : Nat) (hq : pc + 1 = q) {x y : Int64} (hd : decode cc pc = .ok (.ladd, 1)) (k : J X q lv (.long (x + y) :: st) M) : J X pc lv (.long y :: .long x :: st) M := by
  obtain ⟨p, l, e, R, s, m, args, below, meth, c, D, ⟨cI, cZ, cQ⟩, ρ, A, Q, kc, ks⟩ := X
  subst hq; obtain ⟨hx, hb, h⟩ := h
  intro hn H locs ls hP hS hl
  exact lv_ladd hx hb hd (k hn H locs ls hP hS hl)
theorem j_lsub (h : Ok X own cc d) (q : Nat) (hq : pc + 1 = q) {x y : Int64} (hd : decode cc pc = .ok (.lsub, 1)) (k : J X q lv (.long (x - y) :: st) M) : J X pc lv (.long y :: .long x :: st) M := by
  obtain ⟨p, l, e, R, s, m, args, below, meth, c, D, ⟨cI, cZ, cQ⟩, ρ, A, Q, kc, ks⟩ := X
  subst hq; obtain ⟨hx, hb, h⟩ := h
  intro hn H locs ls hP hS hl
  exact lv_lsub hx hb hd (k hn H locs ls hP hS hl)
theorem j_lmul (h : Ok X own cc d) (q : Nat) (hq : pc + 1 = q) {x y : Int64} (hd : decode cc pc = .ok (.lmul, 1)) (k : J X q lv (.long (x * y) :: st) M) : J X pc lv (.long y :: .long x :: st) M := by
  obtain ⟨p, l, e, R, s, m, args, below, meth, c, D, ⟨cI, cZ, cQ⟩, ρ, A, Q, kc, ks⟩ := X
  subst hq; obtain ⟨hx, hb, h⟩ := h
  intro hn H locs ls hP hS hl
  exact lv_lmul hx hb hd (k hn H locs ls hP hS hl)
theorem j_land (h : Ok X own cc d) (q : Nat) (hq : pc + 1 = q) {x y : Int64} (hd : decode cc pc = .ok (.land, 1)) (k : J X q lv (.long (x &&& y) :: st) M) : J X pc lv (.long y :: .long x :: st) M := by
  obtain ⟨p, l, e, R, s, m, args, below, meth, c, D, ⟨cI, cZ, cQ⟩, ρ, A, Q, kc, ks⟩ := X
  subst hq; obtain ⟨hx, hb, h⟩ := h
  intro hn H locs ls hP hS hl
  exact lv_land hx hb hd (k hn H locs ls hP hS hl)
theorem j_lor (h : Ok X own cc d) (q : Nat) (hq : pc + 1 = q) {x y : Int64} (hd : decode cc pc = .ok (.lor, 1)) (k : J X q lv (.long (x ||| y) :: st) M) : J X pc lv (.long y :: .long x :: st) M := by
  obtain ⟨p, l, e, R, s, m, args, below, meth, c, D, ⟨cI, cZ, cQ⟩, ρ, A, Q, kc, ks⟩ := X
  subst hq; obtain ⟨hx, hb, h⟩ := h
  intro hn H locs ls hP hS hl
  exact lv_lor hx hb hd (k hn H locs ls hP hS hl)
theorem j_idiv (h : Ok X own cc d) (q : Nat) (hq : pc + 1 = q) {x y : Int32} (hne : ¬ y = 0) (hd : decode cc pc = .ok (.idiv, 1)) (k : J X q lv (.int (x / y) :: st) M) : J X pc lv (.int y :: .int x :: st) M := by
  obtain ⟨p, l, e, R, s, m, args, below, meth, c, D, ⟨cI, cZ, cQ⟩, ρ, A, Q, kc, ks⟩ := X
  subst hq; obtain ⟨hx, hb, h⟩ := h
  intro hn H locs ls hP hS hl
  exact lv_idiv hx hb hd hne (k hn H locs ls hP hS hl)
theorem j_irem (h : Ok X own cc d) (q : Nat) (hq : pc + 1 = q) {x y : Int32} (hne : ¬ y = 0) (hd : decode cc pc = .ok (.irem, 1)) (k : J X q lv (.int (x - x / y * y) :: st) M) : J X pc lv (.int y :: .int x :: st) M := by
  obtain ⟨p, l, e, R, s, m, args, below, meth, c, D, ⟨cI, cZ, cQ⟩, ρ, A, Q, kc, ks⟩ := X
  subst hq; obtain ⟨hx, hb, h⟩ := h
  intro hn H locs ls hP hS hl
  exact lv_irem hx hb hd hne (k hn H locs ls hP hS hl)
theorem j_ineg (h : Ok X own cc d) (q : Nat) (hq : pc + 1 = q) {x : Int32} (hd : decode cc pc = .ok (.ineg, 1)) (k : J X q lv (.int (-x) :: st) M) : J X pc lv (.int x :: st) M := by
  obtain ⟨p, l, e, R, s, m, args, below, meth, c, D, ⟨cI, cZ, cQ⟩, ρ, A, Q, kc, ks⟩ := X
  subst hq; obtain ⟨hx, hb, h⟩ := h
  intro hn H locs ls hP hS hl
  exact lv_ineg hx hb hd (k hn H locs ls hP hS hl)
theorem j_i2l (h : Ok X own cc d) (q : Nat) (hq : pc + 1 = q) {x : Int32} (hd : decode cc pc = .ok (.i2l, 1)) (k : J X q lv (.long (x.toInt64) :: st) M) : J X pc lv (.int x :: st) M := by
  obtain ⟨p, l, e, R, s, m, args, below, meth, c, D, ⟨cI, cZ, cQ⟩, ρ, A, Q, kc, ks⟩ := X
  subst hq; obtain ⟨hx, hb, h⟩ := h
  intro hn H locs ls hP hS hl
  exact lv_i2l hx hb hd rfl (k hn H locs ls hP hS hl)
theorem j_l2i (h : Ok X own cc d) (q : Nat) (hq : pc + 1 = q) {x : Int64} (hd : decode cc pc = .ok (.l2i, 1)) (k : J X q lv (.int (x.toInt32) :: st) M) : J X pc lv (.long x :: st) M := by
  obtain ⟨p, l, e, R, s, m, args, below, meth, c, D, ⟨cI, cZ, cQ⟩, ρ, A, Q, kc, ks⟩ := X
  subst hq; obtain ⟨hx, hb, h⟩ := h
  intro hn H locs ls hP hS hl
  exact lv_l2i hx hb hd rfl (k hn H locs ls hP hS hl)
theorem j_i2c (h : Ok X own cc d) (q : Nat) (hq : pc + 1 = q) {x : Int32} (hd : decode cc pc = .ok (.i2c, 1)) (k : J X q lv (.int ((x.toUInt32 % 65536).toInt32) :: st) M) : J X pc lv (.int x :: st) M := by
  obtain ⟨p, l, e, R, s, m, args, below, meth, c, D, ⟨cI, cZ, cQ⟩, ρ, A, Q, kc, ks⟩ := X
  subst hq; obtain ⟨hx, hb, h⟩ := h
  intro hn H locs ls hP hS hl
  exact lv_i2c hx hb hd rfl (k hn H locs ls hP hS hl)
theorem j_iushr (h : Ok X own cc d) (q : Nat) (hq : pc + 1 = q) {x y : Int32} (hd : decode cc pc = .ok (.iushr, 1)) (k : J X q lv (.int (x.toUInt32 >>> (y.toUInt32 &&& Int32.toUInt32 31)).toInt32 :: st) M) : J X pc lv (.int y :: .int x :: st) M := by
  obtain ⟨p, l, e, R, s, m, args, below, meth, c, D, ⟨cI, cZ, cQ⟩, ρ, A, Q, kc, ks⟩ := X
  subst hq; obtain ⟨hx, hb, h⟩ := h
  intro hn H locs ls hP hS hl
  exact lv_iushr hx hb hd rfl (k hn H locs ls hP hS hl)
theorem j_lshl (h : Ok X own cc d) (q : Nat) (hq : pc + 1 = q) {x : Int64} {y : Int32} (hd : decode cc pc = .ok (.lshl, 1)) (k : J X q lv (.long (x <<< (y.toInt64 &&& 63)) :: st) M) : J X pc lv (.int y :: .long x :: st) M := by
  obtain ⟨p, l, e, R, s, m, args, below, meth, c, D, ⟨cI, cZ, cQ⟩, ρ, A, Q, kc, ks⟩ := X
  subst hq; obtain ⟨hx, hb, h⟩ := h
  intro hn H locs ls hP hS hl
  exact lv_lshl hx hb hd rfl (k hn H locs ls hP hS hl)
theorem j_lshr (h : Ok X own cc d) (q : Nat) (hq : pc + 1 = q) {x : Int64} {y : Int32} (hd : decode cc pc = .ok (.lshr, 1)) (k : J X q lv (.long (x >>> (y.toInt64 &&& 63)) :: st) M) : J X pc lv (.int y :: .long x :: st) M := by
  obtain ⟨p, l, e, R, s, m, args, below, meth, c, D, ⟨cI, cZ, cQ⟩, ρ, A, Q, kc, ks⟩ := X
  subst hq; obtain ⟨hx, hb, h⟩ := h
  intro hn H locs ls hP hS hl
  exact lv_lshr hx hb hd rfl (k hn H locs ls hP hS hl)
theorem j_lcmp (h : Ok X own cc d) (q : Nat) (hq : pc + 1 = q) {x y : Int64} (hd : decode cc pc = .ok (.lcmp, 1)) (k : J X q lv (.int (lg_cmp x y) :: st) M) : J X pc lv (.long y :: .long x :: st) M := by
  obtain ⟨p, l, e, R, s, m, args, below, meth, c, D, ⟨cI, cZ, cQ⟩, ρ, A, Q, kc, ks⟩ := X
  subst hq; obtain ⟨hx, hb, h⟩ := h
  intro hn H locs ls hP hS hl
  exact W.lcmp hx hb hd (k hn H locs ls hP hS hl)
theorem j_dup (h : Ok X own cc d) (q : Nat) (hq : pc + 1 = q) {a : Value} (ha : a.category = 1) (hd : decode cc pc = .ok (.dup, 1)) (k : J X q lv (a :: a :: st) M) : J X pc lv (a :: st) M := by
  obtain ⟨p, l, e, R, s, m, args, below, meth, c, D, ⟨cI, cZ, cQ⟩, ρ, A, Q, kc, ks⟩ := X
  subst hq; obtain ⟨hx, hb, h⟩ := h
  intro hn H locs ls hP hS hl
  exact lv_dup hx hb hd (by rw [cv_cat]; exact ha) (k hn H locs ls hP hS hl)
theorem j_pop (h : Ok X own cc d) (q : Nat) (hq : pc + 1 = q) {a : Value} (ha : a.category = 1) (hd : decode cc pc = .ok (.pop, 1)) (k : J X q lv st M) : J X pc lv (a :: st) M := by
  obtain ⟨p, l, e, R, s, m, args, below, meth, c, D, ⟨cI, cZ, cQ⟩, ρ, A, Q, kc, ks⟩ := X
  subst hq; obtain ⟨hx, hb, h⟩ := h
  intro hn H locs ls hP hS hl
  exact lv_pop hx hb hd (by rw [cv_cat]; exact ha) (k hn H locs ls hP hS hl)
theorem j_dup_x1 (h : Ok X own cc d) (q : Nat) (hq : pc + 1 = q) {a b : Value} (ha : a.category = 1) (hb9 : b.category = 1) (hd : decode cc pc = .ok (.dup_x1, 1)) (k : J X q lv (a :: b :: a :: st) M) : J X pc lv (a :: b :: st) M := by
  obtain ⟨p, l, e, R, s, m, args, below, meth, c, D, ⟨cI, cZ, cQ⟩, ρ, A, Q, kc, ks⟩ := X
  subst hq; obtain ⟨hx, hb, h⟩ := h
  intro hn H locs ls hP hS hl
  exact lv_dup_x1 hx hb hd (by rw [cv_cat]; exact ha) (by rw [cv_cat]; exact hb9) (k hn H locs ls hP hS hl)
theorem j_dup2 (h : Ok X own cc d) (q : Nat) (hq : pc + 1 = q) {a b : Value} (ha : a.category = 1) (hb9 : b.category = 1) (hd : decode cc pc = .ok (.dup2, 1)) (k : J X q lv (a :: b :: a :: b :: st) M) : J X pc lv (a :: b :: st) M := by
  obtain ⟨p, l, e, R, s, m, args, below, meth, c, D, ⟨cI, cZ, cQ⟩, ρ, A, Q, kc, ks⟩ := X
  subst hq; obtain ⟨hx, hb, h⟩ := h
  intro hn H locs ls hP hS hl
  exact lv_dup2_11 hx hb hd (by rw [cv_cat]; exact ha) (by rw [cv_cat]; exact hb9) (k hn H locs ls hP hS hl)
theorem j_if_eq (h : Ok X own cc d) (tq q : Nat) {x : Int32} {off : Int} (hd : decode cc pc = .ok (.ifCond .eq off, 3)) (ht : (pc : Int) + off = (tq : Int)) (hq : pc + 3 = q) (kt : x = 0 → J X tq lv st M) (kf : ¬ x = 0 → J X q lv st M) : J X pc lv (.int x :: st) M := by
  obtain ⟨p, l, e, R, s, m, args, below, meth, c, D, ⟨cI, cZ, cQ⟩, ρ, A, Q, kc, ks⟩ := X
  subst hq; obtain ⟨hx, hb, h⟩ := h
  intro hn H locs ls hP hS hl
  exact lv_if_eq hx hb hd ht (fun z => kt z hn H locs ls hP hS hl) (fun z => kf z hn H locs ls hP hS hl)
theorem j_icmp_eq (h : Ok X own cc d) (tq q : Nat) {x y : Int32} {off : Int} (hd : decode cc pc = .ok (.if_icmp .eq off, 3)) (ht : (pc : Int) + off = (tq : Int)) (hq : pc + 3 = q) (kt : x = y → J X tq lv st M) (kf : ¬ x = y → J X q lv st M) : J X pc lv (.int y :: .int x :: st) M := by
  obtain ⟨p, l, e, R, s, m, args, below, meth, c, D, ⟨cI, cZ, cQ⟩, ρ, A, Q, kc, ks⟩ := X
  subst hq; obtain ⟨hx, hb, h⟩ := h
  intro hn H locs ls hP hS hl
  exact lv_icmp_eq hx hb hd ht (fun z => kt z hn H locs ls hP hS hl) (fun z => kf z hn H locs ls hP hS hl)
theorem j_if_ne (h : Ok X own cc d) (tq q : Nat) {x : Int32} {off : Int} (hd : decode cc pc = .ok (.ifCond .ne off, 3)) (ht : (pc : Int) + off = (tq : Int)) (hq : pc + 3 = q) (kt : ¬ x = 0 → J X tq lv st M) (kf : x = 0 → J X q lv st M) : J X pc lv (.int x :: st) M := by
  obtain ⟨p, l, e, R, s, m, args, below, meth, c, D, ⟨cI, cZ, cQ⟩, ρ, A, Q, kc, ks⟩ := X
  subst hq; obtain ⟨hx, hb, h⟩ := h
  intro hn H locs ls hP hS hl
  exact lv_if_ne hx hb hd ht (fun z => kt z hn H locs ls hP hS hl) (fun z => kf z hn H locs ls hP hS hl)
theorem j_icmp_ne (h : Ok X own cc d) (tq q : Nat) {x y : Int32} {off : Int} (hd : decode cc pc = .ok (.if_icmp .ne off, 3)) (ht : (pc : Int) + off = (tq : Int)) (hq : pc + 3 = q) (kt : ¬ x = y → J X tq lv st M) (kf : x = y → J X q lv st M) : J X pc lv (.int y :: .int x :: st) M := by
  obtain ⟨p, l, e, R, s, m, args, below, meth, c, D, ⟨cI, cZ, cQ⟩, ρ, A, Q, kc, ks⟩ := X
  subst hq; obtain ⟨hx, hb, h⟩ := h
  intro hn H locs ls hP hS hl
  exact lv_icmp_ne hx hb hd ht (fun z => kt z hn H locs ls hP hS hl) (fun z => kf z hn H locs ls hP hS hl)
theorem j_if_lt (h : Ok X own cc d) (tq q : Nat) {x : Int32} {off : Int} (hd : decode cc pc = .ok (.ifCond .lt off, 3)) (ht : (pc : Int) + off = (tq : Int)) (hq : pc + 3 = q) (kt : x < 0 → J X tq lv st M) (kf : ¬ x < 0 → J X q lv st M) : J X pc lv (.int x :: st) M := by
  obtain ⟨p, l, e, R, s, m, args, below, meth, c, D, ⟨cI, cZ, cQ⟩, ρ, A, Q, kc, ks⟩ := X
  subst hq; obtain ⟨hx, hb, h⟩ := h
  intro hn H locs ls hP hS hl
  exact lv_if_lt hx hb hd ht (fun z => kt z hn H locs ls hP hS hl) (fun z => kf z hn H locs ls hP hS hl)
theorem j_icmp_lt (h : Ok X own cc d) (tq q : Nat) {x y : Int32} {off : Int} (hd : decode cc pc = .ok (.if_icmp .lt off, 3)) (ht : (pc : Int) + off = (tq : Int)) (hq : pc + 3 = q) (kt : x < y → J X tq lv st M) (kf : ¬ x < y → J X q lv st M) : J X pc lv (.int y :: .int x :: st) M := by
  obtain ⟨p, l, e, R, s, m, args, below, meth, c, D, ⟨cI, cZ, cQ⟩, ρ, A, Q, kc, ks⟩ := X
  subst hq; obtain ⟨hx, hb, h⟩ := h
  intro hn H locs ls hP hS hl
  exact lv_icmp_lt hx hb hd ht (fun z => kt z hn H locs ls hP hS hl) (fun z => kf z hn H locs ls hP hS hl)
theorem j_if_ge (h : Ok X own cc d) (tq q : Nat) {x : Int32} {off : Int} (hd : decode cc pc = .ok (.ifCond .ge off, 3)) (ht : (pc : Int) + off = (tq : Int)) (hq : pc + 3 = q) (kt : 0 ≤ x → J X tq lv st M) (kf : ¬ 0 ≤ x → J X q lv st M) : J X pc lv (.int x :: st) M := by
  obtain ⟨p, l, e, R, s, m, args, below, meth, c, D, ⟨cI, cZ, cQ⟩, ρ, A, Q, kc, ks⟩ := X
  subst hq; obtain ⟨hx, hb, h⟩ := h
  intro hn H locs ls hP hS hl
  exact lv_if_ge hx hb hd ht (fun z => kt z hn H locs ls hP hS hl) (fun z => kf z hn H locs ls hP hS hl)
theorem j_icmp_ge (h : Ok X own cc d) (tq q : Nat) {x y : Int32} {off : Int} (hd : decode cc pc = .ok (.if_icmp .ge off, 3)) (ht : (pc : Int) + off = (tq : Int)) (hq : pc + 3 = q) (kt : y ≤ x → J X tq lv st M) (kf : ¬ y ≤ x → J X q lv st M) : J X pc lv (.int y :: .int x :: st) M := by
  obtain ⟨p, l, e, R, s, m, args, below, meth, c, D, ⟨cI, cZ, cQ⟩, ρ, A, Q, kc, ks⟩ := X
  subst hq; obtain ⟨hx, hb, h⟩ := h
  intro hn H locs ls hP hS hl
  exact lv_icmp_ge hx hb hd ht (fun z => kt z hn H locs ls hP hS hl) (fun z => kf z hn H locs ls hP hS hl)
theorem j_if_gt (h : Ok X own cc d) (tq q : Nat) {x : Int32} {off : Int} (hd : decode cc pc = .ok (.ifCond .gt off, 3)) (ht : (pc : Int) + off = (tq : Int)) (hq : pc + 3 = q) (kt : 0 < x → J X tq lv st M) (kf : ¬ 0 < x → J X q lv st M) : J X pc lv (.int x :: st) M := by
  obtain ⟨p, l, e, R, s, m, args, below, meth, c, D, ⟨cI, cZ, cQ⟩, ρ, A, Q, kc, ks⟩ := X
  subst hq; obtain ⟨hx, hb, h⟩ := h
  intro hn H locs ls hP hS hl
  exact lv_if_gt hx hb hd ht (fun z => kt z hn H locs ls hP hS hl) (fun z => kf z hn H locs ls hP hS hl)
theorem j_icmp_gt (h : Ok X own cc d) (tq q : Nat) {x y : Int32} {off : Int} (hd : decode cc pc = .ok (.if_icmp .gt off, 3)) (ht : (pc : Int) + off = (tq : Int)) (hq : pc + 3 = q) (kt : y < x → J X tq lv st M) (kf : ¬ y < x → J X q lv st M) : J X pc lv (.int y :: .int x :: st) M := by
  obtain ⟨p, l, e, R, s, m, args, below, meth, c, D, ⟨cI, cZ, cQ⟩, ρ, A, Q, kc, ks⟩ := X
  subst hq; obtain ⟨hx, hb, h⟩ := h
  intro hn H locs ls hP hS hl
  exact lv_icmp_gt hx hb hd ht (fun z => kt z hn H locs ls hP hS hl) (fun z => kf z hn H locs ls hP hS hl)
theorem j_if_le (h : Ok X own cc d) (tq q : Nat) {x : Int32} {off : Int} (hd : decode cc pc = .ok (.ifCond .le off, 3)) (ht : (pc : Int) + off = (tq : Int)) (hq : pc + 3 = q) (kt : x ≤ 0 → J X tq lv st M) (kf : ¬ x ≤ 0 → J X q lv st M) : J X pc lv (.int x :: st) M := by
  obtain ⟨p, l, e, R, s, m, args, below, meth, c, D, ⟨cI, cZ, cQ⟩, ρ, A, Q, kc, ks⟩ := X
  subst hq; obtain ⟨hx, hb, h⟩ := h
  intro hn H locs ls hP hS hl
  exact lv_if_le hx hb hd ht (fun z => kt z hn H locs ls hP hS hl) (fun z => kf z hn H locs ls hP hS hl)
theorem j_icmp_le (h : Ok X own cc d) (tq q : Nat) {x y : Int32} {off : Int} (hd : decode cc pc = .ok (.if_icmp .le off, 3)) (ht : (pc : Int) + off = (tq : Int)) (hq : pc + 3 = q) (kt : x ≤ y → J X tq lv st M) (kf : ¬ x ≤ y → J X q lv st M) : J X pc lv (.int y :: .int x :: st) M := by
  obtain ⟨p, l, e, R, s, m, args, below, meth, c, D, ⟨cI, cZ, cQ⟩, ρ, A, Q, kc, ks⟩ := X
  subst hq; obtain ⟨hx, hb, h⟩ := h
  intro hn H locs ls hP hS hl
  exact lv_icmp_le hx hb hd ht (fun z => kt z hn H locs ls hP hS hl) (fun z => kf z hn H locs ls hP hS hl)
theorem j_goto (h : Ok X own cc d) (tq : Nat) {off : Int} (hd : decode cc pc = .ok (.goto off, 3)) (ht : (pc : Int) + off = (tq : Int)) (k : J X tq lv st M) : J X pc lv st M := by
  obtain ⟨p, l, e, R, s, m, args, below, meth, c, D, ⟨cI, cZ, cQ⟩, ρ, A, Q, kc, ks⟩ := X
  obtain ⟨hx, hb, h⟩ := h
  intro hn H locs ls hP hS hl
  exact lv_goto hx hb hd ht (k hn H locs ls hP hS hl)
/-- a switch over 0 .. n - 1: the targets, place by place -/
theorem j_tsw (h : Ok X own cc d) (tq : Nat) (ts : List Nat) {dflt hi : Int} {offs : Array Int} {len : Nat} {x : Int32} (hd : decode cc pc = .ok (.tableswitch dflt 0 hi offs, len)) (ht : (pc : Int) + dflt = (tq : Int)) (hts : offs.toList.map (fun o : Int => (pc : Int) + o) = ts.map (fun t : Nat => (t : Int))) (hhi : hi + 1 = (ts.length : Int)) (hs : ts.length < 2147483648)
    (kin : ∀ (i t : Nat), ts[i]? = some t → x = nI i → J X t lv st M) (kout : ¬ (0 ≤ x ∧ x < nI ts.length) → J X tq lv st M) : J X pc lv (.int x :: st) M := by
  obtain ⟨p, l, e, R, s, m, args, below, meth, c, D, ⟨cI, cZ, cQ⟩, ρ, A, Q, kc, ks⟩ := X
  obtain ⟨hx, hb, h⟩ := h
  intro hn H locs ls hP hS hl
  have e0 : (0 : Int32).toInt = 0 := rfl
  have eN : (nI ts.length).toInt = (ts.length : Int) := nI_toInt hs
  by_cases hx1 : 0 ≤ x.toInt ∧ x.toInt < (ts.length : Int)
  · have hlt : x.toInt.toNat < ts.length := by omega
    have hxi : x = nI x.toInt.toNat := by
      apply Int32.toInt_inj.mp
      rw [nI_toInt (by omega)]
      omega
    have hol : offs.size = ts.length := by
      have := congrArg List.length hts
      simpa using this
    have ho : offs[(x.toInt - 0).toNat]? = some offs[x.toInt.toNat] := by
      rw [show x.toInt - 0 = x.toInt by omega]
      exact Array.getElem?_eq_getElem (by omega)
    have ht9 : (pc : Int) + offs[x.toInt.toNat] = (ts[x.toInt.toNat] : Int) := by
      have h1 : (offs.toList.map (fun o : Int => (pc : Int) + o))[x.toInt.toNat]? = (ts.map (fun t : Nat => (t : Int)))[x.toInt.toNat]? := by rw [hts]
      rw [List.getElem?_map, List.getElem?_map, List.getElem?_eq_getElem (by simpa using (by omega : x.toInt.toNat < offs.size)), List.getElem?_eq_getElem hlt] at h1
      simpa using h1
    exact lv_tableIn hx hb hd (by omega) (by omega) ho ht9 (kin x.toInt.toNat _ (List.getElem?_eq_getElem hlt) hxi hn H locs ls hP hS hl)
  · refine lv_tableOut hx hb hd (by omega) ht (kout ?_ hn H locs ls hP hS hl)
    rintro ⟨h1, h2⟩
    have g1 := Int32.le_iff_toInt_le.mp h1
    have g2 := Int32.lt_iff_toInt_lt.mp h2
    rw [eN] at g2
    rw [e0] at g1
    exact hx1 ⟨g1, g2⟩
end JR
end
section
/-! rows of J: fields, arrays, statics, calls, ends -/
def Kc (ci : Nat) (C : String) (T : u_T) (N : Nat) (ty : Nat → FieldType) : Prop := vwCl[ci]? = some (C, T, N) ∧ (∀ w ∈ u_ws C T N, w ∈ wsL_law) ∧ (∀ k, k < N → parseFieldDescriptor (T k).2.2.1 = some (ty k)) ∧ ∀ a, a < N → ∀ b, b < N → a ≠ b → (T a).2.1 ≠ (T b).2.1
def Gl (own : String) (ix ci k : Nat) : Prop := ∃ (C : String) (T : u_T) (N : Nat) (ty : Nat → FieldType), Kc ci C T N ty ∧ k < N ∧ Cond.fieldLink own ix (T k).1 (T k).2.1 (T k).2.2.1 ∈ wsL_law
def Pl (own : String) (ix ci k : Nat) (t0 : FieldType) : Prop := ∃ (C : String) (T : u_T) (N : Nat) (ty : Nat → FieldType), Kc ci C T N ty ∧ k < N ∧ Cond.fieldLink own ix (T k).1 (T k).2.1 (T k).2.2.1 ∈ wsL_law ∧ (T k).2.2.2 = false ∧ parseFieldDescriptor (T k).2.2.1 = some t0
theorem fvs_putL (ρ : Nat → Nat) (M : hM) (a : Nat) {x : Int64} {fs : List Nat} {j : Nat} (hj : fs[j]? = some 1) (h2 : fs.length ≤ 1000) : (fvs ρ M a 0 fs).set j (.long x) = fvs ρ (mu (mu M a j (hiW x)) a (j + 1000) (loW x)) a 0 fs := by
  have hjl : j < fs.length := (List.getElem?_eq_some_iff.mp hj).1
  apply List.ext_getElem?
  intro i
  rw [fvs_get ρ (mu (mu M a j (hiW x)) a (j + 1000) (loW x)) a fs 0 i]
  by_cases hij : i = j
  · subst hij
    have hl : i < (fvs ρ M a 0 fs).length := by rw [fvs_len]; exact hjl
    rw [List.getElem?_set_self hl, hj, Nat.zero_add]
    show some (Value.long x) = some (cv ρ (.long (mkL (mu (mu M a i (hiW x)) a (i + 1000) (loW x) a i) (mu (mu M a i (hiW x)) a (i + 1000) (loW x) a (i + 1000)))))
    rw [mu_s, mu_k (show i ≠ i + 1000 by omega), mu_s, mkL_hl]; rfl
  · rw [List.getElem?_set_ne (Ne.symm hij), fvs_get ρ M a fs 0 i, Nat.zero_add]
    cases hf : fs[i]? with
    | none => rfl
    | some f =>
      have hil : i < fs.length := (List.getElem?_eq_some_iff.mp hf).1
      show some _ = some _
      congr 1
      match f with
      | 0 => show cv ρ (.int _) = cv ρ (.int _); rw [mu_k (show i ≠ j + 1000 by omega), mu_k hij]
      | 1 => show cv ρ (.long _) = cv ρ (.long _); rw [mu_k (show i ≠ j + 1000 by omega), mu_k hij, mu_k (show i + 1000 ≠ j + 1000 by omega), mu_k (show i + 1000 ≠ j by omega)]
      | b + 2 => rfl
theorem hSd_same {ρ : Nat → Nat} {A : Nat → Prop} {U : State} {g : JFrame} {mk : MethodId} {a : Array Value} (h : hSd ρ A U U.heap) : hSd ρ A (U.calling g mk a) (U.calling g mk a).heap := by
  obtain ⟨h1, ⟨h2, h3⟩, h4, h5, h6⟩ := h
  exact ⟨va_Z.moved (u := U) (U := U.calling g mk a) (Vm.Alike.refl U.vm) h1, ⟨va_Z.moved (u := U) (U := U.calling g mk a) (Vm.Alike.refl U.vm) h2, va_T.moved (u := U) (U := U.calling g mk a) (Vm.Alike.refl U.vm) h3⟩, vk_S.moved (u := U) (U := U.calling g mk a) (Vm.Alike.refl U.vm) h4, fun i hi => vk_R.same (u := U) (U := U.calling g mk a) rfl (h5 i hi), fun q hm => va_Nw.same rfl (show U.vm = (U.calling g mk a).vm from rfl) (h6 q hm)⟩
section JM
variable {X : hC} {own : String} {cc : ByteArray} {d : Nat} {pc : Nat} {lv : List (Option Value)} {st : List Value} {M : hM}
theorem j_get (h : Ok X own cc d) (q : Nat) (hq : pc + 3 = q) {ix ci k a f : Nat} {fs : List Nat} (hg : Gl own ix ci k) (ha : hT[a]? = some (0, ci, fs)) (hf : fs[k]? = some f) (hd : decode cc pc = .ok (.getfield ix, 3)) (kk : J X q lv (fva M a k f :: st) M) : J X pc lv (.ref a :: st) M := by
  obtain ⟨p, l, e, R, s, m, args, below, meth, c, D, ⟨cI, cZ, cQ⟩, ρ, A, Q, kc, ks⟩ := X
  subst hq; obtain ⟨hx, hb, ho, hts, -, hK, hD, hA9, hSt⟩ := h
  obtain ⟨C, T, N, ty, ⟨g1, g2, g3, g4⟩, g5, g6⟩ := hg
  intro hn H locs ls hP hS hl
  exact va_get hx hb hts g2 ho hK hP a (hW_get cI cZ cQ ρ M ha) g1 k g5 (hts _ g6) (fun _ h => h) (v := cv ρ (fva M a k f)) (by rw [fvs_get, hf, Nat.zero_add]; rfl) hd (kk hn H locs ls hP hS hl)
theorem j_getI (h : Ok X own cc d) (q : Nat) (hq : pc + 3 = q) {ix ci k a : Nat} {fs : List Nat} (hg : Gl own ix ci k) (ha : hT[a]? = some (0, ci, fs)) (hf : fs[k]? = some 0) (hd : decode cc pc = .ok (.getfield ix, 3)) (kk : J X q lv (.int (M a k) :: st) M) : J X pc lv (.ref a :: st) M := j_get h q hq hg ha hf hd kk
theorem j_getL (h : Ok X own cc d) (q : Nat) (hq : pc + 3 = q) {ix ci k a : Nat} {fs : List Nat} (hg : Gl own ix ci k) (ha : hT[a]? = some (0, ci, fs)) (hf : fs[k]? = some 1) (hd : decode cc pc = .ok (.getfield ix, 3)) (kk : J X q lv (.long (mkL (M a k) (M a (k + 1000))) :: st) M) : J X pc lv (.ref a :: st) M := j_get h q hq hg ha hf hd kk
theorem j_getR (h : Ok X own cc d) (q : Nat) (hq : pc + 3 = q) {ix ci k a b : Nat} {fs : List Nat} (hg : Gl own ix ci k) (ha : hT[a]? = some (0, ci, fs)) (hf : fs[k]? = some (b + 2)) (hd : decode cc pc = .ok (.getfield ix, 3)) (kk : J X q lv (.ref b :: st) M) : J X pc lv (.ref a :: st) M := j_get h q hq hg ha hf hd kk
theorem j_putI (h : Ok X own cc d) (q : Nat) (hq : pc + 3 = q) {ix ci k a : Nat} {fs : List Nat} {t0 : FieldType} {x : Int32} (hg : Pl own ix ci k t0) (ha : hT[a]? = some (0, ci, fs)) (hf : fs[k]? = some 0) (hfl : Nat.ble fs.length 1000 = true) (hnr : narrow t0 (.int x) = .int x) (hft : fits t0 (.int x) = true) (hd : decode cc pc = .ok (.putfield ix, 3)) (kk : J X q lv st (mu M a k x)) : J X pc lv (.int x :: .ref a :: st) M := by
  obtain ⟨p, l, e, R, s, m, args, below, meth, c, D, ⟨cI, cZ, cQ⟩, ρ, A, Q, kc, ks⟩ := X
  subst hq; obtain ⟨hx, hb, ho, hts, -, hK, hD, hA9, hSt⟩ := h
  obtain ⟨C, T, N, ty, ⟨g1, g2, g3, g4⟩, g5, g6, g7, g8⟩ := hg
  have hfl := Nat.le_of_ble_eq_true hfl
  have hkl : k < fs.length := (List.getElem?_eq_some_iff.mp hf).1
  intro hn H locs ls hP hS hl
  refine va_put hx hb hts g2 ty g3 g4 ho hK hP (hD M) hS a (hW_get cI cZ cQ ρ M ha) g1 k g5 (hts _ g6) (fun _ h => h) g7 g8 hnr hft (by rw [fvs_len]; exact hkl) hd (fun H1 locs1 hP1 _ hS1 => kk hn H1 locs1 ls ?_ hS1 hl)
  rwa [hW_put cI cZ cQ ρ M (mu M a k x) ha (by
    show Sum.inr (ci, fvs ρ (mu M a k x) a 0 fs) = _
    rw [← fvs_put ρ M a fs 0 k (Nat.zero_add k) hf (fun _ _ _ => by omega) (fun i hi => by have := (List.getElem?_eq_some_iff.mp hi).1; omega)]
    rfl) (hE_off cI cZ cQ ρ M)] at hP1
theorem j_putL (h : Ok X own cc d) (q : Nat) (hq : pc + 3 = q) {ix ci k a : Nat} {fs : List Nat} {x : Int64} (hg : Pl own ix ci k .long) (ha : hT[a]? = some (0, ci, fs)) (hf : fs[k]? = some 1) (hfl : Nat.ble fs.length 1000 = true) (hd : decode cc pc = .ok (.putfield ix, 3)) (kk : J X q lv st (mu (mu M a k (hiW x)) a (k + 1000) (loW x))) : J X pc lv (.long x :: .ref a :: st) M := by
  obtain ⟨p, l, e, R, s, m, args, below, meth, c, D, ⟨cI, cZ, cQ⟩, ρ, A, Q, kc, ks⟩ := X
  subst hq; obtain ⟨hx, hb, ho, hts, -, hK, hD, hA9, hSt⟩ := h
  obtain ⟨C, T, N, ty, ⟨g1, g2, g3, g4⟩, g5, g6, g7, g8⟩ := hg
  have hfl := Nat.le_of_ble_eq_true hfl
  have hkl : k < fs.length := (List.getElem?_eq_some_iff.mp hf).1
  intro hn H locs ls hP hS hl
  refine va_put hx hb hts g2 ty g3 g4 ho hK hP (hD M) hS a (hW_get cI cZ cQ ρ M ha) g1 k g5 (hts _ g6) (fun _ h => h) g7 g8 rfl rfl (by rw [fvs_len]; exact hkl) hd (fun H1 locs1 hP1 _ hS1 => kk hn H1 locs1 ls ?_ hS1 hl)
  rwa [hW_put cI cZ cQ ρ M (mu (mu M a k (hiW x)) a (k + 1000) (loW x)) ha (by
    show Sum.inr (ci, fvs ρ (mu (mu M a k (hiW x)) a (k + 1000) (loW x)) a 0 fs) = _
    rw [← fvs_putL ρ M a hf hfl]
    rfl) (fun b hb s2 => (hE_off cI cZ cQ ρ _ b hb s2).trans (hE_off cI cZ cQ ρ M b hb s2))] at hP1
theorem vp_nI {i : Int32} {j n : Nat} (hi : i = nI j) (hj : j < n) (hn : Nat.ble n 1000 = true) : vp_in i n ∧ i.toNatClampNeg = j := by
  have := Nat.le_of_ble_eq_true hn
  subst hi
  exact ⟨vp_in_nI hj (by omega), nI_clamp (by omega)⟩
theorem j_iald (h : Ok X own cc d) (q : Nat) (hq : pc + 1 = q) {a n : Nat} {z : List Nat} {i : Int32} (ha : hT[a]? = some (1, n, z)) (j : Nat) (hi : i = nI j) (hj : j < n) (hs : Nat.ble n 1000 = true) (hd : decode cc pc = .ok (.iaload, 1)) (kk : J X q lv (.int (M a j) :: st) M) : J X pc lv (.int i :: .ref a :: st) M := by
  obtain ⟨p, l, e, R, s, m, args, below, meth, c, D, ⟨cI, cZ, cQ⟩, ρ, A, Q, kc, ks⟩ := X
  subst hq; obtain ⟨hx, hb, ho, hts, -, hK, hD, hA9, hSt⟩ := h
  obtain ⟨e1, e2⟩ := vp_nI hi hj hs
  intro hn H locs ls hP hS hl
  refine va_iald hx hb hK hP a 0 (hW_get cI cZ cQ ρ M ha) rfl e1 hd ?_
  rw [e2]
  exact kk hn H locs ls hP hS hl
theorem upd_mu {M : hM} {a j : Nat} {x : Int32} : upd (M a) j x = mu M a j x a := by
  funext b
  by_cases hb : b = j
  · subst hb; rw [mu_s]; exact if_pos rfl
  · rw [mu_k hb]; exact if_neg hb
theorem j_iast (h : Ok X own cc d) (q : Nat) (hq : pc + 1 = q) {a n : Nat} {z : List Nat} {i x : Int32} (ha : hT[a]? = some (1, n, z)) (j : Nat) (hi : i = nI j) (hj : j < n) (hs : Nat.ble n 1000 = true) (hd : decode cc pc = .ok (.iastore, 1)) (kk : J X q lv st (mu M a j x)) : J X pc lv (.int x :: .int i :: .ref a :: st) M := by
  obtain ⟨p, l, e, R, s, m, args, below, meth, c, D, ⟨cI, cZ, cQ⟩, ρ, A, Q, kc, ks⟩ := X
  subst hq; obtain ⟨hx, hb, ho, hts, -, hK, hD, hA9, hSt⟩ := h
  obtain ⟨e1, e2⟩ := vp_nI hi hj hs
  intro hn H locs ls hP hS hl
  refine va_iast hx hb hK hP (hD M) hS a 0 (hW_get cI cZ cQ ρ M ha) rfl e1 hd (fun H1 locs1 hP1 _ hS1 => kk hn H1 locs1 ls ?_ hS1 hl)
  rw [e2] at hP1
  rwa [hW_put cI cZ cQ ρ M (mu M a j x) ha (by
    show Sum.inl (cI, n, Sum.inl (mu M a j x a)) = _
    rw [upd_mu]) (hE_off cI cZ cQ ρ M)] at hP1
theorem j_zald (h : Ok X own cc d) (q : Nat) (hq : pc + 1 = q) {a n : Nat} {z : List Nat} {i : Int32} (ha : hT[a]? = some (2, n, z)) (j : Nat) (hi : i = nI j) (hj : j < n) (hs : Nat.ble n 1000 = true) (hd : decode cc pc = .ok (.baload, 1)) (kk : J X q lv (.int (M a j) :: st) M) : J X pc lv (.int i :: .ref a :: st) M := by
  obtain ⟨p, l, e, R, s, m, args, below, meth, c, D, ⟨cI, cZ, cQ⟩, ρ, A, Q, kc, ks⟩ := X
  subst hq; obtain ⟨hx, hb, ho, hts, -, hK, hD, hA9, hSt⟩ := h
  obtain ⟨e1, e2⟩ := vp_nI hi hj hs
  intro hn H locs ls hP hS hl
  refine va_zald hx hb hK hP a 1 (hW_get cI cZ cQ ρ M ha) rfl e1 hd ?_
  rw [e2]
  exact kk hn H locs ls hP hS hl
theorem j_zast (h : Ok X own cc d) (q : Nat) (hq : pc + 1 = q) {a n : Nat} {z : List Nat} {i x : Int32} (ha : hT[a]? = some (2, n, z)) (j : Nat) (hi : i = nI j) (hj : j < n) (hs : Nat.ble n 1000 = true) (hnr : vp_nar .boolean x = x) (hd : decode cc pc = .ok (.bastore, 1)) (kk : J X q lv st (mu M a j x)) : J X pc lv (.int x :: .int i :: .ref a :: st) M := by
  obtain ⟨p, l, e, R, s, m, args, below, meth, c, D, ⟨cI, cZ, cQ⟩, ρ, A, Q, kc, ks⟩ := X
  subst hq; obtain ⟨hx, hb, ho, hts, -, hK, hD, hA9, hSt⟩ := h
  obtain ⟨e1, e2⟩ := vp_nI hi hj hs
  intro hn H locs ls hP hS hl
  refine va_zast hx hb hK hP (hD M) hS a 1 (hW_get cI cZ cQ ρ M ha) rfl e1 hd (fun H1 locs1 hP1 _ hS1 => kk hn H1 locs1 ls ?_ hS1 hl)
  rw [e2, hnr] at hP1
  rwa [hW_put cI cZ cQ ρ M (mu M a j x) ha (by
    show Sum.inl (cZ, n, Sum.inl (mu M a j x a)) = _
    rw [upd_mu]) (hE_off cI cZ cQ ρ M)] at hP1
theorem j_aald (h : Ok X own cc d) (q : Nat) (hq : pc + 1 = q) {a n b : Nat} {i : Int32} (ha : hT[a]? = some (3, n, [b])) (j : Nat) (hi : i = nI j) (hj : j < n) (hs : Nat.ble n 1000 = true) (hd : decode cc pc = .ok (.aaload, 1)) (kk : J X q lv (.ref (b + j) :: st) M) : J X pc lv (.int i :: .ref a :: st) M := by
  obtain ⟨p, l, e, R, s, m, args, below, meth, c, D, ⟨cI, cZ, cQ⟩, ρ, A, Q, kc, ks⟩ := X
  subst hq; obtain ⟨hx, hb, ho, hts, -, hK, hD, hA9, hSt⟩ := h
  obtain ⟨e1, e2⟩ := vp_nI hi hj hs
  intro hn H locs ls hP hS hl
  have hc : H[ρ a]? = some (arrV cQ n (fun i => va_rf (if i < n then some (ρ (b + i)) else none))) := hP a _ (hW_get cI cZ cQ ρ M ha)
  refine W.aald (v := .ref (ρ (b + j))) (ty := .array .int) hx hb hc ((hK.2 2 _ rfl).1 n _) rfl (fun q => by cases q) (by rw [arrV_size]; exact e1) ?_ rfl rfl hd (kk hn H locs ls hP hS hl)
  rw [e2, arrV_read _ _ hj, if_pos hj]
  rfl
/-- BOUNDS -/
theorem j_bnd (h : Ok X RX5 cc d) (q : Nat) (hq : pc + 3 = q) {ix : Nat} (hw : Cond.fieldLink RX5 ix "HotWeek$Reader" "BOUNDS" "[I" ∈ wsL_law) (hd : decode cc pc = .ok (.getstatic ix, 3)) (kk : J X q lv (.ref 540 :: st) M) : J X pc lv st M := by
  obtain ⟨p, l, e, R, s, m, args, below, meth, c, D, ⟨cI, cZ, cQ⟩, ρ, A, Q, kc, ks⟩ := X
  subst hq; obtain ⟨hx, hb, ho, hts, -, hK, hD, hA9, -, ⟨hZ, -⟩, -⟩ := h
  intro hn H locs ls hP hS hl
  exact va_gets hx hb hZ hS ho (hts _ hw) (fun _ h => h) hd (kk hn H locs ls hP hS hl)
theorem j_bndi (h : Ok X own cc d) (q : Nat) (hq : pc + 1 = q) {i : Int32} (j : Nat) (hi : i = nI j) (hj : j < 50) (hd : decode cc pc = .ok (.iaload, 1)) (kk : J X q lv (.int (hBnd.getD j 0) :: st) M) : J X pc lv (.int i :: .ref 540 :: st) M := by
  obtain ⟨p, l, e, R, s, m, args, below, meth, c, D, ⟨cI, cZ, cQ⟩, ρ, A, Q, kc, ks⟩ := X
  subst hq; obtain ⟨hx, hb, ho, hts, -, hK, hD, hA9, -, ⟨-, hT9⟩, -⟩ := h
  obtain ⟨e1, e2⟩ := vp_nI hi hj rfl
  intro hn H locs ls hP hS hl
  exact va_ti hx hb hT9 hS e1 (v := .int (hBnd.getD j 0)) (by rw [e2]) hd (kk hn H locs ls hP hS hl)
/-- COMPACT_STRINGS -/
theorem j_cst (h : Ok X own cc d) (q : Nat) (hq : pc + 3 = q) {ix : Nat} (hw : Cond.fieldLink own ix "java/lang/String" "COMPACT_STRINGS" "Z" ∈ wsL_law) (hd : decode cc pc = .ok (.getstatic ix, 3)) (kk : J X q lv (.int 1 :: st) M) : J X pc lv st M := by
  obtain ⟨p, l, e, R, s, m, args, below, meth, c, D, ⟨cI, cZ, cQ⟩, ρ, A, Q, kc, ks⟩ := X
  subst hq; obtain ⟨hx, hb, ho, hts, -, hK, hD, hA9, hZ, -⟩ := h
  intro hn H locs ls hP hS hl
  exact va_gets hx hb hZ hS ho (hts _ hw) (fun _ h => h) hd (kk hn H locs ls hP hS hl)
theorem j_strV (h : Ok X own cc d) (q : Nat) (hq : pc + 3 = q) {ix i : Nat} (hi : i < 10) (hw : Cond.fieldLink own ix "java/lang/String" "value" "[B" ∈ wsL_law) (hd : decode cc pc = .ok (.getfield ix, 3)) (kk : J X q lv (.ref (520 + i) :: st) M) : J X pc lv (.ref (500 + i) :: st) M := by
  obtain ⟨p, l, e, R, s, m, args, below, meth, c, D, ⟨cI, cZ, cQ⟩, ρ, A, Q, kc, ks⟩ := X
  subst hq; obtain ⟨hx, hb, ho, hts, -, hK, hD, hA9, -, -, hV, -⟩ := h
  intro hn H locs ls hP hS hl
  exact vk_getf hx hb (hV.1 i hi).2.2.1 hS ho (hts _ hw) (fun _ h => h) hd (kk hn H locs ls hP hS hl)
theorem j_strC (h : Ok X own cc d) (q : Nat) (hq : pc + 3 = q) {ix i : Nat} (hi : i < 10) (hw : Cond.fieldLink own ix "java/lang/String" "coder" "B" ∈ wsL_law) (hd : decode cc pc = .ok (.getfield ix, 3)) (kk : J X q lv (.int 0 :: st) M) : J X pc lv (.ref (500 + i) :: st) M := by
  obtain ⟨p, l, e, R, s, m, args, below, meth, c, D, ⟨cI, cZ, cQ⟩, ρ, A, Q, kc, ks⟩ := X
  subst hq; obtain ⟨hx, hb, ho, hts, -, hK, hD, hA9, -, -, hV, -⟩ := h
  intro hn H locs ls hP hS hl
  exact vk_getf hx hb (hV.1 i hi).2.1 hS ho (hts _ hw) (fun _ h => h) hd (kk hn H locs ls hP hS hl)
theorem j_strB (h : Ok X own cc d) (q : Nat) (hq : pc + 1 = q) {i : Nat} (hi : i < 10) {x : Int32} (j : Nat) (hx9 : x = nI j) (hj : j < hLen.getD i 0) (hs : hLen.getD i 0 < 1000) (hd : decode cc pc = .ok (.baload, 1)) (kk : J X q lv (.int ((hByt.getD i []).getD j 0) :: st) M) : J X pc lv (.int x :: .ref (520 + i) :: st) M := by
  obtain ⟨p, l, e, R, s, m, args, below, meth, c, D, ⟨cI, cZ, cQ⟩, ρ, A, Q, kc, ks⟩ := X
  subst hq; obtain ⟨hx, hb, ho, hts, -, hK, hD, hA9, -, -, hV, -⟩ := h
  obtain ⟨e1, e2⟩ := vp_nI hx9 hj (Nat.ble_eq_true_of_le (by omega))
  intro hn H locs ls hP hS hl
  exact va_tb hx hb (hV.1 i hi).2.2.2 hS e1 (v := .int ((hByt.getD i []).getD j 0)) (by rw [e2]) hd (kk hn H locs ls hP hS hl)
theorem j_strL (h : Ok X own cc d) (q : Nat) (hq : pc + 1 = q) {i : Nat} (hi : i < 10) (hd : decode cc pc = .ok (.arraylength, 1)) (kk : J X q lv (.int (nI (hLen.getD i 0)) :: st) M) : J X pc lv (.ref (520 + i) :: st) M := by
  obtain ⟨p, l, e, R, s, m, args, below, meth, c, D, ⟨cI, cZ, cQ⟩, ρ, A, Q, kc, ks⟩ := X
  subst hq; obtain ⟨hx, hb, ho, hts, -, hK, hD, hA9, -, -, hV, -⟩ := h
  intro hn H locs ls hP hS hl
  exact va_tlen hx hb (hV.1 i hi).2.2.2 hS rfl hd (kk hn H locs ls hP hS hl)
/-- ends -/
theorem j_ret {ty : FieldType} {Post : Option Value → hM → Prop} {v : Int32} (h : Ok X own cc d) (hr : Rt X (some ty) Post) (hnr : narrow ty (.int v) = .int v) (hd : decode cc pc = .ok (.ireturn, 1)) (hp : Post (some (.int v)) M) : J X pc lv [.int v] M := by
  obtain ⟨p, l, e, R, s, m, args, below, meth, c, D, ⟨cI, cZ, cQ⟩, ρ, A, Q, kc, ks⟩ := X
  obtain ⟨hx, hb, h⟩ := h
  obtain ⟨r1, r2, r3, r4, r5⟩ := hr
  subst r3; subst r4; subst r5
  intro hn H locs ls hP hS hl
  exact W.zret hx hb r1 hnr (fun t ht hW => ⟨⟨some (.int v), M, rfl, hp, by rw [ht]; exact hP⟩, hS.F ht⟩) hS.2.2 hd r2
theorem j_vret {Post : Option Value → hM → Prop} (h : Ok X own cc d) (hr : Rt X none Post) (hd : decode cc pc = .ok (.return_, 1)) (hp : Post none M) : J X pc lv [] M := by
  obtain ⟨p, l, e, R, s, m, args, below, meth, c, D, ⟨cI, cZ, cQ⟩, ρ, A, Q, kc, ks⟩ := X
  obtain ⟨hx, hb, h⟩ := h
  obtain ⟨r1, r2, r3, r4, r5⟩ := hr
  subst r3; subst r4; subst r5
  intro hn H locs ls hP hS hl
  exact W.vret hx hb r1 (fun t ht hW => ⟨⟨none, M, rfl, hp, by rw [ht]; exact hP⟩, hS.F ht⟩) hS.2.2 hd r2
theorem j_aret {Post : Option Value → hM → Prop} {rt : FieldType} {a : Nat} (h : Ok X own cc d) (hr : Rt X (some rt) Post) (hrt : (∃ n, rt = .object n) ∨ ∃ t, rt = .array t) (hd : decode cc pc = .ok (.areturn, 1)) (hp : Post (some (.ref a)) M) : J X pc lv [.ref a] M := by
  obtain ⟨p, l, e, R, s, m, args, below, meth, c, D, ⟨cI, cZ, cQ⟩, ρ, A, Q, kc, ks⟩ := X
  obtain ⟨hx, hb, h⟩ := h
  obtain ⟨r1, r2, r3, r4, r5⟩ := hr
  subst r3; subst r4; subst r5
  intro hn H locs ls hP hS hl
  exact W.aret hx hb r1 hrt (Or.inr ⟨ρ a, rfl⟩) (fun t ht hW => ⟨⟨some (.ref a), M, rfl, hp, by rw [ht]; exact hP⟩, hS.F ht⟩) hS.2.2 hd r2
end JM
/-- the tables' words, each good for a call -/
theorem gG : GoodIn wsL_law wsL_law := fun w h => ⟨h, good_of_word (List.all_eq_true.mp (by decide +kernel : wsL_law.all goodWord = true) w h)⟩
theorem gGc {w : Cond} (h : w ∈ wsL_law) : GoodIn wsL_law (w :: wsL_law) := fun v hv => by
  rcases List.mem_cons.mp hv with rfl | hv
  · exact gG _ h
  · exact gG _ hv
/-- a method that is called: its code is known -/
def Md (y : hMd) (n : Nat) : Prop := .code y.1 y.2.1 y.2.2.1 y.2.2.2 ∈ wsL_law ∧ .initialized y.1.cls ∈ wsL_law ∧ Nat.ble y.2.2.1 20 = true ∧ (y.1.cls ≠ "java/lang/invoke/MethodHandle" ∧ y.1.cls ≠ "java/lang/invoke/VarHandle" ∧ (parseMethodDescriptor y.1.desc).map (fun d => d.parameters.length) = some n)
def LkV (own : String) (ix : Nat) (y : hMd) (n : Nat) : Prop := Md y n ∧ .methodLink own ix y.1 ∈ wsL_law ∧ .instanceMethod y.1 ∈ wsL_law ∧ .selects y.1.cls y.1 y.1 ∈ wsL_law
def LkS (own : String) (ix : Nat) (y : hMd) (n : Nat) : Prop := Md y n ∧ .methodLink own ix y.1 ∈ wsL_law ∧ .static y.1 ∈ wsL_law
def LkN (own : String) (ix : Nat) (y : hMd) (n : Nat) : Prop := Md y n ∧ (∃ host, (own, ix, y.1, host) ∈ hNest) ∧ .static y.1 ∈ wsL_law
section JC
variable {p : Program} {l : Launch} {e : Env} {R : Room} {s : State} {m : MethodId} {args : Array Value} {below : List Frame} {meth : Method} {c : Code} {D : va_G} {cI cZ cQ : ClassId} {ρ : Nat → Nat} {A : Nat → Prop} {Q : State → Prop} {kc ks : Nat}
variable {own : String} {cc : ByteArray} {d d' pc : Nat} {lv : List (Option Value)} {st : List Value} {M : hM}
theorem hA_in {H : Heap} {locs : List Loc} (hD : va_D A (hW cI cZ cQ ρ M)) (hA9 : ∀ q, s.heap.size ≤ q → A q) (hS : va_S A s.heap H locs) : ∀ q, hA ρ H.size q → A q := by
  intro q hq
  rcases hq with ⟨k, hk, rfl⟩ | hq
  · obtain ⟨x, hx⟩ : ∃ x, (hW cI cZ cQ ρ M)[k]? = some x := ⟨_, List.getElem?_eq_getElem (by rw [hW_len]; exact hk)⟩
    have := hD.2 k x hx
    rwa [(hW_inv _ _ _ _ _ hx).2] at this
  · exact hA9 q (Nat.le_trans hS.1 hq)
/-- what the callee finds -/
theorem hU_at {H : Heap} {locs : List Loc} (hK : va_K D vwCl [(cI, .int), (cZ, .boolean), (cQ, .array .int)] s) (hD : va_D A (hW cI cZ cQ ρ M)) (hA9 : ∀ q, s.heap.size ≤ q → A q) (hSt : hSd ρ A s s.heap) (hP : va_P D vwCl (hW cI cZ cQ ρ M) H) (hS : va_S A s.heap H locs) (U : State) (hU9 : U.heap = H) (hW9 : s.WarmedH U.vm) : U.heap.size = H.size ∧ hU D cI cZ cQ ρ (hA ρ H.size) M U := by
  subst hU9
  exact ⟨rfl, hP, va_K.moved hW9.alike hK, hD.weaken (fun _ _ _ _ => trivial), hSd_go hSt hW9 hS.2.1 (hA_in hD hA9 hS)⟩
theorem hPc_blind {as : List Value} {sz : Nat} {B : Nat → Prop} : FrameBlind (va_Pc as (fun U => U.heap.size = sz ∧ hU D cI cZ cQ ρ B M U)) := by
  intro a U g mk q
  obtain ⟨q0, q1, qP, qK, qD, qS⟩ := q
  exact ⟨q0, q1, qP, va_K.moved (u := U) (U := U.calling g mk a) (Vm.Alike.refl U.vm) qK, qD, hSd_same qS⟩
theorem j_back {Post : Option Value → hM → Prop} {H : Heap} {locs : List Loc} {ls : Array Slot} {st0 : List Value} {a9 : Array Value} (hD : va_D A (hW cI cZ cQ ρ M)) (hA9 : ∀ q, s.heap.size ≤ q → A q) (hS : va_S A s.heap H locs) (hr : va_Run p l e R s m args below meth c H locs kc ks 0 0 (F0 m pc ls st0) (st.map (cv ρ)) (hQ D cI cZ cQ ρ (hA ρ H.size) Post a9) (hA ρ H.size))
    (hn : lv.length ≤ c.maxLocals) (hl : lv_has ls c.maxLocals (lvc ρ 0 lv)) (kk : ∀ r M', Post r M' → J (p, l, e, R, s, m, args, below, meth, c, D, (cI, cZ, cQ), ρ, A, Q, kc, ks) (pc + 3) lv (r.toList ++ st) M') : W p l e R s m args below meth c H locs kc ks Q (F0 m pc ls st0) := by
  intro T hT X
  obtain ⟨v, st₀, t, T', L, h0, X', hL, e1, e2, ⟨⟨r, M', hv, hp, hP'⟩, hz, hk⟩, st9⟩ := hr T hT X
  have hv2 : v = r.map (cv ρ) := by cases hv; rfl
  subst hv2
  rw [h0] at hz hk
  have hAA := hA_in hD hA9 hS
  have hS' : va_S A s.heap T'.heap (locs ++ L) := ⟨Nat.le_trans hS.1 (by rw [e1]; exact hz), fun q h1 h2 => by rw [e1, hk q (Nat.lt_of_lt_of_le h1 hS.1) (fun z => h2 (hAA q z))]; exact hS.2.1 q h1 h2, fun q hq => by
      rcases List.mem_append.mp hq with h | h
      · exact hS.2.2 q h
      · exact hAA _ (hL q h)⟩
  obtain ⟨t2, a1, b1⟩ := kk r M' hp hn T'.heap (locs ++ L) ls (by rw [e1]; exact hP') hS' hl T' rfl X'
  refine ⟨t2, st9 t2 ?_, b1⟩
  have e3 : (Option.map (cv ρ) r).toList ++ st.map (cv ρ) = (r.toList ++ st).map (cv ρ) := by cases r <;> rfl
  rw [e3]
  exact a1
theorem cat_map {st : List Value} : ((st.map (cv ρ)).map fun v => v.category).sum = (st.map fun v => v.category).sum := by
  rw [List.map_map]
  congr 1
  apply List.map_congr_left
  intro v _
  exact cv_cat ρ v
end JC
section JC2
variable {X : hC} {own : String} {cc : ByteArray} {d d' pc : Nat} {lv : List (Option Value)} {st : List Value} {M : hM} {Post : Option Value → hM → Prop}
theorem j_callV (h : Ok X own cc d) (q : Nat) (hq : pc + 3 = q) {ix n a ci : Nat} {fs : List Nat} {y : hMd} {as st0 : List Value} (hlk : LkV own ix y n) (ha : hT[a]? = some (0, ci, fs)) (hcl : (vwCl[ci]?).map (fun z => z.1) = some y.1.cls) (hn9 : as.length = n) (hct : Ct d' y (.ref a :: as) M Post) (hdd : Nat.ble (d' + 1) d = true) (hst : st0 = as.reverse ++ .ref a :: st) (hcat : Nat.ble ((st.map fun v => v.category).sum) 8 = true) (hd : decode cc pc = .ok (.invokevirtual ix, 3))
    (kk : ∀ r M', Post r M' → J X q lv (r.toList ++ st) M') : J X pc lv st0 M := by
  obtain ⟨p, l, e, R, s, m, args, below, meth, c, D, ⟨cI, cZ, cQ⟩, ρ, A, Q, kc, ks⟩ := X
  subst hq; subst hst
  obtain ⟨hx, hb, ho, hts, ⟨f1, f2, f3, f4⟩, hK, hD, hA9, hSt⟩ := h
  obtain ⟨⟨m1, m2, m3, m4⟩, g1, g2, g3⟩ := hlk
  have m3 := Nat.le_of_ble_eq_true m3
  have hdd := Nat.le_of_ble_eq_true hdd
  intro hn H locs ls hP hS hl
  have hcB : CallB R s args own ix y.1 y.2.1 y.2.2.1 y.2.2.2 (.code y.1 y.2.1 y.2.2.1 y.2.2.2 :: wsL_law) (hRm d') 0 0 n := callB_of n hts (gGc m1) rfl rfl rfl (hts _ m2) (hts _ g1) m4 ⟨by show d' + 1 ≤ _; omega, by show 8 + (y.2.2.1 + 11) + 39 * d' ≤ _; omega⟩
  cases hvc : vwCl[ci]? with
  | none => rw [hvc] at hcl; cases hcl
  | some z =>
  rw [hvc] at hcl
  have hz : z.1 = y.1.cls := by injection hcl
  have hrc := va_recv hK hP hvc (hW_get cI cZ cQ ρ M ha)
  rw [hz] at hrc
  exact j_back (hD M) hA9 hS (va_runV (Ts := wsL_law) (As := as.map (cv ρ)) (rest := st.map (cv ρ)) (b := ρ a) ⟨hx, hb, rfl, ho, hts⟩ (hct l D cI cZ cQ ρ H.size) ⟨hcB, hts _ g2, hts _ g3⟩ ⟨hPc_blind, hrc, fun U hU hW => ⟨rfl, hU_at hK (hD M) hA9 hSt hP hS U hU hW⟩⟩ rfl (by rw [List.length_map]; exact hn9) hl.1 (by simp [cv]) (lv_room (by rw [cat_map]; exact Nat.le_of_ble_eq_true hcat)) hd ⟨f3, f4⟩) hn hl kk
theorem j_callS (h : Ok X own cc d) (q : Nat) (hq : pc + 3 = q) {ix n : Nat} {y : hMd} {as st0 : List Value} (hlk : LkS own ix y n) (hn9 : as.length = n) (hct : Ct d' y as M Post) (hdd : Nat.ble (d' + 1) d = true) (hst : st0 = as.reverse ++ st) (hcat : Nat.ble ((st.map fun v => v.category).sum) 8 = true) (hd : decode cc pc = .ok (.invokestatic ix, 3))
    (kk : ∀ r M', Post r M' → J X q lv (r.toList ++ st) M') : J X pc lv st0 M := by
  obtain ⟨p, l, e, R, s, m, args, below, meth, c, D, ⟨cI, cZ, cQ⟩, ρ, A, Q, kc, ks⟩ := X
  subst hq; subst hst
  obtain ⟨hx, hb, ho, hts, ⟨f1, f2, f3, f4⟩, hK, hD, hA9, hSt⟩ := h
  obtain ⟨⟨m1, m2, m3, m4⟩, g1, g2⟩ := hlk
  have m3 := Nat.le_of_ble_eq_true m3
  have hdd := Nat.le_of_ble_eq_true hdd
  intro hn H locs ls hP hS hl
  have hcB : CallB R s args own ix y.1 y.2.1 y.2.2.1 y.2.2.2 (.code y.1 y.2.1 y.2.2.1 y.2.2.2 :: wsL_law) (hRm d') 0 0 n := callB_of n hts (gGc m1) rfl rfl rfl (hts _ m2) (hts _ g1) m4 ⟨by show d' + 1 ≤ _; omega, by show 8 + (y.2.2.1 + 11) + 39 * d' ≤ _; omega⟩
  exact j_back (hD M) hA9 hS (va_runS (Ts := wsL_law) (As := as.map (cv ρ)) (rest := st.map (cv ρ)) ⟨hx, hb, rfl, ho, hts⟩ (hct l D cI cZ cQ ρ H.size) ⟨hcB, hts _ g2⟩ ⟨hPc_blind, fun U hU hW => ⟨rfl, hU_at hK (hD M) hA9 hSt hP hS U hU hW⟩⟩ rfl (by rw [List.length_map]; exact hn9) hl.1 (by simp) (lv_room (by rw [cat_map]; exact Nat.le_of_ble_eq_true hcat)) hd ⟨f3, f4⟩) hn hl kk
theorem j_callN (h : Ok X own cc d) (q : Nat) (hq : pc + 3 = q) {ix n : Nat} {y : hMd} {as st0 : List Value} (hlk : LkN own ix y n) (hn9 : as.length = n) (hct : Ct d' y as M Post) (hdd : Nat.ble (d' + 1) d = true) (hst : st0 = as.reverse ++ st) (hcat : Nat.ble ((st.map fun v => v.category).sum) 8 = true) (hd : decode cc pc = .ok (.invokestatic ix, 3))
    (kk : ∀ r M', Post r M' → J X q lv (r.toList ++ st) M') : J X pc lv st0 M := by
  obtain ⟨p, l, e, R, s, m, args, below, meth, c, D, ⟨cI, cZ, cQ⟩, ρ, A, Q, kc, ks⟩ := X
  subst hq; subst hst
  obtain ⟨hx, hb, ho, hts, ⟨f1, f2, f3, f4⟩, hK, hD, hA9, hSt⟩ := h
  obtain ⟨⟨m1, m2, m3, m4⟩, ⟨host, g1⟩, g2⟩ := hlk
  have m3 := Nat.le_of_ble_eq_true m3
  have hdd := Nat.le_of_ble_eq_true hdd
  have hnest := hSt.2.2.2.2 _ g1
  intro hn H locs ls hP hS hl
  have hcB : va_CN R s args own ix y.1 host y.2.1 y.2.2.1 y.2.2.2 (.code y.1 y.2.1 y.2.2.1 y.2.2.2 :: wsL_law) (hRm d') 0 0 n := va_cnB n hts (gGc m1) rfl rfl rfl hnest (hts _ m2) m4 ⟨by show d' + 1 ≤ _; omega, by show 8 + (y.2.2.1 + 11) + 39 * d' ≤ _; omega⟩
  exact j_back (hD M) hA9 hS (va_runSN (Ts := wsL_law) (As := as.map (cv ρ)) (rest := st.map (cv ρ)) ⟨hx, hb, rfl, ho, hts⟩ (hct l D cI cZ cQ ρ H.size) ⟨hcB, hts _ g2, trivial⟩ ⟨hPc_blind, fun U hU hW => ⟨rfl, hU_at hK (hD M) hA9 hSt hP hS U hU hW⟩⟩ rfl (by rw [List.length_map]; exact hn9) hl.1 (by simp) (lv_room (by rw [cat_map]; exact Nat.le_of_ble_eq_true hcat)) hd ⟨f3, f4⟩) hn hl kk
/-- a call on a word -/
theorem j_callT (h : Ok X own cc d) (q : Nat) (hq : pc + 3 = q) {ix n i : Nat} (hi : i < 10) {y : hMd} {as st0 : List Value} (hlk : LkV own ix y n) (hcl : y.1.cls = "java/lang/String") (hn9 : as.length = n) (hct : Ct d' y (.ref (500 + i) :: as) M Post) (hdd : Nat.ble (d' + 1) d = true) (hst : st0 = as.reverse ++ .ref (500 + i) :: st) (hcat : Nat.ble ((st.map fun v => v.category).sum) 8 = true) (hd : decode cc pc = .ok (.invokevirtual ix, 3))
    (kk : ∀ r M', Post r M' → J X q lv (r.toList ++ st) M') : J X pc lv st0 M := by
  obtain ⟨p, l, e, R, s, m, args, below, meth, c, D, ⟨cI, cZ, cQ⟩, ρ, A, Q, kc, ks⟩ := X
  subst hq; subst hst
  obtain ⟨hx, hb, ho, hts, ⟨f1, f2, f3, f4⟩, hK, hD, hA9, hSt⟩ := h
  obtain ⟨⟨m1, m2, m3, m4⟩, g1, g2, g3⟩ := hlk
  have m3 := Nat.le_of_ble_eq_true m3
  have hdd := Nat.le_of_ble_eq_true hdd
  intro hn H locs ls hP hS hl
  have hcB : CallB R s args own ix y.1 y.2.1 y.2.2.1 y.2.2.2 (.code y.1 y.2.1 y.2.2.1 y.2.2.2 :: wsL_law) (hRm d') 0 0 n := callB_of n hts (gGc m1) rfl rfl rfl (hts _ m2) (hts _ g1) m4 ⟨by show d' + 1 ≤ _; omega, by show 8 + (y.2.2.1 + 11) + 39 * d' ≤ _; omega⟩
  have hrc := vk_recv hSt.2.2.1 hi hS
  rw [← hcl] at hrc
  exact j_back (hD M) hA9 hS (va_runV (Ts := wsL_law) (As := as.map (cv ρ)) (rest := st.map (cv ρ)) (b := ρ (500 + i)) ⟨hx, hb, rfl, ho, hts⟩ (hct l D cI cZ cQ ρ H.size) ⟨hcB, hts _ g2, hts _ g3⟩ ⟨hPc_blind, hrc, fun U hU hW => ⟨rfl, hU_at hK (hD M) hA9 hSt hP hS U hU hW⟩⟩ rfl (by rw [List.length_map]; exact hn9) hl.1 (by simp [cv]) (lv_room (by rw [cat_map]; exact Nat.le_of_ble_eq_true hcat)) hd ⟨f3, f4⟩) hn hl kk
theorem j_max (h : Ok X own cc d) (q : Nat) (hq : pc + 3 = q) {ix : Nat} {x y : Int32} (hw : Cond.methodLink own ix Lib.Math.max.name ∈ wsL_law) (hw2 : Cond.static Lib.Math.max.name ∈ wsL_law) (hw3 : Cond.initialized "java/lang/Math" ∈ wsL_law) (hw4 : Cond.code Lib.Math.max.name Lib.Math.max.code 2 (some .int) ∈ wsL_law) (h1 : Nat.ble 1 d = true) (hcat : Nat.ble ((st.map fun v => v.category).sum) 8 = true) (hd : decode cc pc = .ok (.invokestatic ix, 3)) (kk : J X q lv (.int (if x < y then y else x) :: st) M) : J X pc lv (.int y :: .int x :: st) M := by
  obtain ⟨p, l, e, R, s, m, args, below, meth, c, D, ⟨cI, cZ, cQ⟩, ρ, A, Q, kc, ks⟩ := X
  subst hq
  obtain ⟨hx, hb, ho, hts, ⟨f1, f2, f3, f4⟩, hK, hD, hA9, hSt⟩ := h
  have h1 := Nat.le_of_ble_eq_true h1
  have hcat := Nat.le_of_ble_eq_true hcat
  intro hn H locs ls hP hS hl
  exact va_mmax hx hb hl.1.symm ho (hts _ hw) (hts _ hw2) (hts _ hw3) (hts _ hw4) (by omega) (by rw [cat_map]; omega) f3 f4 hd (kk hn H locs ls hP hS hl)
theorem j_min (h : Ok X own cc d) (q : Nat) (hq : pc + 3 = q) {ix : Nat} {x y : Int32} (hw : Cond.methodLink own ix Lib.Math.min.name ∈ wsL_law) (hw2 : Cond.static Lib.Math.min.name ∈ wsL_law) (hw3 : Cond.initialized "java/lang/Math" ∈ wsL_law) (hw4 : Cond.code Lib.Math.min.name Lib.Math.min.code 2 (some .int) ∈ wsL_law) (h1 : Nat.ble 1 d = true) (hcat : Nat.ble ((st.map fun v => v.category).sum) 8 = true) (hd : decode cc pc = .ok (.invokestatic ix, 3)) (kk : J X q lv (.int (if y < x then y else x) :: st) M) : J X pc lv (.int y :: .int x :: st) M := by
  obtain ⟨p, l, e, R, s, m, args, below, meth, c, D, ⟨cI, cZ, cQ⟩, ρ, A, Q, kc, ks⟩ := X
  subst hq
  obtain ⟨hx, hb, ho, hts, ⟨f1, f2, f3, f4⟩, hK, hD, hA9, hSt⟩ := h
  have h1 := Nat.le_of_ble_eq_true h1
  have hcat := Nat.le_of_ble_eq_true hcat
  intro hn H locs ls hP hS hl
  exact va_mmin hx hb hl.1.symm ho (hts _ hw) (hts _ hw2) (hts _ hw3) (hts _ hw4) (by omega) (by rw [cat_map]; omega) f3 f4 hd (kk hn H locs ls hP hS hl)
theorem j_abs (h : Ok X own cc d) (q : Nat) (hq : pc + 3 = q) {ix : Nat} {x : Int32} (hw : Cond.methodLink own ix Lib.Math.abs.name ∈ wsL_law) (hw2 : Cond.static Lib.Math.abs.name ∈ wsL_law) (hw3 : Cond.initialized "java/lang/Math" ∈ wsL_law) (hw4 : Cond.code Lib.Math.abs.name Lib.Math.abs.code 1 (some .int) ∈ wsL_law) (h1 : Nat.ble 1 d = true) (hcat : Nat.ble ((st.map fun v => v.category).sum) 8 = true) (hd : decode cc pc = .ok (.invokestatic ix, 3)) (kk : J X q lv (.int (if 0 ≤ x then x else 0 - x) :: st) M) : J X pc lv (.int x :: st) M := by
  obtain ⟨p, l, e, R, s, m, args, below, meth, c, D, ⟨cI, cZ, cQ⟩, ρ, A, Q, kc, ks⟩ := X
  subst hq
  obtain ⟨hx, hb, ho, hts, ⟨f1, f2, f3, f4⟩, hK, hD, hA9, hSt⟩ := h
  have h1 := Nat.le_of_ble_eq_true h1
  have hcat := Nat.le_of_ble_eq_true hcat
  intro hn H locs ls hP hS hl
  exact va_mabs hx hb hl.1.symm ho (hts _ hw) (hts _ hw2) (hts _ hw3) (hts _ hw4) (by omega) (by rw [cat_map]; omega) f3 f4 hd (kk hn H locs ls hP hS hl)
end JC2

/-! rows over naturals (nI), truth values (hb), calls by kind of answer -/
def hb (P : Prop) [Decidable P] : Int32 := if P then 1 else 0
theorem hb_t {P : Prop} [Decidable P] (h : P) : hb P = 1 := if_pos h
theorem hb_f {P : Prop} [Decidable P] (h : ¬ P) : hb P = 0 := if_neg h
theorem hb_0 {P : Prop} [Decidable P] : hb P = 0 ↔ ¬ P := by
  unfold hb
  by_cases h : P
  · rw [if_pos h]; exact ⟨fun q => absurd q (by decide), fun q => absurd h q⟩
  · rw [if_neg h]; exact ⟨fun _ => h, fun _ => rfl⟩
theorem hb_1 {P : Prop} [Decidable P] : hb P = 1 ↔ P := by
  unfold hb
  by_cases h : P
  · rw [if_pos h]; exact ⟨fun _ => h, fun _ => rfl⟩
  · rw [if_neg h]; exact ⟨fun q => absurd q (by decide), fun q => absurd q h⟩
theorem hb_c {P Q : Prop} [Decidable P] [Decidable Q] (h : P ↔ Q) : hb P = hb Q := by
  by_cases q : P
  · rw [hb_t q, hb_t (h.mp q)]
  · rw [hb_f q, hb_f (fun z => q (h.mpr z))]
theorem hb_nar {P : Prop} [Decidable P] : narrow .boolean (.int (hb P)) = .int (hb P) := by
  by_cases q : P
  · rw [hb_t q]; decide
  · rw [hb_f q]; decide
theorem nI_mul (a b : Nat) : nI a * nI b = nI (a * b) := (Int32.ofNat_mul a b).symm
theorem nI_sub {a b : Nat} (h : b ≤ a) : nI a - nI b = nI (a - b) := by
  have : nI a = nI (a - b) + nI b := by rw [nI_add, Nat.sub_add_cancel h]
  rw [this, Int32.add_sub_cancel]
theorem nI_div {a b : Nat} (ha : a < 2 ^ 31) (hb : b < 2 ^ 31) : nI a / nI b = nI (a / b) := by
  apply Int32.toInt_inj.mp
  have h1 : a / b < 2 ^ 31 := Nat.lt_of_le_of_lt (Nat.div_le_self a b) ha
  have e : ((a : Int).tdiv (b : Int)) = ((a / b : Nat) : Int) := by
    rw [Int.natCast_ediv]; exact Int.tdiv_eq_ediv_of_nonneg (Int.natCast_nonneg a)
  rw [Int32.toInt_div, nI_toInt ha, nI_toInt hb, nI_toInt h1, e]
  generalize a / b = c at h1
  clear e
  apply Int.bmod_eq_of_le
  · omega
  · omega
theorem nI_rem {a b : Nat} (ha : a < 2 ^ 31) (hb : b < 2 ^ 31) : nI a - nI a / nI b * nI b = nI (a % b) := by
  rw [nI_div ha hb, nI_mul, nI_sub (Nat.div_mul_le_self a b)]
  congr 1
  have := Nat.div_add_mod a b
  rw [Nat.mul_comm] at this
  omega
section JN
variable {X : hC} {own : String} {cc : ByteArray} {d d' pc : Nat} {lv : List (Option Value)} {st : List Value} {M : hM}
theorem j_top {x y : Int32} (e : x = y) (k : J X pc lv (.int y :: st) M) : J X pc lv (.int x :: st) M := e ▸ k
theorem j_iaddN (h : Ok X own cc d) (q : Nat) (hq : pc + 1 = q) {a b : Nat} (hd : decode cc pc = .ok (.iadd, 1)) (k : J X q lv (.int (nI (a + b)) :: st) M) : J X pc lv (.int (nI b) :: .int (nI a) :: st) M := j_iadd h q hq hd (by rw [nI_add]; exact k)
theorem j_isubN (h : Ok X own cc d) (q : Nat) (hq : pc + 1 = q) {a b : Nat} (hle : b ≤ a) (hd : decode cc pc = .ok (.isub, 1)) (k : J X q lv (.int (nI (a - b)) :: st) M) : J X pc lv (.int (nI b) :: .int (nI a) :: st) M := j_isub h q hq hd (by rw [nI_sub hle]; exact k)
theorem j_imulN (h : Ok X own cc d) (q : Nat) (hq : pc + 1 = q) {a b : Nat} (hd : decode cc pc = .ok (.imul, 1)) (k : J X q lv (.int (nI (a * b)) :: st) M) : J X pc lv (.int (nI b) :: .int (nI a) :: st) M := j_imul h q hq hd (by rw [nI_mul]; exact k)
theorem j_idivN (h : Ok X own cc d) (q : Nat) (hq : pc + 1 = q) {a b : Nat} (h0 : 0 < b) (hb : b < 2 ^ 31) (ha : a < 2 ^ 31) (hd : decode cc pc = .ok (.idiv, 1)) (k : J X q lv (.int (nI (a / b)) :: st) M) : J X pc lv (.int (nI b) :: .int (nI a) :: st) M := j_idiv h q hq (nI_ne0 h0 hb) hd (by rw [nI_div ha hb]; exact k)
theorem j_iremN (h : Ok X own cc d) (q : Nat) (hq : pc + 1 = q) {a b : Nat} (h0 : 0 < b) (hb : b < 2 ^ 31) (ha : a < 2 ^ 31) (hd : decode cc pc = .ok (.irem, 1)) (k : J X q lv (.int (nI (a % b)) :: st) M) : J X pc lv (.int (nI b) :: .int (nI a) :: st) M := j_irem h q hq (nI_ne0 h0 hb) hd (by rw [nI_rem ha hb]; exact k)
theorem j_iincN (h : Ok X own cc d) (q : Nat) (hq : pc + 3 = q) {i a : Nat} (hl0 : lg lv i = some (.int (nI a))) (hk : lok lv i = true) (hd : decode cc pc = .ok (.iinc i 1, 3)) (k : J X q (lset lv i (some (.int (nI (a + 1))))) st M) : J X pc lv st M := j_iinc h q hq 1 rfl hl0 hk hd (by rw [nI_1]; exact k)
theorem j_icmp_eqN (h : Ok X own cc d) (tq q : Nat) {a b : Nat} {off : Int} (ha : a < 2 ^ 31) (hb : b < 2 ^ 31) (hd : decode cc pc = .ok (.if_icmp .eq off, 3)) (ht : (pc : Int) + off = (tq : Int)) (hq : pc + 3 = q) (kt : a = b → J X tq lv st M) (kf : ¬ a = b → J X q lv st M) : J X pc lv (.int (nI b) :: .int (nI a) :: st) M := by
  have e1 := nI_eq ha hb
  have e2 := nI_ltI ha hb
  have e3 := nI_leI ha hb
  have e4 := nI_ltI hb ha
  have e5 := nI_leI hb ha
  refine j_icmp_eq h tq q hd ht hq (fun z => kt ?_) (fun z => kf ?_)
  · (try rw [e1] at z); (try rw [e2] at z); (try rw [e3] at z); (try rw [e4] at z); (try rw [e5] at z); first | exact True.intro | omega
  · (try rw [e1] at z); (try rw [e2] at z); (try rw [e3] at z); (try rw [e4] at z); (try rw [e5] at z); first | exact True.intro | omega
theorem j_if_eqN (h : Ok X own cc d) (tq q : Nat) {a : Nat} {off : Int} (ha : a < 2 ^ 31) (hd : decode cc pc = .ok (.ifCond .eq off, 3)) (ht : (pc : Int) + off = (tq : Int)) (hq : pc + 3 = q) (kt : a = 0 → J X tq lv st M) (kf : ¬ a = 0 → J X q lv st M) : J X pc lv (.int (nI a) :: st) M := by
  have e1 := nI_eq ha (show 0 < 2 ^ 31 by decide)
  have e2 := nI_ltI ha (show 0 < 2 ^ 31 by decide)
  have e3 := nI_leI ha (show 0 < 2 ^ 31 by decide)
  have e4 := nI_ltI (show 0 < 2 ^ 31 by decide) ha
  have e5 := nI_leI (show 0 < 2 ^ 31 by decide) ha
  rw [nI_0] at e1 e2 e3 e4 e5
  refine j_if_eq h tq q hd ht hq (fun z => kt ?_) (fun z => kf ?_)
  · (try rw [e1] at z); (try rw [e2] at z); (try rw [e3] at z); (try rw [e4] at z); (try rw [e5] at z); first | exact True.intro | omega
  · (try rw [e1] at z); (try rw [e2] at z); (try rw [e3] at z); (try rw [e4] at z); (try rw [e5] at z); first | exact True.intro | omega
theorem j_icmp_neN (h : Ok X own cc d) (tq q : Nat) {a b : Nat} {off : Int} (ha : a < 2 ^ 31) (hb : b < 2 ^ 31) (hd : decode cc pc = .ok (.if_icmp .ne off, 3)) (ht : (pc : Int) + off = (tq : Int)) (hq : pc + 3 = q) (kt : ¬ a = b → J X tq lv st M) (kf : a = b → J X q lv st M) : J X pc lv (.int (nI b) :: .int (nI a) :: st) M := by
  have e1 := nI_eq ha hb
  have e2 := nI_ltI ha hb
  have e3 := nI_leI ha hb
  have e4 := nI_ltI hb ha
  have e5 := nI_leI hb ha
  refine j_icmp_ne h tq q hd ht hq (fun z => kt ?_) (fun z => kf ?_)
  · (try rw [e1] at z); (try rw [e2] at z); (try rw [e3] at z); (try rw [e4] at z); (try rw [e5] at z); first | exact True.intro | omega
  · (try rw [e1] at z); (try rw [e2] at z); (try rw [e3] at z); (try rw [e4] at z); (try rw [e5] at z); first | exact True.intro | omega
theorem j_if_neN (h : Ok X own cc d) (tq q : Nat) {a : Nat} {off : Int} (ha : a < 2 ^ 31) (hd : decode cc pc = .ok (.ifCond .ne off, 3)) (ht : (pc : Int) + off = (tq : Int)) (hq : pc + 3 = q) (kt : ¬ a = 0 → J X tq lv st M) (kf : a = 0 → J X q lv st M) : J X pc lv (.int (nI a) :: st) M := by
  have e1 := nI_eq ha (show 0 < 2 ^ 31 by decide)
  have e2 := nI_ltI ha (show 0 < 2 ^ 31 by decide)
  have e3 := nI_leI ha (show 0 < 2 ^ 31 by decide)
  have e4 := nI_ltI (show 0 < 2 ^ 31 by decide) ha
  have e5 := nI_leI (show 0 < 2 ^ 31 by decide) ha
  rw [nI_0] at e1 e2 e3 e4 e5
  refine j_if_ne h tq q hd ht hq (fun z => kt ?_) (fun z => kf ?_)
  · (try rw [e1] at z); (try rw [e2] at z); (try rw [e3] at z); (try rw [e4] at z); (try rw [e5] at z); first | exact True.intro | omega
  · (try rw [e1] at z); (try rw [e2] at z); (try rw [e3] at z); (try rw [e4] at z); (try rw [e5] at z); first | exact True.intro | omega
theorem j_icmp_ltN (h : Ok X own cc d) (tq q : Nat) {a b : Nat} {off : Int} (ha : a < 2 ^ 31) (hb : b < 2 ^ 31) (hd : decode cc pc = .ok (.if_icmp .lt off, 3)) (ht : (pc : Int) + off = (tq : Int)) (hq : pc + 3 = q) (kt : a < b → J X tq lv st M) (kf : b ≤ a → J X q lv st M) : J X pc lv (.int (nI b) :: .int (nI a) :: st) M := by
  have e1 := nI_eq ha hb
  have e2 := nI_ltI ha hb
  have e3 := nI_leI ha hb
  have e4 := nI_ltI hb ha
  have e5 := nI_leI hb ha
  refine j_icmp_lt h tq q hd ht hq (fun z => kt ?_) (fun z => kf ?_)
  · (try rw [e1] at z); (try rw [e2] at z); (try rw [e3] at z); (try rw [e4] at z); (try rw [e5] at z); first | exact True.intro | omega
  · (try rw [e1] at z); (try rw [e2] at z); (try rw [e3] at z); (try rw [e4] at z); (try rw [e5] at z); first | exact True.intro | omega
theorem j_if_ltN (h : Ok X own cc d) (tq q : Nat) {a : Nat} {off : Int} (ha : a < 2 ^ 31) (hd : decode cc pc = .ok (.ifCond .lt off, 3)) (ht : (pc : Int) + off = (tq : Int)) (hq : pc + 3 = q) (kt : False → J X tq lv st M) (kf : True → J X q lv st M) : J X pc lv (.int (nI a) :: st) M := by
  have e1 := nI_eq ha (show 0 < 2 ^ 31 by decide)
  have e2 := nI_ltI ha (show 0 < 2 ^ 31 by decide)
  have e3 := nI_leI ha (show 0 < 2 ^ 31 by decide)
  have e4 := nI_ltI (show 0 < 2 ^ 31 by decide) ha
  have e5 := nI_leI (show 0 < 2 ^ 31 by decide) ha
  rw [nI_0] at e1 e2 e3 e4 e5
  refine j_if_lt h tq q hd ht hq (fun z => kt ?_) (fun z => kf ?_)
  · (try rw [e1] at z); (try rw [e2] at z); (try rw [e3] at z); (try rw [e4] at z); (try rw [e5] at z); first | exact True.intro | omega
  · (try rw [e1] at z); (try rw [e2] at z); (try rw [e3] at z); (try rw [e4] at z); (try rw [e5] at z); first | exact True.intro | omega
theorem j_icmp_geN (h : Ok X own cc d) (tq q : Nat) {a b : Nat} {off : Int} (ha : a < 2 ^ 31) (hb : b < 2 ^ 31) (hd : decode cc pc = .ok (.if_icmp .ge off, 3)) (ht : (pc : Int) + off = (tq : Int)) (hq : pc + 3 = q) (kt : b ≤ a → J X tq lv st M) (kf : a < b → J X q lv st M) : J X pc lv (.int (nI b) :: .int (nI a) :: st) M := by
  have e1 := nI_eq ha hb
  have e2 := nI_ltI ha hb
  have e3 := nI_leI ha hb
  have e4 := nI_ltI hb ha
  have e5 := nI_leI hb ha
  refine j_icmp_ge h tq q hd ht hq (fun z => kt ?_) (fun z => kf ?_)
  · (try rw [e1] at z); (try rw [e2] at z); (try rw [e3] at z); (try rw [e4] at z); (try rw [e5] at z); first | exact True.intro | omega
  · (try rw [e1] at z); (try rw [e2] at z); (try rw [e3] at z); (try rw [e4] at z); (try rw [e5] at z); first | exact True.intro | omega
theorem j_if_geN (h : Ok X own cc d) (tq q : Nat) {a : Nat} {off : Int} (ha : a < 2 ^ 31) (hd : decode cc pc = .ok (.ifCond .ge off, 3)) (ht : (pc : Int) + off = (tq : Int)) (hq : pc + 3 = q) (kt : True → J X tq lv st M) (kf : False → J X q lv st M) : J X pc lv (.int (nI a) :: st) M := by
  have e1 := nI_eq ha (show 0 < 2 ^ 31 by decide)
  have e2 := nI_ltI ha (show 0 < 2 ^ 31 by decide)
  have e3 := nI_leI ha (show 0 < 2 ^ 31 by decide)
  have e4 := nI_ltI (show 0 < 2 ^ 31 by decide) ha
  have e5 := nI_leI (show 0 < 2 ^ 31 by decide) ha
  rw [nI_0] at e1 e2 e3 e4 e5
  refine j_if_ge h tq q hd ht hq (fun z => kt ?_) (fun z => kf ?_)
  · (try rw [e1] at z); (try rw [e2] at z); (try rw [e3] at z); (try rw [e4] at z); (try rw [e5] at z); first | exact True.intro | omega
  · (try rw [e1] at z); (try rw [e2] at z); (try rw [e3] at z); (try rw [e4] at z); (try rw [e5] at z); first | exact True.intro | omega
theorem j_icmp_gtN (h : Ok X own cc d) (tq q : Nat) {a b : Nat} {off : Int} (ha : a < 2 ^ 31) (hb : b < 2 ^ 31) (hd : decode cc pc = .ok (.if_icmp .gt off, 3)) (ht : (pc : Int) + off = (tq : Int)) (hq : pc + 3 = q) (kt : b < a → J X tq lv st M) (kf : a ≤ b → J X q lv st M) : J X pc lv (.int (nI b) :: .int (nI a) :: st) M := by
  have e1 := nI_eq ha hb
  have e2 := nI_ltI ha hb
  have e3 := nI_leI ha hb
  have e4 := nI_ltI hb ha
  have e5 := nI_leI hb ha
  refine j_icmp_gt h tq q hd ht hq (fun z => kt ?_) (fun z => kf ?_)
  · (try rw [e1] at z); (try rw [e2] at z); (try rw [e3] at z); (try rw [e4] at z); (try rw [e5] at z); first | exact True.intro | omega
  · (try rw [e1] at z); (try rw [e2] at z); (try rw [e3] at z); (try rw [e4] at z); (try rw [e5] at z); first | exact True.intro | omega
theorem j_if_gtN (h : Ok X own cc d) (tq q : Nat) {a : Nat} {off : Int} (ha : a < 2 ^ 31) (hd : decode cc pc = .ok (.ifCond .gt off, 3)) (ht : (pc : Int) + off = (tq : Int)) (hq : pc + 3 = q) (kt : 0 < a → J X tq lv st M) (kf : a = 0 → J X q lv st M) : J X pc lv (.int (nI a) :: st) M := by
  have e1 := nI_eq ha (show 0 < 2 ^ 31 by decide)
  have e2 := nI_ltI ha (show 0 < 2 ^ 31 by decide)
  have e3 := nI_leI ha (show 0 < 2 ^ 31 by decide)
  have e4 := nI_ltI (show 0 < 2 ^ 31 by decide) ha
  have e5 := nI_leI (show 0 < 2 ^ 31 by decide) ha
  rw [nI_0] at e1 e2 e3 e4 e5
  refine j_if_gt h tq q hd ht hq (fun z => kt ?_) (fun z => kf ?_)
  · (try rw [e1] at z); (try rw [e2] at z); (try rw [e3] at z); (try rw [e4] at z); (try rw [e5] at z); first | exact True.intro | omega
  · (try rw [e1] at z); (try rw [e2] at z); (try rw [e3] at z); (try rw [e4] at z); (try rw [e5] at z); first | exact True.intro | omega
theorem j_icmp_leN (h : Ok X own cc d) (tq q : Nat) {a b : Nat} {off : Int} (ha : a < 2 ^ 31) (hb : b < 2 ^ 31) (hd : decode cc pc = .ok (.if_icmp .le off, 3)) (ht : (pc : Int) + off = (tq : Int)) (hq : pc + 3 = q) (kt : a ≤ b → J X tq lv st M) (kf : b < a → J X q lv st M) : J X pc lv (.int (nI b) :: .int (nI a) :: st) M := by
  have e1 := nI_eq ha hb
  have e2 := nI_ltI ha hb
  have e3 := nI_leI ha hb
  have e4 := nI_ltI hb ha
  have e5 := nI_leI hb ha
  refine j_icmp_le h tq q hd ht hq (fun z => kt ?_) (fun z => kf ?_)
  · (try rw [e1] at z); (try rw [e2] at z); (try rw [e3] at z); (try rw [e4] at z); (try rw [e5] at z); first | exact True.intro | omega
  · (try rw [e1] at z); (try rw [e2] at z); (try rw [e3] at z); (try rw [e4] at z); (try rw [e5] at z); first | exact True.intro | omega
theorem j_if_leN (h : Ok X own cc d) (tq q : Nat) {a : Nat} {off : Int} (ha : a < 2 ^ 31) (hd : decode cc pc = .ok (.ifCond .le off, 3)) (ht : (pc : Int) + off = (tq : Int)) (hq : pc + 3 = q) (kt : a = 0 → J X tq lv st M) (kf : 0 < a → J X q lv st M) : J X pc lv (.int (nI a) :: st) M := by
  have e1 := nI_eq ha (show 0 < 2 ^ 31 by decide)
  have e2 := nI_ltI ha (show 0 < 2 ^ 31 by decide)
  have e3 := nI_leI ha (show 0 < 2 ^ 31 by decide)
  have e4 := nI_ltI (show 0 < 2 ^ 31 by decide) ha
  have e5 := nI_leI (show 0 < 2 ^ 31 by decide) ha
  rw [nI_0] at e1 e2 e3 e4 e5
  refine j_if_le h tq q hd ht hq (fun z => kt ?_) (fun z => kf ?_)
  · (try rw [e1] at z); (try rw [e2] at z); (try rw [e3] at z); (try rw [e4] at z); (try rw [e5] at z); first | exact True.intro | omega
  · (try rw [e1] at z); (try rw [e2] at z); (try rw [e3] at z); (try rw [e4] at z); (try rw [e5] at z); first | exact True.intro | omega
theorem j_if_eqB (h : Ok X own cc d) (tq q : Nat) {P : Prop} [Decidable P] {off : Int} (hd : decode cc pc = .ok (.ifCond .eq off, 3)) (ht : (pc : Int) + off = (tq : Int)) (hq : pc + 3 = q) (kt : ¬ P → J X tq lv st M) (kf : P → J X q lv st M) : J X pc lv (.int (hb P) :: st) M :=
  j_if_eq h tq q hd ht hq (fun z => kt (by first | exact hb_0.mp z | exact hb_0.mp (Decidable.not_not.mp z) | exact Decidable.not_not.mp (fun w => z (hb_0.mpr w)))) (fun z => kf (by first | exact hb_0.mp z | exact hb_0.mp (Decidable.not_not.mp z) | exact Decidable.not_not.mp (fun w => z (hb_0.mpr w))))
theorem j_if_neB (h : Ok X own cc d) (tq q : Nat) {P : Prop} [Decidable P] {off : Int} (hd : decode cc pc = .ok (.ifCond .ne off, 3)) (ht : (pc : Int) + off = (tq : Int)) (hq : pc + 3 = q) (kt : P → J X tq lv st M) (kf : ¬ P → J X q lv st M) : J X pc lv (.int (hb P) :: st) M :=
  j_if_ne h tq q hd ht hq (fun z => kt (by first | exact hb_0.mp z | exact hb_0.mp (Decidable.not_not.mp z) | exact Decidable.not_not.mp (fun w => z (hb_0.mpr w)))) (fun z => kf (by first | exact hb_0.mp z | exact hb_0.mp (Decidable.not_not.mp z) | exact Decidable.not_not.mp (fun w => z (hb_0.mpr w))))
/-- posts: an int and nothing changed; a cell and nothing changed; no answer; an int -/
def pI (E : Int32) (M : hM) : Option Value → hM → Prop := fun v M2 => v = some (.int E) ∧ M2 = M
def pR (a : Nat) (M : hM) : Option Value → hM → Prop := fun v M2 => v = some (.ref a) ∧ M2 = M
def pV (P : hM → Prop) : Option Value → hM → Prop := fun v M2 => v = none ∧ P M2
def pX (P : Int32 → hM → Prop) : Option Value → hM → Prop := fun v M2 => ∃ x, v = some (.int x) ∧ P x M2
def pXR (P : Nat → hM → Prop) : Option Value → hM → Prop := fun v M2 => ∃ x, v = some (.ref x) ∧ P x M2

theorem j_callVI (h : Ok X own cc d) (q : Nat) (hq : pc + 3 = q) {ix n a ci : Nat} {fs : List Nat} {y : hMd} {as st0 : List Value} (hlk : LkV own ix y n) (ha : hT[a]? = some (0, ci, fs)) (hcl : (vwCl[ci]?).map (fun z => z.1) = some y.1.cls) (hn9 : as.length = n) {E : Int32} (hct : Ct d' y (.ref a :: as) M (pI E M)) (hdd : Nat.ble (d' + 1) d = true) (hst : st0 = as.reverse ++ .ref a :: st) (hcat : Nat.ble ((st.map fun v => v.category).sum) 8 = true) (hd : decode cc pc = .ok (.invokevirtual ix, 3)) (kk : J X q lv (.int E :: st) M) : J X pc lv st0 M := j_callV h q hq hlk ha hcl hn9 hct hdd hst hcat hd (fun r M2 hr => by obtain ⟨rfl, rfl⟩ := hr; exact kk)
theorem j_callVR (h : Ok X own cc d) (q : Nat) (hq : pc + 3 = q) {ix n a ci : Nat} {fs : List Nat} {y : hMd} {as st0 : List Value} (hlk : LkV own ix y n) (ha : hT[a]? = some (0, ci, fs)) (hcl : (vwCl[ci]?).map (fun z => z.1) = some y.1.cls) (hn9 : as.length = n) {b : Nat} (hct : Ct d' y (.ref a :: as) M (pR b M)) (hdd : Nat.ble (d' + 1) d = true) (hst : st0 = as.reverse ++ .ref a :: st) (hcat : Nat.ble ((st.map fun v => v.category).sum) 8 = true) (hd : decode cc pc = .ok (.invokevirtual ix, 3)) (kk : J X q lv (.ref b :: st) M) : J X pc lv st0 M := j_callV h q hq hlk ha hcl hn9 hct hdd hst hcat hd (fun r M2 hr => by obtain ⟨rfl, rfl⟩ := hr; exact kk)
theorem j_callVV (h : Ok X own cc d) (q : Nat) (hq : pc + 3 = q) {ix n a ci : Nat} {fs : List Nat} {y : hMd} {as st0 : List Value} (hlk : LkV own ix y n) (ha : hT[a]? = some (0, ci, fs)) (hcl : (vwCl[ci]?).map (fun z => z.1) = some y.1.cls) (hn9 : as.length = n) {P : hM → Prop} (hct : Ct d' y (.ref a :: as) M (pV P)) (hdd : Nat.ble (d' + 1) d = true) (hst : st0 = as.reverse ++ .ref a :: st) (hcat : Nat.ble ((st.map fun v => v.category).sum) 8 = true) (hd : decode cc pc = .ok (.invokevirtual ix, 3)) (kk : ∀ M2, P M2 → J X q lv st M2) : J X pc lv st0 M := j_callV h q hq hlk ha hcl hn9 hct hdd hst hcat hd (fun r M2 hr => by obtain ⟨rfl, hp⟩ := hr; exact kk M2 hp)
theorem j_callVX (h : Ok X own cc d) (q : Nat) (hq : pc + 3 = q) {ix n a ci : Nat} {fs : List Nat} {y : hMd} {as st0 : List Value} (hlk : LkV own ix y n) (ha : hT[a]? = some (0, ci, fs)) (hcl : (vwCl[ci]?).map (fun z => z.1) = some y.1.cls) (hn9 : as.length = n) {P : Int32 → hM → Prop} (hct : Ct d' y (.ref a :: as) M (pX P)) (hdd : Nat.ble (d' + 1) d = true) (hst : st0 = as.reverse ++ .ref a :: st) (hcat : Nat.ble ((st.map fun v => v.category).sum) 8 = true) (hd : decode cc pc = .ok (.invokevirtual ix, 3)) (kk : ∀ x M2, P x M2 → J X q lv (.int x :: st) M2) : J X pc lv st0 M := j_callV h q hq hlk ha hcl hn9 hct hdd hst hcat hd (fun r M2 hr => by obtain ⟨x, rfl, hp⟩ := hr; exact kk x M2 hp)
theorem j_callVY (h : Ok X own cc d) (q : Nat) (hq : pc + 3 = q) {ix n a ci : Nat} {fs : List Nat} {y : hMd} {as st0 : List Value} (hlk : LkV own ix y n) (ha : hT[a]? = some (0, ci, fs)) (hcl : (vwCl[ci]?).map (fun z => z.1) = some y.1.cls) (hn9 : as.length = n) {P : Nat → hM → Prop} (hct : Ct d' y (.ref a :: as) M (pXR P)) (hdd : Nat.ble (d' + 1) d = true) (hst : st0 = as.reverse ++ .ref a :: st) (hcat : Nat.ble ((st.map fun v => v.category).sum) 8 = true) (hd : decode cc pc = .ok (.invokevirtual ix, 3)) (kk : ∀ x M2, P x M2 → J X q lv (.ref x :: st) M2) : J X pc lv st0 M := j_callV h q hq hlk ha hcl hn9 hct hdd hst hcat hd (fun r M2 hr => by obtain ⟨x, rfl, hp⟩ := hr; exact kk x M2 hp)
theorem j_callSI (h : Ok X own cc d) (q : Nat) (hq : pc + 3 = q) {ix n : Nat} {y : hMd} {as st0 : List Value} (hlk : LkS own ix y n) (hn9 : as.length = n) {E : Int32} (hct : Ct d' y (as) M (pI E M)) (hdd : Nat.ble (d' + 1) d = true) (hst : st0 = as.reverse ++ st) (hcat : Nat.ble ((st.map fun v => v.category).sum) 8 = true) (hd : decode cc pc = .ok (.invokestatic ix, 3)) (kk : J X q lv (.int E :: st) M) : J X pc lv st0 M := j_callS h q hq hlk hn9 hct hdd hst hcat hd (fun r M2 hr => by obtain ⟨rfl, rfl⟩ := hr; exact kk)
theorem j_callSR (h : Ok X own cc d) (q : Nat) (hq : pc + 3 = q) {ix n : Nat} {y : hMd} {as st0 : List Value} (hlk : LkS own ix y n) (hn9 : as.length = n) {b : Nat} (hct : Ct d' y (as) M (pR b M)) (hdd : Nat.ble (d' + 1) d = true) (hst : st0 = as.reverse ++ st) (hcat : Nat.ble ((st.map fun v => v.category).sum) 8 = true) (hd : decode cc pc = .ok (.invokestatic ix, 3)) (kk : J X q lv (.ref b :: st) M) : J X pc lv st0 M := j_callS h q hq hlk hn9 hct hdd hst hcat hd (fun r M2 hr => by obtain ⟨rfl, rfl⟩ := hr; exact kk)
theorem j_callSV (h : Ok X own cc d) (q : Nat) (hq : pc + 3 = q) {ix n : Nat} {y : hMd} {as st0 : List Value} (hlk : LkS own ix y n) (hn9 : as.length = n) {P : hM → Prop} (hct : Ct d' y (as) M (pV P)) (hdd : Nat.ble (d' + 1) d = true) (hst : st0 = as.reverse ++ st) (hcat : Nat.ble ((st.map fun v => v.category).sum) 8 = true) (hd : decode cc pc = .ok (.invokestatic ix, 3)) (kk : ∀ M2, P M2 → J X q lv st M2) : J X pc lv st0 M := j_callS h q hq hlk hn9 hct hdd hst hcat hd (fun r M2 hr => by obtain ⟨rfl, hp⟩ := hr; exact kk M2 hp)
theorem j_callSX (h : Ok X own cc d) (q : Nat) (hq : pc + 3 = q) {ix n : Nat} {y : hMd} {as st0 : List Value} (hlk : LkS own ix y n) (hn9 : as.length = n) {P : Int32 → hM → Prop} (hct : Ct d' y (as) M (pX P)) (hdd : Nat.ble (d' + 1) d = true) (hst : st0 = as.reverse ++ st) (hcat : Nat.ble ((st.map fun v => v.category).sum) 8 = true) (hd : decode cc pc = .ok (.invokestatic ix, 3)) (kk : ∀ x M2, P x M2 → J X q lv (.int x :: st) M2) : J X pc lv st0 M := j_callS h q hq hlk hn9 hct hdd hst hcat hd (fun r M2 hr => by obtain ⟨x, rfl, hp⟩ := hr; exact kk x M2 hp)
theorem j_callSY (h : Ok X own cc d) (q : Nat) (hq : pc + 3 = q) {ix n : Nat} {y : hMd} {as st0 : List Value} (hlk : LkS own ix y n) (hn9 : as.length = n) {P : Nat → hM → Prop} (hct : Ct d' y (as) M (pXR P)) (hdd : Nat.ble (d' + 1) d = true) (hst : st0 = as.reverse ++ st) (hcat : Nat.ble ((st.map fun v => v.category).sum) 8 = true) (hd : decode cc pc = .ok (.invokestatic ix, 3)) (kk : ∀ x M2, P x M2 → J X q lv (.ref x :: st) M2) : J X pc lv st0 M := j_callS h q hq hlk hn9 hct hdd hst hcat hd (fun r M2 hr => by obtain ⟨x, rfl, hp⟩ := hr; exact kk x M2 hp)
theorem j_callNI (h : Ok X own cc d) (q : Nat) (hq : pc + 3 = q) {ix n : Nat} {y : hMd} {as st0 : List Value} (hlk : LkN own ix y n) (hn9 : as.length = n) {E : Int32} (hct : Ct d' y (as) M (pI E M)) (hdd : Nat.ble (d' + 1) d = true) (hst : st0 = as.reverse ++ st) (hcat : Nat.ble ((st.map fun v => v.category).sum) 8 = true) (hd : decode cc pc = .ok (.invokestatic ix, 3)) (kk : J X q lv (.int E :: st) M) : J X pc lv st0 M := j_callN h q hq hlk hn9 hct hdd hst hcat hd (fun r M2 hr => by obtain ⟨rfl, rfl⟩ := hr; exact kk)
theorem j_callNR (h : Ok X own cc d) (q : Nat) (hq : pc + 3 = q) {ix n : Nat} {y : hMd} {as st0 : List Value} (hlk : LkN own ix y n) (hn9 : as.length = n) {b : Nat} (hct : Ct d' y (as) M (pR b M)) (hdd : Nat.ble (d' + 1) d = true) (hst : st0 = as.reverse ++ st) (hcat : Nat.ble ((st.map fun v => v.category).sum) 8 = true) (hd : decode cc pc = .ok (.invokestatic ix, 3)) (kk : J X q lv (.ref b :: st) M) : J X pc lv st0 M := j_callN h q hq hlk hn9 hct hdd hst hcat hd (fun r M2 hr => by obtain ⟨rfl, rfl⟩ := hr; exact kk)
theorem j_callNV (h : Ok X own cc d) (q : Nat) (hq : pc + 3 = q) {ix n : Nat} {y : hMd} {as st0 : List Value} (hlk : LkN own ix y n) (hn9 : as.length = n) {P : hM → Prop} (hct : Ct d' y (as) M (pV P)) (hdd : Nat.ble (d' + 1) d = true) (hst : st0 = as.reverse ++ st) (hcat : Nat.ble ((st.map fun v => v.category).sum) 8 = true) (hd : decode cc pc = .ok (.invokestatic ix, 3)) (kk : ∀ M2, P M2 → J X q lv st M2) : J X pc lv st0 M := j_callN h q hq hlk hn9 hct hdd hst hcat hd (fun r M2 hr => by obtain ⟨rfl, hp⟩ := hr; exact kk M2 hp)
theorem j_callNX (h : Ok X own cc d) (q : Nat) (hq : pc + 3 = q) {ix n : Nat} {y : hMd} {as st0 : List Value} (hlk : LkN own ix y n) (hn9 : as.length = n) {P : Int32 → hM → Prop} (hct : Ct d' y (as) M (pX P)) (hdd : Nat.ble (d' + 1) d = true) (hst : st0 = as.reverse ++ st) (hcat : Nat.ble ((st.map fun v => v.category).sum) 8 = true) (hd : decode cc pc = .ok (.invokestatic ix, 3)) (kk : ∀ x M2, P x M2 → J X q lv (.int x :: st) M2) : J X pc lv st0 M := j_callN h q hq hlk hn9 hct hdd hst hcat hd (fun r M2 hr => by obtain ⟨x, rfl, hp⟩ := hr; exact kk x M2 hp)
theorem j_callNY (h : Ok X own cc d) (q : Nat) (hq : pc + 3 = q) {ix n : Nat} {y : hMd} {as st0 : List Value} (hlk : LkN own ix y n) (hn9 : as.length = n) {P : Nat → hM → Prop} (hct : Ct d' y (as) M (pXR P)) (hdd : Nat.ble (d' + 1) d = true) (hst : st0 = as.reverse ++ st) (hcat : Nat.ble ((st.map fun v => v.category).sum) 8 = true) (hd : decode cc pc = .ok (.invokestatic ix, 3)) (kk : ∀ x M2, P x M2 → J X q lv (.ref x :: st) M2) : J X pc lv st0 M := j_callN h q hq hlk hn9 hct hdd hst hcat hd (fun r M2 hr => by obtain ⟨x, rfl, hp⟩ := hr; exact kk x M2 hp)
theorem j_callTI (h : Ok X own cc d) (q : Nat) (hq : pc + 3 = q) {ix n i : Nat} (hi : i < 10) {y : hMd} {as st0 : List Value} (hlk : LkV own ix y n) (hcl : y.1.cls = "java/lang/String") (hn9 : as.length = n) {E : Int32} (hct : Ct d' y (.ref (500 + i) :: as) M (pI E M)) (hdd : Nat.ble (d' + 1) d = true) (hst : st0 = as.reverse ++ .ref (500 + i) :: st) (hcat : Nat.ble ((st.map fun v => v.category).sum) 8 = true) (hd : decode cc pc = .ok (.invokevirtual ix, 3)) (kk : J X q lv (.int E :: st) M) : J X pc lv st0 M := j_callT h q hq hi hlk hcl hn9 hct hdd hst hcat hd (fun r M2 hr => by obtain ⟨rfl, rfl⟩ := hr; exact kk)
theorem j_callTR (h : Ok X own cc d) (q : Nat) (hq : pc + 3 = q) {ix n i : Nat} (hi : i < 10) {y : hMd} {as st0 : List Value} (hlk : LkV own ix y n) (hcl : y.1.cls = "java/lang/String") (hn9 : as.length = n) {b : Nat} (hct : Ct d' y (.ref (500 + i) :: as) M (pR b M)) (hdd : Nat.ble (d' + 1) d = true) (hst : st0 = as.reverse ++ .ref (500 + i) :: st) (hcat : Nat.ble ((st.map fun v => v.category).sum) 8 = true) (hd : decode cc pc = .ok (.invokevirtual ix, 3)) (kk : J X q lv (.ref b :: st) M) : J X pc lv st0 M := j_callT h q hq hi hlk hcl hn9 hct hdd hst hcat hd (fun r M2 hr => by obtain ⟨rfl, rfl⟩ := hr; exact kk)
theorem j_callTV (h : Ok X own cc d) (q : Nat) (hq : pc + 3 = q) {ix n i : Nat} (hi : i < 10) {y : hMd} {as st0 : List Value} (hlk : LkV own ix y n) (hcl : y.1.cls = "java/lang/String") (hn9 : as.length = n) {P : hM → Prop} (hct : Ct d' y (.ref (500 + i) :: as) M (pV P)) (hdd : Nat.ble (d' + 1) d = true) (hst : st0 = as.reverse ++ .ref (500 + i) :: st) (hcat : Nat.ble ((st.map fun v => v.category).sum) 8 = true) (hd : decode cc pc = .ok (.invokevirtual ix, 3)) (kk : ∀ M2, P M2 → J X q lv st M2) : J X pc lv st0 M := j_callT h q hq hi hlk hcl hn9 hct hdd hst hcat hd (fun r M2 hr => by obtain ⟨rfl, hp⟩ := hr; exact kk M2 hp)
theorem j_callTX (h : Ok X own cc d) (q : Nat) (hq : pc + 3 = q) {ix n i : Nat} (hi : i < 10) {y : hMd} {as st0 : List Value} (hlk : LkV own ix y n) (hcl : y.1.cls = "java/lang/String") (hn9 : as.length = n) {P : Int32 → hM → Prop} (hct : Ct d' y (.ref (500 + i) :: as) M (pX P)) (hdd : Nat.ble (d' + 1) d = true) (hst : st0 = as.reverse ++ .ref (500 + i) :: st) (hcat : Nat.ble ((st.map fun v => v.category).sum) 8 = true) (hd : decode cc pc = .ok (.invokevirtual ix, 3)) (kk : ∀ x M2, P x M2 → J X q lv (.int x :: st) M2) : J X pc lv st0 M := j_callT h q hq hi hlk hcl hn9 hct hdd hst hcat hd (fun r M2 hr => by obtain ⟨x, rfl, hp⟩ := hr; exact kk x M2 hp)
theorem j_callTY (h : Ok X own cc d) (q : Nat) (hq : pc + 3 = q) {ix n i : Nat} (hi : i < 10) {y : hMd} {as st0 : List Value} (hlk : LkV own ix y n) (hcl : y.1.cls = "java/lang/String") (hn9 : as.length = n) {P : Nat → hM → Prop} (hct : Ct d' y (.ref (500 + i) :: as) M (pXR P)) (hdd : Nat.ble (d' + 1) d = true) (hst : st0 = as.reverse ++ .ref (500 + i) :: st) (hcat : Nat.ble ((st.map fun v => v.category).sum) 8 = true) (hd : decode cc pc = .ok (.invokevirtual ix, 3)) (kk : ∀ x M2, P x M2 → J X q lv (.ref x :: st) M2) : J X pc lv st0 M := j_callT h q hq hi hlk hcl hn9 hct hdd hst hcat hd (fun r M2 hr => by obtain ⟨x, rfl, hp⟩ := hr; exact kk x M2 hp)
end JN
end
section
/-! classes, methods, links: facts over the tables' words -/
theorem kc_0 : Kc 0 RX0 TX0 5 tyX0 := ⟨rfl, inlX0, tyX0_ok, nmX0⟩
theorem kc_1 : Kc 1 RX1 TX1 3 tyX1 := ⟨rfl, inlX1, tyX1_ok, nmX1⟩
theorem kc_2 : Kc 2 RX2 TX2 9 tyX2 := ⟨rfl, inlX2, tyX2_ok, nmX2⟩
theorem kc_3 : Kc 3 RX3 TX3 18 tyX3 := ⟨rfl, inlX3, tyX3_ok, nmX3⟩
theorem kc_4 : Kc 4 RX4 TX4 7 tyX4 := ⟨rfl, inlX4, tyX4_ok, nmX4⟩
theorem kc_5 : Kc 5 RX5 TX5 4 tyX5 := ⟨rfl, inlX5, tyX5_ok, nmX5⟩
theorem kc_6 : Kc 6 RX6 TX6 3 tyX6 := ⟨rfl, inlX6, tyX6_ok, nmX6⟩
theorem kc_7 : Kc 7 RX7 TX7 8 tyX7 := ⟨rfl, inlX7, tyX7_ok, nmX7⟩
theorem kc_8 : Kc 8 RX8 TX8 2 tyX8 := ⟨rfl, inlX8, tyX8_ok, nmX8⟩
theorem kc_9 : Kc 9 RX9 TX9 7 tyX9 := ⟨rfl, inlX9, tyX9_ok, nmX9⟩
theorem kc_10 : Kc 10 RX10 TX10 12 tyX10 := ⟨rfl, inlX10, tyX10_ok, nmX10⟩
theorem kc_11 : Kc 11 RX11 TX11 48 tyX11 := ⟨rfl, inlX11, tyX11_ok, nmX11⟩
abbrev mX10_init : hMd := (yX10_init, cX10_init, 1, none)
abbrev mX8_init : hMd := (yX8_init, cX8_init, 1, none)
abbrev mX5_init : hMd := (yX5_init, cX5_init, 1, none)
abbrev mX3_init : hMd := (yX3_init, cX3_init, 1, none)
abbrev mX4_init : hMd := (yX4_init, cX4_init, 1, none)
abbrev mX1_init : hMd := (yX1_init, cX1_init, 1, none)
abbrev mX0_init : hMd := (yX0_init, cX0_init, 1, none)
abbrev mX9_init : hMd := (yX9_init, cX9_init, 1, none)
abbrev mX2_init : hMd := (yX2_init, cX2_init, 1, none)
abbrev mX6_init : hMd := (yX6_init, cX6_init, 1, none)
abbrev mX7_init : hMd := (yX7_init, cX7_init, 1, none)
abbrev mX11_init : hMd := (yX11_init, cX11_init, 1, none)
abbrev mX10_write : hMd := (yX10_write, cX10_write, 5, (some .int))
theorem mdX10_write : Md mX10_write 2 := ⟨List.mem_of_getElem? (i := 195) (by decide +kernel), List.mem_of_getElem? (i := 2) (by decide +kernel), rfl, by decide +kernel⟩
abbrev mX10_isWithin : hMd := (yX10_isWithin, cX10_isWithin, 3, (some .boolean))
theorem mdX10_isWithin : Md mX10_isWithin 3 := ⟨List.mem_of_getElem? (i := 199) (by decide +kernel), List.mem_of_getElem? (i := 2) (by decide +kernel), rfl, by decide +kernel⟩
abbrev mX8_hasSpaceFor : hMd := (yX8_hasSpaceFor, cX8_hasSpaceFor, 2, (some .boolean))
theorem mdX8_hasSpaceFor : Md mX8_hasSpaceFor 1 := ⟨List.mem_of_getElem? (i := 203) (by decide +kernel), List.mem_of_getElem? (i := 15) (by decide +kernel), rfl, by decide +kernel⟩
abbrev mX8_add : hMd := (yX8_add, cX8_add, 2, none)
theorem mdX8_add : Md mX8_add 1 := ⟨List.mem_of_getElem? (i := 207) (by decide +kernel), List.mem_of_getElem? (i := 15) (by decide +kernel), rfl, by decide +kernel⟩
abbrev mX8_length : hMd := (yX8_length, cX8_length, 1, (some .int))
theorem mdX8_length : Md mX8_length 0 := ⟨List.mem_of_getElem? (i := 211) (by decide +kernel), List.mem_of_getElem? (i := 15) (by decide +kernel), rfl, by decide +kernel⟩
abbrev mX11_write : hMd := (yX11_write, cX11_write, 5, (some .int))
theorem mdX11_write : Md mX11_write 2 := ⟨List.mem_of_getElem? (i := 215) (by decide +kernel), List.mem_of_getElem? (i := 5) (by decide +kernel), rfl, by decide +kernel⟩
abbrev mX11_in : hMd := (yX11_in, cX11_in, 3, (some .boolean))
theorem mdX11_in : Md mX11_in 3 := ⟨List.mem_of_getElem? (i := 220) (by decide +kernel), List.mem_of_getElem? (i := 5) (by decide +kernel), rfl, by decide +kernel⟩
abbrev mX10_erase : hMd := (yX10_erase, cX10_erase, 2, (some .int))
theorem mdX10_erase : Md mX10_erase 0 := ⟨List.mem_of_getElem? (i := 224) (by decide +kernel), List.mem_of_getElem? (i := 2) (by decide +kernel), rfl, by decide +kernel⟩
abbrev mX8_clear : hMd := (yX8_clear, cX8_clear, 1, none)
theorem mdX8_clear : Md mX8_clear 0 := ⟨List.mem_of_getElem? (i := 228) (by decide +kernel), List.mem_of_getElem? (i := 15) (by decide +kernel), rfl, by decide +kernel⟩
abbrev mX11_erase : hMd := (yX11_erase, cX11_erase, 2, (some .int))
theorem mdX11_erase : Md mX11_erase 0 := ⟨List.mem_of_getElem? (i := 232) (by decide +kernel), List.mem_of_getElem? (i := 5) (by decide +kernel), rfl, by decide +kernel⟩
abbrev mX10_fault : hMd := (yX10_fault, cX10_fault, 1, (some .int))
theorem mdX10_fault : Md mX10_fault 0 := ⟨List.mem_of_getElem? (i := 236) (by decide +kernel), List.mem_of_getElem? (i := 2) (by decide +kernel), rfl, by decide +kernel⟩
abbrev mX5_faultOf : hMd := (yX5_faultOf, cX5_faultOf, 3, (some .int))
theorem mdX5_faultOf : Md mX5_faultOf 1 := ⟨List.mem_of_getElem? (i := 240) (by decide +kernel), List.mem_of_getElem? (i := 19) (by decide +kernel), rfl, by decide +kernel⟩
abbrev mX5_readsWord : hMd := (yX5_readsWord, cX5_readsWord, 5, (some .boolean))
theorem mdX5_readsWord : Md mX5_readsWord 2 := ⟨List.mem_of_getElem? (i := 244) (by decide +kernel), List.mem_of_getElem? (i := 19) (by decide +kernel), rfl, by decide +kernel⟩
abbrev mX8_behindBlanks : hMd := (yX8_behindBlanks, cX8_behindBlanks, 3, (some .int))
theorem mdX8_behindBlanks : Md mX8_behindBlanks 1 := ⟨List.mem_of_getElem? (i := 248) (by decide +kernel), List.mem_of_getElem? (i := 15) (by decide +kernel), rfl, by decide +kernel⟩
abbrev mX8_at : hMd := (yX8_at, cX8_at, 2, (some .int))
theorem mdX8_at : Md mX8_at 1 := ⟨List.mem_of_getElem? (i := 252) (by decide +kernel), List.mem_of_getElem? (i := 15) (by decide +kernel), rfl, by decide +kernel⟩
abbrev mX8_endOfToken : hMd := (yX8_endOfToken, cX8_endOfToken, 3, (some .int))
theorem mdX8_endOfToken : Md mX8_endOfToken 1 := ⟨List.mem_of_getElem? (i := 256) (by decide +kernel), List.mem_of_getElem? (i := 15) (by decide +kernel), rfl, by decide +kernel⟩
abbrev mX8_isLetter : hMd := (yX8_isLetter, cX8_isLetter, 1, (some .boolean))
theorem mdX8_isLetter : Md mX8_isLetter 1 := ⟨List.mem_of_getElem? (i := 259) (by decide +kernel), List.mem_of_getElem? (i := 15) (by decide +kernel), rfl, by decide +kernel⟩
abbrev mX8_isDigit : hMd := (yX8_isDigit, cX8_isDigit, 1, (some .boolean))
theorem mdX8_isDigit : Md mX8_isDigit 1 := ⟨List.mem_of_getElem? (i := 262) (by decide +kernel), List.mem_of_getElem? (i := 15) (by decide +kernel), rfl, by decide +kernel⟩
abbrev mX3_wordOf : hMd := (yX3_wordOf, cX3_wordOf, 1, (some (.object "java/lang/String")))
theorem mdX3_wordOf : Md mX3_wordOf 1 := ⟨List.mem_of_getElem? (i := 265) (by decide +kernel), List.mem_of_getElem? (i := 23) (by decide +kernel), rfl, by decide +kernel⟩
abbrev mX8_spells : hMd := (yX8_spells, cX8_spells, 5, (some .boolean))
theorem mdX8_spells : Md mX8_spells 3 := ⟨List.mem_of_getElem? (i := 269) (by decide +kernel), List.mem_of_getElem? (i := 15) (by decide +kernel), rfl, by decide +kernel⟩
abbrev mJ0_length_8abf5 : hMd := (yJ0_length_8abf5, cJ0_length_8abf5, 1, (some .int))
theorem mdJ0_length_8abf5 : Md mJ0_length_8abf5 0 := ⟨List.mem_of_getElem? (i := 274) (by decide +kernel), List.mem_of_getElem? (i := 273) (by decide +kernel), rfl, by decide +kernel⟩
abbrev mJ0_coder_7d493 : hMd := (yJ0_coder_7d493, cJ0_coder_7d493, 1, (some .byte))
theorem mdJ0_coder_7d493 : Md mJ0_coder_7d493 0 := ⟨List.mem_of_getElem? (i := 279) (by decide +kernel), List.mem_of_getElem? (i := 273) (by decide +kernel), rfl, by decide +kernel⟩
abbrev mJ0_charAt_5068e : hMd := (yJ0_charAt_5068e, cJ0_charAt_5068e, 2, (some .char))
theorem mdJ0_charAt_5068e : Md mJ0_charAt_5068e 1 := ⟨List.mem_of_getElem? (i := 285) (by decide +kernel), List.mem_of_getElem? (i := 273) (by decide +kernel), rfl, by decide +kernel⟩
abbrev mJ0_isLatin1_aae02 : hMd := (yJ0_isLatin1_aae02, cJ0_isLatin1_aae02, 1, (some .boolean))
theorem mdJ0_isLatin1_aae02 : Md mJ0_isLatin1_aae02 0 := ⟨List.mem_of_getElem? (i := 289) (by decide +kernel), List.mem_of_getElem? (i := 273) (by decide +kernel), rfl, by decide +kernel⟩
abbrev mJ1_charAt_3b067 : hMd := (yJ1_charAt_3b067, cJ1_charAt_3b067, 2, (some .char))
theorem mdJ1_charAt_3b067 : Md mJ1_charAt_3b067 2 := ⟨List.mem_of_getElem? (i := 293) (by decide +kernel), List.mem_of_getElem? (i := 292) (by decide +kernel), rfl, by decide +kernel⟩
abbrev mJ0_checkIndex_df160 : hMd := (yJ0_checkIndex_df160, cJ0_checkIndex_df160, 2, none)
theorem mdJ0_checkIndex_df160 : Md mJ0_checkIndex_df160 2 := ⟨List.mem_of_getElem? (i := 296) (by decide +kernel), List.mem_of_getElem? (i := 273) (by decide +kernel), rfl, by decide +kernel⟩
abbrev mJ3_checkIndex_8e157 : hMd := (yJ3_checkIndex_8e157, cJ3_checkIndex_8e157, 3, (some .int))
theorem mdJ3_checkIndex_8e157 : Md mJ3_checkIndex_8e157 3 := ⟨List.mem_of_getElem? (i := 301) (by decide +kernel), List.mem_of_getElem? (i := 300) (by decide +kernel), rfl, by decide +kernel⟩
abbrev mJ2_charAt_3b067 : hMd := (yJ2_charAt_3b067, cJ2_charAt_3b067, 2, (some .char))
theorem mdJ2_charAt_3b067 : Md mJ2_charAt_3b067 2 := ⟨List.mem_of_getElem? (i := 305) (by decide +kernel), List.mem_of_getElem? (i := 304) (by decide +kernel), rfl, by decide +kernel⟩
abbrev mJ2_checkIndex_2214a : hMd := (yJ2_checkIndex_2214a, cJ2_checkIndex_2214a, 2, none)
theorem mdJ2_checkIndex_2214a : Md mJ2_checkIndex_2214a 2 := ⟨List.mem_of_getElem? (i := 308) (by decide +kernel), List.mem_of_getElem? (i := 304) (by decide +kernel), rfl, by decide +kernel⟩
abbrev mJ2_length_9d52b : hMd := (yJ2_length_9d52b, cJ2_length_9d52b, 1, (some .int))
theorem mdJ2_length_9d52b : Md mJ2_length_9d52b 1 := ⟨List.mem_of_getElem? (i := 311) (by decide +kernel), List.mem_of_getElem? (i := 304) (by decide +kernel), rfl, by decide +kernel⟩
abbrev mJ2_getChar_3b067 : hMd := (yJ2_getChar_3b067, cJ2_getChar_3b067, 2, (some .char))
theorem mdJ2_getChar_3b067 : Md mJ2_getChar_3b067 2 := ⟨List.mem_of_getElem? (i := 315) (by decide +kernel), List.mem_of_getElem? (i := 304) (by decide +kernel), rfl, by decide +kernel⟩
abbrev mX5_readsNumbers : hMd := (yX5_readsNumbers, cX5_readsNumbers, 7, (some .boolean))
theorem mdX5_readsNumbers : Md mX5_readsNumbers 2 := ⟨List.mem_of_getElem? (i := 322) (by decide +kernel), List.mem_of_getElem? (i := 19) (by decide +kernel), rfl, by decide +kernel⟩
abbrev mX8_numberIn : hMd := (yX8_numberIn, cX8_numberIn, 5, (some .int))
theorem mdX8_numberIn : Md mX8_numberIn 2 := ⟨List.mem_of_getElem? (i := 327) (by decide +kernel), List.mem_of_getElem? (i := 15) (by decide +kernel), rfl, by decide +kernel⟩
abbrev mX5_isDoorToItself : hMd := (yX5_isDoorToItself, cX5_isDoorToItself, 4, (some .boolean))
theorem mdX5_isDoorToItself : Md mX5_isDoorToItself 3 := ⟨List.mem_of_getElem? (i := 331) (by decide +kernel), List.mem_of_getElem? (i := 19) (by decide +kernel), rfl, by decide +kernel⟩
abbrev mX11_fault : hMd := (yX11_fault, cX11_fault, 1, (some .int))
theorem mdX11_fault : Md mX11_fault 0 := ⟨List.mem_of_getElem? (i := 337) (by decide +kernel), List.mem_of_getElem? (i := 5) (by decide +kernel), rfl, by decide +kernel⟩
abbrev mX11_isRead : hMd := (yX11_isRead, cX11_isRead, 2, (some .boolean))
theorem mdX11_isRead : Md mX11_isRead 0 := ⟨List.mem_of_getElem? (i := 342) (by decide +kernel), List.mem_of_getElem? (i := 5) (by decide +kernel), rfl, by decide +kernel⟩
abbrev mX11_isLine : hMd := (yX11_isLine, cX11_isLine, 4, (some .boolean))
theorem mdX11_isLine : Md mX11_isLine 1 := ⟨List.mem_of_getElem? (i := 351) (by decide +kernel), List.mem_of_getElem? (i := 5) (by decide +kernel), rfl, by decide +kernel⟩
abbrev mX11_nextToken : hMd := (yX11_nextToken, cX11_nextToken, 1, none)
theorem mdX11_nextToken : Md mX11_nextToken 0 := ⟨List.mem_of_getElem? (i := 365) (by decide +kernel), List.mem_of_getElem? (i := 5) (by decide +kernel), rfl, by decide +kernel⟩
abbrev mX11_isNumber : hMd := (yX11_isNumber, cX11_isNumber, 4, (some .boolean))
theorem mdX11_isNumber : Md mX11_isNumber 3 := ⟨List.mem_of_getElem? (i := 376) (by decide +kernel), List.mem_of_getElem? (i := 5) (by decide +kernel), rfl, by decide +kernel⟩
abbrev mX11_fails : hMd := (yX11_fails, cX11_fails, 1, (some .boolean))
theorem mdX11_fails : Md mX11_fails 0 := ⟨List.mem_of_getElem? (i := 380) (by decide +kernel), List.mem_of_getElem? (i := 5) (by decide +kernel), rfl, by decide +kernel⟩
abbrev mX11_isDoor : hMd := (yX11_isDoor, cX11_isDoor, 2, (some .boolean))
theorem mdX11_isDoor : Md mX11_isDoor 1 := ⟨List.mem_of_getElem? (i := 384) (by decide +kernel), List.mem_of_getElem? (i := 5) (by decide +kernel), rfl, by decide +kernel⟩
abbrev mX10_week : hMd := (yX10_week, cX10_week, 3, (some .int))
theorem mdX10_week : Md mX10_week 0 := ⟨List.mem_of_getElem? (i := 388) (by decide +kernel), List.mem_of_getElem? (i := 2) (by decide +kernel), rfl, by decide +kernel⟩
abbrev mX5_lines : hMd := (yX5_lines, cX5_lines, 1, (some .int))
theorem mdX5_lines : Md mX5_lines 0 := ⟨List.mem_of_getElem? (i := 392) (by decide +kernel), List.mem_of_getElem? (i := 19) (by decide +kernel), rfl, by decide +kernel⟩
abbrev mX5_kindOf : hMd := (yX5_kindOf, cX5_kindOf, 2, (some .int))
theorem mdX5_kindOf : Md mX5_kindOf 1 := ⟨List.mem_of_getElem? (i := 396) (by decide +kernel), List.mem_of_getElem? (i := 19) (by decide +kernel), rfl, by decide +kernel⟩
abbrev mX5_numbersOf : hMd := (yX5_numbersOf, cX5_numbersOf, 2, (some (.array .int)))
theorem mdX5_numbersOf : Md mX5_numbersOf 1 := ⟨List.mem_of_getElem? (i := 400) (by decide +kernel), List.mem_of_getElem? (i := 19) (by decide +kernel), rfl, by decide +kernel⟩
abbrev mX3_tell : hMd := (yX3_tell, cX3_tell, 3, none)
theorem mdX3_tell : Md mX3_tell 2 := ⟨List.mem_of_getElem? (i := 404) (by decide +kernel), List.mem_of_getElem? (i := 23) (by decide +kernel), rfl, by decide +kernel⟩
abbrev mX3_tellRoom : hMd := (yX3_tellRoom, cX3_tellRoom, 3, none)
theorem mdX3_tellRoom : Md mX3_tellRoom 1 := ⟨List.mem_of_getElem? (i := 408) (by decide +kernel), List.mem_of_getElem? (i := 23) (by decide +kernel), rfl, by decide +kernel⟩
abbrev mX10_hoursFrom : hMd := (yX10_hoursFrom, cX10_hoursFrom, 5, (some .int))
theorem mdX10_hoursFrom : Md mX10_hoursFrom 2 := ⟨List.mem_of_getElem? (i := 410) (by decide +kernel), List.mem_of_getElem? (i := 2) (by decide +kernel), rfl, by decide +kernel⟩
abbrev mX0_forget : hMd := (yX0_forget, cX0_forget, 1, none)
theorem mdX0_forget : Md mX0_forget 0 := ⟨List.mem_of_getElem? (i := 414) (by decide +kernel), List.mem_of_getElem? (i := 36) (by decide +kernel), rfl, by decide +kernel⟩
abbrev mX11_week : hMd := (yX11_week, cX11_week, 2, (some .int))
theorem mdX11_week : Md mX11_week 0 := ⟨List.mem_of_getElem? (i := 418) (by decide +kernel), List.mem_of_getElem? (i := 5) (by decide +kernel), rfl, by decide +kernel⟩
abbrev mX11_doLine : hMd := (yX11_doLine, cX11_doLine, 5, none)
theorem mdX11_doLine : Md mX11_doLine 1 := ⟨List.mem_of_getElem? (i := 422) (by decide +kernel), List.mem_of_getElem? (i := 5) (by decide +kernel), rfl, by decide +kernel⟩
abbrev mX11_doHours : hMd := (yX11_doHours, cX11_doHours, 4, none)
theorem mdX11_doHours : Md mX11_doHours 3 := ⟨List.mem_of_getElem? (i := 427) (by decide +kernel), List.mem_of_getElem? (i := 5) (by decide +kernel), rfl, by decide +kernel⟩
abbrev mX11_hoursOf : hMd := (yX11_hoursOf, cX11_hoursOf, 4, (some .int))
theorem mdX11_hoursOf : Md mX11_hoursOf 2 := ⟨List.mem_of_getElem? (i := 430) (by decide +kernel), List.mem_of_getElem? (i := 5) (by decide +kernel), rfl, by decide +kernel⟩
abbrev mX10_room : hMd := (yX10_room, cX10_room, 3, (some .int))
theorem mdX10_room : Md mX10_room 2 := ⟨List.mem_of_getElem? (i := 434) (by decide +kernel), List.mem_of_getElem? (i := 2) (by decide +kernel), rfl, by decide +kernel⟩
abbrev mX3_isTold : hMd := (yX3_isTold, cX3_isTold, 2, (some .boolean))
theorem mdX3_isTold : Md mX3_isTold 1 := ⟨List.mem_of_getElem? (i := 438) (by decide +kernel), List.mem_of_getElem? (i := 23) (by decide +kernel), rfl, by decide +kernel⟩
abbrev mX3_firstAir : hMd := (yX3_firstAir, cX3_firstAir, 2, (some .int))
theorem mdX3_firstAir : Md mX3_firstAir 1 := ⟨List.mem_of_getElem? (i := 442) (by decide +kernel), List.mem_of_getElem? (i := 23) (by decide +kernel), rfl, by decide +kernel⟩
abbrev mX3_firstWall : hMd := (yX3_firstWall, cX3_firstWall, 2, (some .int))
theorem mdX3_firstWall : Md mX3_firstWall 1 := ⟨List.mem_of_getElem? (i := 446) (by decide +kernel), List.mem_of_getElem? (i := 23) (by decide +kernel), rfl, by decide +kernel⟩
abbrev mX3_side : hMd := (yX3_side, cX3_side, 2, (some .int))
theorem mdX3_side : Md mX3_side 1 := ⟨List.mem_of_getElem? (i := 450) (by decide +kernel), List.mem_of_getElem? (i := 23) (by decide +kernel), rfl, by decide +kernel⟩
abbrev mX3_folk : hMd := (yX3_folk, cX3_folk, 2, (some .int))
theorem mdX3_folk : Md mX3_folk 1 := ⟨List.mem_of_getElem? (i := 454) (by decide +kernel), List.mem_of_getElem? (i := 23) (by decide +kernel), rfl, by decide +kernel⟩
abbrev mX3_habit : hMd := (yX3_habit, cX3_habit, 2, (some .int))
theorem mdX3_habit : Md mX3_habit 1 := ⟨List.mem_of_getElem? (i := 458) (by decide +kernel), List.mem_of_getElem? (i := 23) (by decide +kernel), rfl, by decide +kernel⟩
abbrev mX3_openHours : hMd := (yX3_openHours, cX3_openHours, 2, (some .int))
theorem mdX3_openHours : Md mX3_openHours 1 := ⟨List.mem_of_getElem? (i := 462) (by decide +kernel), List.mem_of_getElem? (i := 23) (by decide +kernel), rfl, by decide +kernel⟩
abbrev mX3_shutHours : hMd := (yX3_shutHours, cX3_shutHours, 2, (some .int))
theorem mdX3_shutHours : Md mX3_shutHours 1 := ⟨List.mem_of_getElem? (i := 466) (by decide +kernel), List.mem_of_getElem? (i := 23) (by decide +kernel), rfl, by decide +kernel⟩
abbrev mX11_room : hMd := (yX11_room, cX11_room, 3, (some .int))
theorem mdX11_room : Md mX11_room 2 := ⟨List.mem_of_getElem? (i := 470) (by decide +kernel), List.mem_of_getElem? (i := 5) (by decide +kernel), rfl, by decide +kernel⟩
abbrev mX11_isRoom : hMd := (yX11_isRoom, cX11_isRoom, 2, (some .boolean))
theorem mdX11_isRoom : Md mX11_isRoom 1 := ⟨List.mem_of_getElem? (i := 474) (by decide +kernel), List.mem_of_getElem? (i := 5) (by decide +kernel), rfl, by decide +kernel⟩
abbrev mX11_has : hMd := (yX11_has, cX11_has, 2, (some .boolean))
theorem mdX11_has : Md mX11_has 2 := ⟨List.mem_of_getElem? (i := 477) (by decide +kernel), List.mem_of_getElem? (i := 5) (by decide +kernel), rfl, by decide +kernel⟩
abbrev mX10_door : hMd := (yX10_door, cX10_door, 3, (some .int))
theorem mdX10_door : Md mX10_door 2 := ⟨List.mem_of_getElem? (i := 481) (by decide +kernel), List.mem_of_getElem? (i := 2) (by decide +kernel), rfl, by decide +kernel⟩
abbrev mX10_isRoom : hMd := (yX10_isRoom, cX10_isRoom, 1, (some .boolean))
theorem mdX10_isRoom : Md mX10_isRoom 1 := ⟨List.mem_of_getElem? (i := 484) (by decide +kernel), List.mem_of_getElem? (i := 2) (by decide +kernel), rfl, by decide +kernel⟩
abbrev mX3_passes : hMd := (yX3_passes, cX3_passes, 3, (some .int))
theorem mdX3_passes : Md mX3_passes 2 := ⟨List.mem_of_getElem? (i := 488) (by decide +kernel), List.mem_of_getElem? (i := 23) (by decide +kernel), rfl, by decide +kernel⟩
abbrev mX11_door : hMd := (yX11_door, cX11_door, 3, (some .int))
theorem mdX11_door : Md mX11_door 2 := ⟨List.mem_of_getElem? (i := 492) (by decide +kernel), List.mem_of_getElem? (i := 5) (by decide +kernel), rfl, by decide +kernel⟩
abbrev mX10_out : hMd := (yX10_out, cX10_out, 2, (some .int))
theorem mdX10_out : Md mX10_out 1 := ⟨List.mem_of_getElem? (i := 496) (by decide +kernel), List.mem_of_getElem? (i := 2) (by decide +kernel), rfl, by decide +kernel⟩
abbrev mX10_isHour : hMd := (yX10_isHour, cX10_isHour, 1, (some .boolean))
theorem mdX10_isHour : Md mX10_isHour 1 := ⟨List.mem_of_getElem? (i := 499) (by decide +kernel), List.mem_of_getElem? (i := 2) (by decide +kernel), rfl, by decide +kernel⟩
abbrev mX3_skyAt : hMd := (yX3_skyAt, cX3_skyAt, 5, (some .int))
theorem mdX3_skyAt : Md mX3_skyAt 1 := ⟨List.mem_of_getElem? (i := 503) (by decide +kernel), List.mem_of_getElem? (i := 23) (by decide +kernel), rfl, by decide +kernel⟩
abbrev mX11_out : hMd := (yX11_out, cX11_out, 2, (some .int))
theorem mdX11_out : Md mX11_out 1 := ⟨List.mem_of_getElem? (i := 507) (by decide +kernel), List.mem_of_getElem? (i := 5) (by decide +kernel), rfl, by decide +kernel⟩
abbrev mX11_outAt : hMd := (yX11_outAt, cX11_outAt, 7, (some .int))
theorem mdX11_outAt : Md mX11_outAt 1 := ⟨List.mem_of_getElem? (i := 511) (by decide +kernel), List.mem_of_getElem? (i := 5) (by decide +kernel), rfl, by decide +kernel⟩
abbrev mX10_warm : hMd := (yX10_warm, cX10_warm, 4, (some .int))
theorem mdX10_warm : Md mX10_warm 3 := ⟨List.mem_of_getElem? (i := 515) (by decide +kernel), List.mem_of_getElem? (i := 2) (by decide +kernel), rfl, by decide +kernel⟩
abbrev mX10_courseAsTold : hMd := (yX10_courseAsTold, cX10_courseAsTold, 1, (some (.object "HotWeek$Course")))
theorem mdX10_courseAsTold : Md mX10_courseAsTold 0 := ⟨List.mem_of_getElem? (i := 519) (by decide +kernel), List.mem_of_getElem? (i := 2) (by decide +kernel), rfl, by decide +kernel⟩
abbrev mX4_takeFrom : hMd := (yX4_takeFrom, cX4_takeFrom, 3, none)
theorem mdX4_takeFrom : Md mX4_takeFrom 1 := ⟨List.mem_of_getElem? (i := 523) (by decide +kernel), List.mem_of_getElem? (i := 27) (by decide +kernel), rfl, by decide +kernel⟩
abbrev mX4_takeWorksOff : hMd := (yX4_takeWorksOff, cX4_takeWorksOff, 4, none)
theorem mdX4_takeWorksOff : Md mX4_takeWorksOff 2 := ⟨List.mem_of_getElem? (i := 530) (by decide +kernel), List.mem_of_getElem? (i := 27) (by decide +kernel), rfl, by decide +kernel⟩
abbrev mX3_leaks : hMd := (yX3_leaks, cX3_leaks, 1, (some .int))
theorem mdX3_leaks : Md mX3_leaks 0 := ⟨List.mem_of_getElem? (i := 534) (by decide +kernel), List.mem_of_getElem? (i := 23) (by decide +kernel), rfl, by decide +kernel⟩
abbrev mX3_sunIn : hMd := (yX3_sunIn, cX3_sunIn, 3, (some .int))
theorem mdX3_sunIn : Md mX3_sunIn 2 := ⟨List.mem_of_getElem? (i := 538) (by decide +kernel), List.mem_of_getElem? (i := 23) (by decide +kernel), rfl, by decide +kernel⟩
abbrev mX3_shinesOn : hMd := (yX3_shinesOn, cX3_shinesOn, 2, (some .boolean))
theorem mdX3_shinesOn : Md mX3_shinesOn 2 := ⟨List.mem_of_getElem? (i := 541) (by decide +kernel), List.mem_of_getElem? (i := 23) (by decide +kernel), rfl, by decide +kernel⟩
abbrev mX10_hasBit : hMd := (yX10_hasBit, cX10_hasBit, 2, (some .boolean))
theorem mdX10_hasBit : Md mX10_hasBit 2 := ⟨List.mem_of_getElem? (i := 543) (by decide +kernel), List.mem_of_getElem? (i := 2) (by decide +kernel), rfl, by decide +kernel⟩
abbrev mX3_gives : hMd := (yX3_gives, cX3_gives, 1, (some .int))
theorem mdX3_gives : Md mX3_gives 0 := ⟨List.mem_of_getElem? (i := 547) (by decide +kernel), List.mem_of_getElem? (i := 23) (by decide +kernel), rfl, by decide +kernel⟩
abbrev mX3_takes : hMd := (yX3_takes, cX3_takes, 1, (some .int))
theorem mdX3_takes : Md mX3_takes 0 := ⟨List.mem_of_getElem? (i := 551) (by decide +kernel), List.mem_of_getElem? (i := 23) (by decide +kernel), rfl, by decide +kernel⟩
abbrev mX4_putLaw : hMd := (yX4_putLaw, cX4_putLaw, 3, none)
theorem mdX4_putLaw : Md mX4_putLaw 2 := ⟨List.mem_of_getElem? (i := 555) (by decide +kernel), List.mem_of_getElem? (i := 27) (by decide +kernel), rfl, by decide +kernel⟩
abbrev mX1_run : hMd := (yX1_run, cX1_run, 5, none)
theorem mdX1_run : Md mX1_run 2 := ⟨List.mem_of_getElem? (i := 559) (by decide +kernel), List.mem_of_getElem? (i := 31) (by decide +kernel), rfl, by decide +kernel⟩
abbrev mX1_goOn : hMd := (yX1_goOn, cX1_goOn, 11, none)
theorem mdX1_goOn : Md mX1_goOn 4 := ⟨List.mem_of_getElem? (i := 566) (by decide +kernel), List.mem_of_getElem? (i := 31) (by decide +kernel), rfl, by decide +kernel⟩
abbrev mX4_skyAt : hMd := (yX4_skyAt, cX4_skyAt, 2, (some .int))
theorem mdX4_skyAt : Md mX4_skyAt 1 := ⟨List.mem_of_getElem? (i := 570) (by decide +kernel), List.mem_of_getElem? (i := 27) (by decide +kernel), rfl, by decide +kernel⟩
abbrev mX3_homeHours : hMd := (yX3_homeHours, cX3_homeHours, 1, (some .int))
theorem mdX3_homeHours : Md mX3_homeHours 0 := ⟨List.mem_of_getElem? (i := 574) (by decide +kernel), List.mem_of_getElem? (i := 23) (by decide +kernel), rfl, by decide +kernel⟩
abbrev mX4_wouldOpen : hMd := (yX4_wouldOpen, cX4_wouldOpen, 4, (some .boolean))
theorem mdX4_wouldOpen : Md mX4_wouldOpen 3 := ⟨List.mem_of_getElem? (i := 578) (by decide +kernel), List.mem_of_getElem? (i := 27) (by decide +kernel), rfl, by decide +kernel⟩
abbrev mX4_sunIn : hMd := (yX4_sunIn, cX4_sunIn, 3, (some .int))
theorem mdX4_sunIn : Md mX4_sunIn 2 := ⟨List.mem_of_getElem? (i := 582) (by decide +kernel), List.mem_of_getElem? (i := 27) (by decide +kernel), rfl, by decide +kernel⟩
abbrev mX4_gives : hMd := (yX4_gives, cX4_gives, 1, (some .int))
theorem mdX4_gives : Md mX4_gives 0 := ⟨List.mem_of_getElem? (i := 586) (by decide +kernel), List.mem_of_getElem? (i := 27) (by decide +kernel), rfl, by decide +kernel⟩
abbrev mX1_throughDoors : hMd := (yX1_throughDoors, cX1_throughDoors, 7, (some .int))
theorem mdX1_throughDoors : Md mX1_throughDoors 3 := ⟨List.mem_of_getElem? (i := 590) (by decide +kernel), List.mem_of_getElem? (i := 31) (by decide +kernel), rfl, by decide +kernel⟩
abbrev mX3_window : hMd := (yX3_window, cX3_window, 1, (some .int))
theorem mdX3_window : Md mX3_window 0 := ⟨List.mem_of_getElem? (i := 596) (by decide +kernel), List.mem_of_getElem? (i := 23) (by decide +kernel), rfl, by decide +kernel⟩
abbrev mX4_takes : hMd := (yX4_takes, cX4_takes, 1, (some .int))
theorem mdX4_takes : Md mX4_takes 0 := ⟨List.mem_of_getElem? (i := 600) (by decide +kernel), List.mem_of_getElem? (i := 27) (by decide +kernel), rfl, by decide +kernel⟩
abbrev mX4_leaks : hMd := (yX4_leaks, cX4_leaks, 2, (some .int))
theorem mdX4_leaks : Md mX4_leaks 1 := ⟨List.mem_of_getElem? (i := 604) (by decide +kernel), List.mem_of_getElem? (i := 27) (by decide +kernel), rfl, by decide +kernel⟩
abbrev mX1_airBehind : hMd := (yX1_airBehind, cX1_airBehind, 3, (some .int))
theorem mdX1_airBehind : Md mX1_airBehind 2 := ⟨List.mem_of_getElem? (i := 608) (by decide +kernel), List.mem_of_getElem? (i := 31) (by decide +kernel), rfl, by decide +kernel⟩
abbrev mX1_wallBehind : hMd := (yX1_wallBehind, cX1_wallBehind, 3, (some .int))
theorem mdX1_wallBehind : Md mX1_wallBehind 2 := ⟨List.mem_of_getElem? (i := 612) (by decide +kernel), List.mem_of_getElem? (i := 31) (by decide +kernel), rfl, by decide +kernel⟩
abbrev mX1_openIn : hMd := (yX1_openIn, cX1_openIn, 3, (some .int))
theorem mdX1_openIn : Md mX1_openIn 2 := ⟨List.mem_of_getElem? (i := 616) (by decide +kernel), List.mem_of_getElem? (i := 31) (by decide +kernel), rfl, by decide +kernel⟩
abbrev mX11_warm : hMd := (yX11_warm, cX11_warm, 5, (some .int))
theorem mdX11_warm : Md mX11_warm 3 := ⟨List.mem_of_getElem? (i := 620) (by decide +kernel), List.mem_of_getElem? (i := 5) (by decide +kernel), rfl, by decide +kernel⟩
abbrev mX11_asTold : hMd := (yX11_asTold, cX11_asTold, 2, none)
theorem mdX11_asTold : Md mX11_asTold 0 := ⟨List.mem_of_getElem? (i := 624) (by decide +kernel), List.mem_of_getElem? (i := 5) (by decide +kernel), rfl, by decide +kernel⟩
abbrev mX11_goWeek : hMd := (yX11_goWeek, cX11_goWeek, 2, none)
theorem mdX11_goWeek : Md mX11_goWeek 0 := ⟨List.mem_of_getElem? (i := 629) (by decide +kernel), List.mem_of_getElem? (i := 5) (by decide +kernel), rfl, by decide +kernel⟩
abbrev mX11_goHour : hMd := (yX11_goHour, cX11_goHour, 9, none)
theorem mdX11_goHour : Md mX11_goHour 1 := ⟨List.mem_of_getElem? (i := 633) (by decide +kernel), List.mem_of_getElem? (i := 5) (by decide +kernel), rfl, by decide +kernel⟩
abbrev mX11_sunAt : hMd := (yX11_sunAt, cX11_sunAt, 7, (some .int))
theorem mdX11_sunAt : Md mX11_sunAt 2 := ⟨List.mem_of_getElem? (i := 637) (by decide +kernel), List.mem_of_getElem? (i := 5) (by decide +kernel), rfl, by decide +kernel⟩
abbrev mX11_isOpenAt : hMd := (yX11_isOpenAt, cX11_isOpenAt, 4, (some .boolean))
theorem mdX11_isOpenAt : Md mX11_isOpenAt 2 := ⟨List.mem_of_getElem? (i := 642) (by decide +kernel), List.mem_of_getElem? (i := 5) (by decide +kernel), rfl, by decide +kernel⟩
abbrev mX11_leaksOf : hMd := (yX11_leaksOf, cX11_leaksOf, 4, (some .int))
theorem mdX11_leaksOf : Md mX11_leaksOf 1 := ⟨List.mem_of_getElem? (i := 646) (by decide +kernel), List.mem_of_getElem? (i := 5) (by decide +kernel), rfl, by decide +kernel⟩
abbrev mX10_night : hMd := (yX10_night, cX10_night, 2, (some .int))
theorem mdX10_night : Md mX10_night 1 := ⟨List.mem_of_getElem? (i := 650) (by decide +kernel), List.mem_of_getElem? (i := 2) (by decide +kernel), rfl, by decide +kernel⟩
abbrev mX1_nightOfAll : hMd := (yX1_nightOfAll, cX1_nightOfAll, 4, (some .int))
theorem mdX1_nightOfAll : Md mX1_nightOfAll 1 := ⟨List.mem_of_getElem? (i := 654) (by decide +kernel), List.mem_of_getElem? (i := 31) (by decide +kernel), rfl, by decide +kernel⟩
abbrev mX1_nightOf : hMd := (yX1_nightOf, cX1_nightOf, 5, (some .int))
theorem mdX1_nightOf : Md mX1_nightOf 1 := ⟨List.mem_of_getElem? (i := 658) (by decide +kernel), List.mem_of_getElem? (i := 31) (by decide +kernel), rfl, by decide +kernel⟩
abbrev mX11_night : hMd := (yX11_night, cX11_night, 3, (some .int))
theorem mdX11_night : Md mX11_night 1 := ⟨List.mem_of_getElem? (i := 663) (by decide +kernel), List.mem_of_getElem? (i := 5) (by decide +kernel), rfl, by decide +kernel⟩
abbrev mX11_nightOfAll : hMd := (yX11_nightOfAll, cX11_nightOfAll, 3, (some .int))
theorem mdX11_nightOfAll : Md mX11_nightOfAll 0 := ⟨List.mem_of_getElem? (i := 667) (by decide +kernel), List.mem_of_getElem? (i := 5) (by decide +kernel), rfl, by decide +kernel⟩
abbrev mX11_nightOf : hMd := (yX11_nightOf, cX11_nightOf, 5, (some .int))
theorem mdX11_nightOf : Md mX11_nightOf 1 := ⟨List.mem_of_getElem? (i := 671) (by decide +kernel), List.mem_of_getElem? (i := 5) (by decide +kernel), rfl, by decide +kernel⟩
abbrev mX10_above : hMd := (yX10_above, cX10_above, 3, (some .int))
theorem mdX10_above : Md mX10_above 2 := ⟨List.mem_of_getElem? (i := 675) (by decide +kernel), List.mem_of_getElem? (i := 2) (by decide +kernel), rfl, by decide +kernel⟩
abbrev mX1_longestAbove : hMd := (yX1_longestAbove, cX1_longestAbove, 6, (some .int))
theorem mdX1_longestAbove : Md mX1_longestAbove 2 := ⟨List.mem_of_getElem? (i := 679) (by decide +kernel), List.mem_of_getElem? (i := 31) (by decide +kernel), rfl, by decide +kernel⟩
abbrev mX11_above : hMd := (yX11_above, cX11_above, 6, (some .int))
theorem mdX11_above : Md mX11_above 2 := ⟨List.mem_of_getElem? (i := 687) (by decide +kernel), List.mem_of_getElem? (i := 5) (by decide +kernel), rfl, by decide +kernel⟩
abbrev mX10_costs : hMd := (yX10_costs, cX10_costs, 2, (some .int))
theorem mdX10_costs : Md mX10_costs 1 := ⟨List.mem_of_getElem? (i := 691) (by decide +kernel), List.mem_of_getElem? (i := 2) (by decide +kernel), rfl, by decide +kernel⟩
abbrev mX4_putHabit : hMd := (yX4_putHabit, cX4_putHabit, 3, none)
theorem mdX4_putHabit : Md mX4_putHabit 2 := ⟨List.mem_of_getElem? (i := 696) (by decide +kernel), List.mem_of_getElem? (i := 27) (by decide +kernel), rfl, by decide +kernel⟩
abbrev mX11_costs : hMd := (yX11_costs, cX11_costs, 3, (some .int))
theorem mdX11_costs : Md mX11_costs 1 := ⟨List.mem_of_getElem? (i := 700) (by decide +kernel), List.mem_of_getElem? (i := 5) (by decide +kernel), rfl, by decide +kernel⟩
abbrev mX10_clock : hMd := (yX10_clock, cX10_clock, 2, (some .int))
theorem mdX10_clock : Md mX10_clock 1 := ⟨List.mem_of_getElem? (i := 705) (by decide +kernel), List.mem_of_getElem? (i := 2) (by decide +kernel), rfl, by decide +kernel⟩
abbrev mX0_find : hMd := (yX0_find, cX0_find, 6, none)
theorem mdX0_find : Md mX0_find 3 := ⟨List.mem_of_getElem? (i := 709) (by decide +kernel), List.mem_of_getElem? (i := 36) (by decide +kernel), rfl, by decide +kernel⟩
abbrev mX4_putAllByGlass : hMd := (yX4_putAllByGlass, cX4_putAllByGlass, 2, none)
theorem mdX4_putAllByGlass : Md mX4_putAllByGlass 0 := ⟨List.mem_of_getElem? (i := 715) (by decide +kernel), List.mem_of_getElem? (i := 27) (by decide +kernel), rfl, by decide +kernel⟩
abbrev mX4_putAllByClock : hMd := (yX4_putAllByClock, cX4_putAllByClock, 3, none)
theorem mdX4_putAllByClock : Md mX4_putAllByClock 1 := ⟨List.mem_of_getElem? (i := 721) (by decide +kernel), List.mem_of_getElem? (i := 27) (by decide +kernel), rfl, by decide +kernel⟩
abbrev mX0_keepBetter : hMd := (yX0_keepBetter, cX0_keepBetter, 5, none)
theorem mdX0_keepBetter : Md mX0_keepBetter 3 := ⟨List.mem_of_getElem? (i := 725) (by decide +kernel), List.mem_of_getElem? (i := 36) (by decide +kernel), rfl, by decide +kernel⟩
abbrev mX0_from : hMd := (yX0_from, cX0_from, 1, (some .int))
theorem mdX0_from : Md mX0_from 0 := ⟨List.mem_of_getElem? (i := 732) (by decide +kernel), List.mem_of_getElem? (i := 36) (by decide +kernel), rfl, by decide +kernel⟩
abbrev mX0_to : hMd := (yX0_to, cX0_to, 1, (some .int))
theorem mdX0_to : Md mX0_to 0 := ⟨List.mem_of_getElem? (i := 736) (by decide +kernel), List.mem_of_getElem? (i := 36) (by decide +kernel), rfl, by decide +kernel⟩
abbrev mX0_nightOfAll : hMd := (yX0_nightOfAll, cX0_nightOfAll, 1, (some .int))
theorem mdX0_nightOfAll : Md mX0_nightOfAll 0 := ⟨List.mem_of_getElem? (i := 740) (by decide +kernel), List.mem_of_getElem? (i := 36) (by decide +kernel), rfl, by decide +kernel⟩
abbrev mX0_near : hMd := (yX0_near, cX0_near, 1, (some .int))
theorem mdX0_near : Md mX0_near 0 := ⟨List.mem_of_getElem? (i := 744) (by decide +kernel), List.mem_of_getElem? (i := 36) (by decide +kernel), rfl, by decide +kernel⟩
abbrev mX11_clock : hMd := (yX11_clock, cX11_clock, 6, (some .int))
theorem mdX11_clock : Md mX11_clock 1 := ⟨List.mem_of_getElem? (i := 748) (by decide +kernel), List.mem_of_getElem? (i := 5) (by decide +kernel), rfl, by decide +kernel⟩
abbrev mX11_nightByClock : hMd := (yX11_nightByClock, cX11_nightByClock, 4, (some .int))
theorem mdX11_nightByClock : Md mX11_nightByClock 2 := ⟨List.mem_of_getElem? (i := 752) (by decide +kernel), List.mem_of_getElem? (i := 5) (by decide +kernel), rfl, by decide +kernel⟩
abbrev mX11_nightByGlass : hMd := (yX11_nightByGlass, cX11_nightByGlass, 2, (some .int))
theorem mdX11_nightByGlass : Md mX11_nightByGlass 0 := ⟨List.mem_of_getElem? (i := 756) (by decide +kernel), List.mem_of_getElem? (i := 5) (by decide +kernel), rfl, by decide +kernel⟩
abbrev mX10_work : hMd := (yX10_work, cX10_work, 5, (some .int))
theorem mdX10_work : Md mX10_work 4 := ⟨List.mem_of_getElem? (i := 760) (by decide +kernel), List.mem_of_getElem? (i := 2) (by decide +kernel), rfl, by decide +kernel⟩
abbrev mX9_isFull : hMd := (yX9_isFull, cX9_isFull, 1, (some .boolean))
theorem mdX9_isFull : Md mX9_isFull 0 := ⟨List.mem_of_getElem? (i := 764) (by decide +kernel), List.mem_of_getElem? (i := 40) (by decide +kernel), rfl, by decide +kernel⟩
abbrev mX9_add : hMd := (yX9_add, cX9_add, 5, (some .int))
theorem mdX9_add : Md mX9_add 4 := ⟨List.mem_of_getElem? (i := 768) (by decide +kernel), List.mem_of_getElem? (i := 40) (by decide +kernel), rfl, by decide +kernel⟩
abbrev mX11_work : hMd := (yX11_work, cX11_work, 5, (some .int))
theorem mdX11_work : Md mX11_work 4 := ⟨List.mem_of_getElem? (i := 773) (by decide +kernel), List.mem_of_getElem? (i := 5) (by decide +kernel), rfl, by decide +kernel⟩
abbrev mX10_works : hMd := (yX10_works, cX10_works, 3, (some .int))
theorem mdX10_works : Md mX10_works 2 := ⟨List.mem_of_getElem? (i := 777) (by decide +kernel), List.mem_of_getElem? (i := 2) (by decide +kernel), rfl, by decide +kernel⟩
abbrev mX9_findFor : hMd := (yX9_findFor, cX9_findFor, 7, none)
theorem mdX9_findFor : Md mX9_findFor 4 := ⟨List.mem_of_getElem? (i := 781) (by decide +kernel), List.mem_of_getElem? (i := 40) (by decide +kernel), rfl, by decide +kernel⟩
abbrev mX9_costOf : hMd := (yX9_costOf, cX9_costOf, 4, (some .int))
theorem mdX9_costOf : Md mX9_costOf 1 := ⟨List.mem_of_getElem? (i := 788) (by decide +kernel), List.mem_of_getElem? (i := 40) (by decide +kernel), rfl, by decide +kernel⟩
abbrev mX4_takeAllWorksOff : hMd := (yX4_takeAllWorksOff, cX4_takeAllWorksOff, 3, none)
theorem mdX4_takeAllWorksOff : Md mX4_takeAllWorksOff 1 := ⟨List.mem_of_getElem? (i := 792) (by decide +kernel), List.mem_of_getElem? (i := 27) (by decide +kernel), rfl, by decide +kernel⟩
abbrev mX9_put : hMd := (yX9_put, cX9_put, 4, none)
theorem mdX9_put : Md mX9_put 2 := ⟨List.mem_of_getElem? (i := 796) (by decide +kernel), List.mem_of_getElem? (i := 40) (by decide +kernel), rfl, by decide +kernel⟩
abbrev mX4_putWork : hMd := (yX4_putWork, cX4_putWork, 5, none)
theorem mdX4_putWork : Md mX4_putWork 3 := ⟨List.mem_of_getElem? (i := 800) (by decide +kernel), List.mem_of_getElem? (i := 27) (by decide +kernel), rfl, by decide +kernel⟩
abbrev mX9_bestSet : hMd := (yX9_bestSet, cX9_bestSet, 1, (some .int))
theorem mdX9_bestSet : Md mX9_bestSet 0 := ⟨List.mem_of_getElem? (i := 807) (by decide +kernel), List.mem_of_getElem? (i := 40) (by decide +kernel), rfl, by decide +kernel⟩
abbrev mX9_bestNight : hMd := (yX9_bestNight, cX9_bestNight, 1, (some .int))
theorem mdX9_bestNight : Md mX9_bestNight 0 := ⟨List.mem_of_getElem? (i := 811) (by decide +kernel), List.mem_of_getElem? (i := 40) (by decide +kernel), rfl, by decide +kernel⟩
abbrev mX11_works : hMd := (yX11_works, cX11_works, 7, (some .int))
theorem mdX11_works : Md mX11_works 2 := ⟨List.mem_of_getElem? (i := 815) (by decide +kernel), List.mem_of_getElem? (i := 5) (by decide +kernel), rfl, by decide +kernel⟩
abbrev mX11_costOf : hMd := (yX11_costOf, cX11_costOf, 4, (some .int))
theorem mdX11_costOf : Md mX11_costOf 1 := ⟨List.mem_of_getElem? (i := 819) (by decide +kernel), List.mem_of_getElem? (i := 5) (by decide +kernel), rfl, by decide +kernel⟩
abbrev mX10_read : hMd := (yX10_read, cX10_read, 4, (some .int))
theorem mdX10_read : Md mX10_read 3 := ⟨List.mem_of_getElem? (i := 823) (by decide +kernel), List.mem_of_getElem? (i := 2) (by decide +kernel), rfl, by decide +kernel⟩
abbrev mX2_isFull : hMd := (yX2_isFull, cX2_isFull, 1, (some .boolean))
theorem mdX2_isFull : Md mX2_isFull 0 := ⟨List.mem_of_getElem? (i := 827) (by decide +kernel), List.mem_of_getElem? (i := 44) (by decide +kernel), rfl, by decide +kernel⟩
abbrev mX2_add : hMd := (yX2_add, cX2_add, 4, (some .int))
theorem mdX2_add : Md mX2_add 3 := ⟨List.mem_of_getElem? (i := 831) (by decide +kernel), List.mem_of_getElem? (i := 44) (by decide +kernel), rfl, by decide +kernel⟩
abbrev mX11_read : hMd := (yX11_read, cX11_read, 4, (some .int))
theorem mdX11_read : Md mX11_read 3 := ⟨List.mem_of_getElem? (i := 836) (by decide +kernel), List.mem_of_getElem? (i := 5) (by decide +kernel), rfl, by decide +kernel⟩
abbrev mX10_learnt : hMd := (yX10_learnt, cX10_learnt, 3, (some .int))
theorem mdX10_learnt : Md mX10_learnt 2 := ⟨List.mem_of_getElem? (i := 841) (by decide +kernel), List.mem_of_getElem? (i := 2) (by decide +kernel), rfl, by decide +kernel⟩
abbrev mX2_learn : hMd := (yX2_learn, cX2_learn, 7, none)
theorem mdX2_learn : Md mX2_learn 4 := ⟨List.mem_of_getElem? (i := 845) (by decide +kernel), List.mem_of_getElem? (i := 44) (by decide +kernel), rfl, by decide +kernel⟩
abbrev mX2_allHold : hMd := (yX2_allHold, cX2_allHold, 5, (some .boolean))
theorem mdX2_allHold : Md mX2_allHold 3 := ⟨List.mem_of_getElem? (i := 852) (by decide +kernel), List.mem_of_getElem? (i := 44) (by decide +kernel), rfl, by decide +kernel⟩
abbrev mX2_keep : hMd := (yX2_keep, cX2_keep, 4, none)
theorem mdX2_keep : Md mX2_keep 2 := ⟨List.mem_of_getElem? (i := 861) (by decide +kernel), List.mem_of_getElem? (i := 44) (by decide +kernel), rfl, by decide +kernel⟩
abbrev mX2_laws : hMd := (yX2_laws, cX2_laws, 1, (some .int))
theorem mdX2_laws : Md mX2_laws 0 := ⟨List.mem_of_getElem? (i := 873) (by decide +kernel), List.mem_of_getElem? (i := 44) (by decide +kernel), rfl, by decide +kernel⟩
abbrev mX2_bound : hMd := (yX2_bound, cX2_bound, 2, (some .int))
theorem mdX2_bound : Md mX2_bound 1 := ⟨List.mem_of_getElem? (i := 877) (by decide +kernel), List.mem_of_getElem? (i := 44) (by decide +kernel), rfl, by decide +kernel⟩
abbrev mX11_learnt : hMd := (yX11_learnt, cX11_learnt, 7, (some .int))
theorem mdX11_learnt : Md mX11_learnt 2 := ⟨List.mem_of_getElem? (i := 881) (by decide +kernel), List.mem_of_getElem? (i := 5) (by decide +kernel), rfl, by decide +kernel⟩
abbrev mX11_doHold : hMd := (yX11_doHold, cX11_doHold, 4, (some .boolean))
theorem mdX11_doHold : Md mX11_doHold 1 := ⟨List.mem_of_getElem? (i := 885) (by decide +kernel), List.mem_of_getElem? (i := 5) (by decide +kernel), rfl, by decide +kernel⟩
abbrev mX10_flat : hMd := (yX10_flat, cX10_flat, 4, (some .int))
theorem mdX10_flat : Md mX10_flat 3 := ⟨List.mem_of_getElem? (i := 889) (by decide +kernel), List.mem_of_getElem? (i := 2) (by decide +kernel), rfl, by decide +kernel⟩
abbrev mX6_tell : hMd := (yX6_tell, cX6_tell, 4, none)
theorem mdX6_tell : Md mX6_tell 3 := ⟨List.mem_of_getElem? (i := 893) (by decide +kernel), List.mem_of_getElem? (i := 48) (by decide +kernel), rfl, by decide +kernel⟩
abbrev mX11_flat : hMd := (yX11_flat, cX11_flat, 4, (some .int))
theorem mdX11_flat : Md mX11_flat 3 := ⟨List.mem_of_getElem? (i := 897) (by decide +kernel), List.mem_of_getElem? (i := 5) (by decide +kernel), rfl, by decide +kernel⟩
abbrev mX10_ring : hMd := (yX10_ring, cX10_ring, 2, (some .int))
theorem mdX10_ring : Md mX10_ring 1 := ⟨List.mem_of_getElem? (i := 901) (by decide +kernel), List.mem_of_getElem? (i := 2) (by decide +kernel), rfl, by decide +kernel⟩
abbrev mX6_weigh : hMd := (yX6_weigh, cX6_weigh, 3, none)
theorem mdX6_weigh : Md mX6_weigh 0 := ⟨List.mem_of_getElem? (i := 905) (by decide +kernel), List.mem_of_getElem? (i := 48) (by decide +kernel), rfl, by decide +kernel⟩
abbrev mX6_toldSet : hMd := (yX6_toldSet, cX6_toldSet, 3, (some .int))
theorem mdX6_toldSet : Md mX6_toldSet 0 := ⟨List.mem_of_getElem? (i := 909) (by decide +kernel), List.mem_of_getElem? (i := 48) (by decide +kernel), rfl, by decide +kernel⟩
abbrev mX6_firstOf : hMd := (yX6_firstOf, cX6_firstOf, 5, (some .int))
theorem mdX6_firstOf : Md mX6_firstOf 2 := ⟨List.mem_of_getElem? (i := 913) (by decide +kernel), List.mem_of_getElem? (i := 48) (by decide +kernel), rfl, by decide +kernel⟩
abbrev mX6_lostBy : hMd := (yX6_lostBy, cX6_lostBy, 6, (some .int))
theorem mdX6_lostBy : Md mX6_lostBy 3 := ⟨List.mem_of_getElem? (i := 917) (by decide +kernel), List.mem_of_getElem? (i := 48) (by decide +kernel), rfl, by decide +kernel⟩
abbrev mJ6_bitCount_0f7a4 : hMd := (yJ6_bitCount_0f7a4, cJ6_bitCount_0f7a4, 1, (some .int))
theorem mdJ6_bitCount_0f7a4 : Md mJ6_bitCount_0f7a4 1 := ⟨List.mem_of_getElem? (i := 921) (by decide +kernel), List.mem_of_getElem? (i := 920) (by decide +kernel), rfl, by decide +kernel⟩
abbrev mX6_lost : hMd := (yX6_lost, cX6_lost, 1, (some .int))
theorem mdX6_lost : Md mX6_lost 0 := ⟨List.mem_of_getElem? (i := 928) (by decide +kernel), List.mem_of_getElem? (i := 48) (by decide +kernel), rfl, by decide +kernel⟩
abbrev mX6_flatAt : hMd := (yX6_flatAt, cX6_flatAt, 6, (some .int))
theorem mdX6_flatAt : Md mX6_flatAt 1 := ⟨List.mem_of_getElem? (i := 932) (by decide +kernel), List.mem_of_getElem? (i := 48) (by decide +kernel), rfl, by decide +kernel⟩
abbrev mX11_ring : hMd := (yX11_ring, cX11_ring, 7, (some .int))
theorem mdX11_ring : Md mX11_ring 1 := ⟨List.mem_of_getElem? (i := 936) (by decide +kernel), List.mem_of_getElem? (i := 5) (by decide +kernel), rfl, by decide +kernel⟩
abbrev mX11_toldFlats : hMd := (yX11_toldFlats, cX11_toldFlats, 3, (some .int))
theorem mdX11_toldFlats : Md mX11_toldFlats 0 := ⟨List.mem_of_getElem? (i := 940) (by decide +kernel), List.mem_of_getElem? (i := 5) (by decide +kernel), rfl, by decide +kernel⟩
abbrev mX11_layRest : hMd := (yX11_layRest, cX11_layRest, 6, none)
theorem mdX11_layRest : Md mX11_layRest 1 := ⟨List.mem_of_getElem? (i := 944) (by decide +kernel), List.mem_of_getElem? (i := 5) (by decide +kernel), rfl, by decide +kernel⟩
abbrev mX11_bits : hMd := (yX11_bits, cX11_bits, 3, (some .int))
theorem mdX11_bits : Md mX11_bits 1 := ⟨List.mem_of_getElem? (i := 947) (by decide +kernel), List.mem_of_getElem? (i := 5) (by decide +kernel), rfl, by decide +kernel⟩
abbrev mX11_lostBy : hMd := (yX11_lostBy, cX11_lostBy, 3, (some .int))
theorem mdX11_lostBy : Md mX11_lostBy 2 := ⟨List.mem_of_getElem? (i := 951) (by decide +kernel), List.mem_of_getElem? (i := 5) (by decide +kernel), rfl, by decide +kernel⟩
abbrev mX10_street : hMd := (yX10_street, cX10_street, 6, (some .int))
theorem mdX10_street : Md mX10_street 5 := ⟨List.mem_of_getElem? (i := 955) (by decide +kernel), List.mem_of_getElem? (i := 2) (by decide +kernel), rfl, by decide +kernel⟩
abbrev mX7_look : hMd := (yX7_look, cX7_look, 7, none)
theorem mdX7_look : Md mX7_look 4 := ⟨List.mem_of_getElem? (i := 960) (by decide +kernel), List.mem_of_getElem? (i := 52) (by decide +kernel), rfl, by decide +kernel⟩
abbrev mX7_allHave : hMd := (yX7_allHave, cX7_allHave, 4, (some .int))
theorem mdX7_allHave : Md mX7_allHave 1 := ⟨List.mem_of_getElem? (i := 970) (by decide +kernel), List.mem_of_getElem? (i := 52) (by decide +kernel), rfl, by decide +kernel⟩
abbrev mX7_has : hMd := (yX7_has, cX7_has, 5, (some .int))
theorem mdX7_has : Md mX7_has 3 := ⟨List.mem_of_getElem? (i := 974) (by decide +kernel), List.mem_of_getElem? (i := 52) (by decide +kernel), rfl, by decide +kernel⟩
abbrev mX7_isRest : hMd := (yX7_isRest, cX7_isRest, 4, (some .boolean))
theorem mdX7_isRest : Md mX7_isRest 1 := ⟨List.mem_of_getElem? (i := 978) (by decide +kernel), List.mem_of_getElem? (i := 52) (by decide +kernel), rfl, by decide +kernel⟩
abbrev mX7_keepRest : hMd := (yX7_keepRest, cX7_keepRest, 3, none)
theorem mdX7_keepRest : Md mX7_keepRest 2 := ⟨List.mem_of_getElem? (i := 982) (by decide +kernel), List.mem_of_getElem? (i := 52) (by decide +kernel), rfl, by decide +kernel⟩
abbrev mX7_rests : hMd := (yX7_rests, cX7_rests, 1, (some .int))
theorem mdX7_rests : Md mX7_rests 0 := ⟨List.mem_of_getElem? (i := 987) (by decide +kernel), List.mem_of_getElem? (i := 52) (by decide +kernel), rfl, by decide +kernel⟩
abbrev mX7_bestRest : hMd := (yX7_bestRest, cX7_bestRest, 1, (some .int))
theorem mdX7_bestRest : Md mX7_bestRest 0 := ⟨List.mem_of_getElem? (i := 991) (by decide +kernel), List.mem_of_getElem? (i := 52) (by decide +kernel), rfl, by decide +kernel⟩
abbrev mX7_mostByRest : hMd := (yX7_mostByRest, cX7_mostByRest, 1, (some .int))
theorem mdX7_mostByRest : Md mX7_mostByRest 0 := ⟨List.mem_of_getElem? (i := 995) (by decide +kernel), List.mem_of_getElem? (i := 52) (by decide +kernel), rfl, by decide +kernel⟩
abbrev mX7_mostByAny : hMd := (yX7_mostByAny, cX7_mostByAny, 1, (some .int))
theorem mdX7_mostByAny : Md mX7_mostByAny 0 := ⟨List.mem_of_getElem? (i := 999) (by decide +kernel), List.mem_of_getElem? (i := 52) (by decide +kernel), rfl, by decide +kernel⟩
abbrev mX11_street : hMd := (yX11_street, cX11_street, 16, (some .int))
theorem mdX11_street : Md mX11_street 5 := ⟨List.mem_of_getElem? (i := 1003) (by decide +kernel), List.mem_of_getElem? (i := 5) (by decide +kernel), rfl, by decide +kernel⟩
abbrev mX11_hasBy : hMd := (yX11_hasBy, cX11_hasBy, 8, (some .int))
theorem mdX11_hasBy : Md mX11_hasBy 6 := ⟨List.mem_of_getElem? (i := 1007) (by decide +kernel), List.mem_of_getElem? (i := 5) (by decide +kernel), rfl, by decide +kernel⟩
abbrev mX10_count : hMd := (yX10_count, cX10_count, 2, (some .int))
theorem mdX10_count : Md mX10_count 1 := ⟨List.mem_of_getElem? (i := 1011) (by decide +kernel), List.mem_of_getElem? (i := 2) (by decide +kernel), rfl, by decide +kernel⟩
abbrev mX3_toldRooms : hMd := (yX3_toldRooms, cX3_toldRooms, 3, (some .int))
theorem mdX3_toldRooms : Md mX3_toldRooms 0 := ⟨List.mem_of_getElem? (i := 1015) (by decide +kernel), List.mem_of_getElem? (i := 23) (by decide +kernel), rfl, by decide +kernel⟩
abbrev mX9_size : hMd := (yX9_size, cX9_size, 1, (some .int))
theorem mdX9_size : Md mX9_size 0 := ⟨List.mem_of_getElem? (i := 1019) (by decide +kernel), List.mem_of_getElem? (i := 40) (by decide +kernel), rfl, by decide +kernel⟩
abbrev mX2_size : hMd := (yX2_size, cX2_size, 1, (some .int))
theorem mdX2_size : Md mX2_size 0 := ⟨List.mem_of_getElem? (i := 1023) (by decide +kernel), List.mem_of_getElem? (i := 44) (by decide +kernel), rfl, by decide +kernel⟩
abbrev mX6_toldFlats : hMd := (yX6_toldFlats, cX6_toldFlats, 1, (some .int))
theorem mdX6_toldFlats : Md mX6_toldFlats 0 := ⟨List.mem_of_getElem? (i := 1027) (by decide +kernel), List.mem_of_getElem? (i := 48) (by decide +kernel), rfl, by decide +kernel⟩
abbrev mX11_count : hMd := (yX11_count, cX11_count, 2, (some .int))
theorem mdX11_count : Md mX11_count 1 := ⟨List.mem_of_getElem? (i := 1032) (by decide +kernel), List.mem_of_getElem? (i := 5) (by decide +kernel), rfl, by decide +kernel⟩
theorem cnL_13 : Cond.constantLong RL 13 (4294967295) ∈ wsL_law := List.mem_of_getElem? (i := 6) (by decide +kernel)
theorem glX10_12 : Gl RX10 12 10 0 := ⟨_, _, _, _, kc_10, by decide, List.mem_of_getElem? (i := 16) (by decide +kernel)⟩
theorem glX10_19 : Gl RX10 19 10 1 := ⟨_, _, _, _, kc_10, by decide, List.mem_of_getElem? (i := 20) (by decide +kernel)⟩
theorem glX10_26 : Gl RX10 26 10 2 := ⟨_, _, _, _, kc_10, by decide, List.mem_of_getElem? (i := 24) (by decide +kernel)⟩
theorem glX10_33 : Gl RX10 33 10 3 := ⟨_, _, _, _, kc_10, by decide, List.mem_of_getElem? (i := 28) (by decide +kernel)⟩
theorem glX10_40 : Gl RX10 40 10 4 := ⟨_, _, _, _, kc_10, by decide, List.mem_of_getElem? (i := 32) (by decide +kernel)⟩
theorem glX10_44 : Gl RX10 44 10 5 := ⟨_, _, _, _, kc_10, by decide, List.mem_of_getElem? (i := 33) (by decide +kernel)⟩
theorem glX10_50 : Gl RX10 50 10 6 := ⟨_, _, _, _, kc_10, by decide, List.mem_of_getElem? (i := 37) (by decide +kernel)⟩
theorem glX10_57 : Gl RX10 57 10 7 := ⟨_, _, _, _, kc_10, by decide, List.mem_of_getElem? (i := 41) (by decide +kernel)⟩
theorem glX10_64 : Gl RX10 64 10 8 := ⟨_, _, _, _, kc_10, by decide, List.mem_of_getElem? (i := 45) (by decide +kernel)⟩
theorem glX10_71 : Gl RX10 71 10 9 := ⟨_, _, _, _, kc_10, by decide, List.mem_of_getElem? (i := 49) (by decide +kernel)⟩
theorem glX10_78 : Gl RX10 78 10 10 := ⟨_, _, _, _, kc_10, by decide, List.mem_of_getElem? (i := 53) (by decide +kernel)⟩
theorem glX10_82 : Gl RX10 82 10 11 := ⟨_, _, _, _, kc_10, by decide, List.mem_of_getElem? (i := 54) (by decide +kernel)⟩
theorem plX10_82 : Pl RX10 82 10 11 .boolean := ⟨_, _, _, _, kc_10, by decide, List.mem_of_getElem? (i := 54) (by decide +kernel), rfl, by decide +kernel⟩
theorem glX8_11 : Gl RX8 11 8 0 := ⟨_, _, _, _, kc_8, by decide, List.mem_of_getElem? (i := 60) (by decide +kernel)⟩
theorem glX8_15 : Gl RX8 15 8 1 := ⟨_, _, _, _, kc_8, by decide, List.mem_of_getElem? (i := 61) (by decide +kernel)⟩
theorem plX8_15 : Pl RX8 15 8 1 .int := ⟨_, _, _, _, kc_8, by decide, List.mem_of_getElem? (i := 61) (by decide +kernel), rfl, by decide +kernel⟩
theorem glX5_11 : Gl RX5 11 5 0 := ⟨_, _, _, _, kc_5, by decide, List.mem_of_getElem? (i := 66) (by decide +kernel)⟩
theorem glX5_17 : Gl RX5 17 5 1 := ⟨_, _, _, _, kc_5, by decide, List.mem_of_getElem? (i := 68) (by decide +kernel)⟩
theorem glX5_20 : Gl RX5 20 5 2 := ⟨_, _, _, _, kc_5, by decide, List.mem_of_getElem? (i := 69) (by decide +kernel)⟩
theorem plX5_20 : Pl RX5 20 5 2 .int := ⟨_, _, _, _, kc_5, by decide, List.mem_of_getElem? (i := 69) (by decide +kernel), rfl, by decide +kernel⟩
theorem glX5_24 : Gl RX5 24 5 3 := ⟨_, _, _, _, kc_5, by decide, List.mem_of_getElem? (i := 70) (by decide +kernel)⟩
theorem plX5_24 : Pl RX5 24 5 3 .int := ⟨_, _, _, _, kc_5, by decide, List.mem_of_getElem? (i := 70) (by decide +kernel), rfl, by decide +kernel⟩
theorem glX3_9 : Gl RX3 9 3 0 := ⟨_, _, _, _, kc_3, by decide, List.mem_of_getElem? (i := 76) (by decide +kernel)⟩
theorem glX3_15 : Gl RX3 15 3 1 := ⟨_, _, _, _, kc_3, by decide, List.mem_of_getElem? (i := 77) (by decide +kernel)⟩
theorem glX3_19 : Gl RX3 19 3 2 := ⟨_, _, _, _, kc_3, by decide, List.mem_of_getElem? (i := 78) (by decide +kernel)⟩
theorem glX3_22 : Gl RX3 22 3 3 := ⟨_, _, _, _, kc_3, by decide, List.mem_of_getElem? (i := 79) (by decide +kernel)⟩
theorem glX3_25 : Gl RX3 25 3 4 := ⟨_, _, _, _, kc_3, by decide, List.mem_of_getElem? (i := 80) (by decide +kernel)⟩
theorem glX3_28 : Gl RX3 28 3 5 := ⟨_, _, _, _, kc_3, by decide, List.mem_of_getElem? (i := 81) (by decide +kernel)⟩
theorem glX3_31 : Gl RX3 31 3 6 := ⟨_, _, _, _, kc_3, by decide, List.mem_of_getElem? (i := 82) (by decide +kernel)⟩
theorem glX3_34 : Gl RX3 34 3 7 := ⟨_, _, _, _, kc_3, by decide, List.mem_of_getElem? (i := 83) (by decide +kernel)⟩
theorem glX3_39 : Gl RX3 39 3 8 := ⟨_, _, _, _, kc_3, by decide, List.mem_of_getElem? (i := 85) (by decide +kernel)⟩
theorem cnX3_42 : Cond.constant RX3 42 (16777215) ∈ wsL_law := List.mem_of_getElem? (i := 86) (by decide +kernel)
theorem glX3_43 : Gl RX3 43 3 9 := ⟨_, _, _, _, kc_3, by decide, List.mem_of_getElem? (i := 87) (by decide +kernel)⟩
theorem plX3_43 : Pl RX3 43 3 9 .int := ⟨_, _, _, _, kc_3, by decide, List.mem_of_getElem? (i := 87) (by decide +kernel), rfl, by decide +kernel⟩
theorem glX3_47 : Gl RX3 47 3 10 := ⟨_, _, _, _, kc_3, by decide, List.mem_of_getElem? (i := 88) (by decide +kernel)⟩
theorem plX3_47 : Pl RX3 47 3 10 .int := ⟨_, _, _, _, kc_3, by decide, List.mem_of_getElem? (i := 88) (by decide +kernel), rfl, by decide +kernel⟩
theorem glX3_50 : Gl RX3 50 3 11 := ⟨_, _, _, _, kc_3, by decide, List.mem_of_getElem? (i := 89) (by decide +kernel)⟩
theorem plX3_50 : Pl RX3 50 3 11 .int := ⟨_, _, _, _, kc_3, by decide, List.mem_of_getElem? (i := 89) (by decide +kernel), rfl, by decide +kernel⟩
theorem glX3_53 : Gl RX3 53 3 12 := ⟨_, _, _, _, kc_3, by decide, List.mem_of_getElem? (i := 90) (by decide +kernel)⟩
theorem plX3_53 : Pl RX3 53 3 12 .int := ⟨_, _, _, _, kc_3, by decide, List.mem_of_getElem? (i := 90) (by decide +kernel), rfl, by decide +kernel⟩
theorem glX3_56 : Gl RX3 56 3 13 := ⟨_, _, _, _, kc_3, by decide, List.mem_of_getElem? (i := 91) (by decide +kernel)⟩
theorem plX3_56 : Pl RX3 56 3 13 .int := ⟨_, _, _, _, kc_3, by decide, List.mem_of_getElem? (i := 91) (by decide +kernel), rfl, by decide +kernel⟩
theorem glX3_59 : Gl RX3 59 3 14 := ⟨_, _, _, _, kc_3, by decide, List.mem_of_getElem? (i := 92) (by decide +kernel)⟩
theorem plX3_59 : Pl RX3 59 3 14 .int := ⟨_, _, _, _, kc_3, by decide, List.mem_of_getElem? (i := 92) (by decide +kernel), rfl, by decide +kernel⟩
theorem glX3_62 : Gl RX3 62 3 15 := ⟨_, _, _, _, kc_3, by decide, List.mem_of_getElem? (i := 93) (by decide +kernel)⟩
theorem plX3_62 : Pl RX3 62 3 15 .int := ⟨_, _, _, _, kc_3, by decide, List.mem_of_getElem? (i := 93) (by decide +kernel), rfl, by decide +kernel⟩
theorem glX3_65 : Gl RX3 65 3 16 := ⟨_, _, _, _, kc_3, by decide, List.mem_of_getElem? (i := 94) (by decide +kernel)⟩
theorem plX3_65 : Pl RX3 65 3 16 .int := ⟨_, _, _, _, kc_3, by decide, List.mem_of_getElem? (i := 94) (by decide +kernel), rfl, by decide +kernel⟩
theorem glX3_68 : Gl RX3 68 3 17 := ⟨_, _, _, _, kc_3, by decide, List.mem_of_getElem? (i := 95) (by decide +kernel)⟩
theorem plX3_68 : Pl RX3 68 3 17 .int := ⟨_, _, _, _, kc_3, by decide, List.mem_of_getElem? (i := 95) (by decide +kernel), rfl, by decide +kernel⟩
theorem glX4_9 : Gl RX4 9 4 0 := ⟨_, _, _, _, kc_4, by decide, List.mem_of_getElem? (i := 100) (by decide +kernel)⟩
theorem glX4_15 : Gl RX4 15 4 1 := ⟨_, _, _, _, kc_4, by decide, List.mem_of_getElem? (i := 101) (by decide +kernel)⟩
theorem glX4_18 : Gl RX4 18 4 2 := ⟨_, _, _, _, kc_4, by decide, List.mem_of_getElem? (i := 102) (by decide +kernel)⟩
theorem glX4_23 : Gl RX4 23 4 3 := ⟨_, _, _, _, kc_4, by decide, List.mem_of_getElem? (i := 104) (by decide +kernel)⟩
theorem glX4_26 : Gl RX4 26 4 4 := ⟨_, _, _, _, kc_4, by decide, List.mem_of_getElem? (i := 105) (by decide +kernel)⟩
theorem glX4_29 : Gl RX4 29 4 5 := ⟨_, _, _, _, kc_4, by decide, List.mem_of_getElem? (i := 106) (by decide +kernel)⟩
theorem plX4_29 : Pl RX4 29 4 5 .int := ⟨_, _, _, _, kc_4, by decide, List.mem_of_getElem? (i := 106) (by decide +kernel), rfl, by decide +kernel⟩
theorem glX4_33 : Gl RX4 33 4 6 := ⟨_, _, _, _, kc_4, by decide, List.mem_of_getElem? (i := 107) (by decide +kernel)⟩
theorem plX4_33 : Pl RX4 33 4 6 .int := ⟨_, _, _, _, kc_4, by decide, List.mem_of_getElem? (i := 107) (by decide +kernel), rfl, by decide +kernel⟩
theorem glX1_11 : Gl RX1 11 1 0 := ⟨_, _, _, _, kc_1, by decide, List.mem_of_getElem? (i := 113) (by decide +kernel)⟩
theorem glX1_16 : Gl RX1 16 1 1 := ⟨_, _, _, _, kc_1, by decide, List.mem_of_getElem? (i := 114) (by decide +kernel)⟩
theorem glX1_19 : Gl RX1 19 1 2 := ⟨_, _, _, _, kc_1, by decide, List.mem_of_getElem? (i := 115) (by decide +kernel)⟩
theorem glX0_9 : Gl RX0 9 0 0 := ⟨_, _, _, _, kc_0, by decide, List.mem_of_getElem? (i := 120) (by decide +kernel)⟩
theorem plX0_9 : Pl RX0 9 0 0 .boolean := ⟨_, _, _, _, kc_0, by decide, List.mem_of_getElem? (i := 120) (by decide +kernel), rfl, by decide +kernel⟩
theorem glX9_11 : Gl RX9 11 9 0 := ⟨_, _, _, _, kc_9, by decide, List.mem_of_getElem? (i := 125) (by decide +kernel)⟩
theorem glX9_15 : Gl RX9 15 9 1 := ⟨_, _, _, _, kc_9, by decide, List.mem_of_getElem? (i := 126) (by decide +kernel)⟩
theorem glX9_18 : Gl RX9 18 9 2 := ⟨_, _, _, _, kc_9, by decide, List.mem_of_getElem? (i := 127) (by decide +kernel)⟩
theorem glX9_21 : Gl RX9 21 9 3 := ⟨_, _, _, _, kc_9, by decide, List.mem_of_getElem? (i := 128) (by decide +kernel)⟩
theorem glX9_24 : Gl RX9 24 9 4 := ⟨_, _, _, _, kc_9, by decide, List.mem_of_getElem? (i := 129) (by decide +kernel)⟩
theorem plX9_24 : Pl RX9 24 9 4 .int := ⟨_, _, _, _, kc_9, by decide, List.mem_of_getElem? (i := 129) (by decide +kernel), rfl, by decide +kernel⟩
theorem glX2_11 : Gl RX2 11 2 0 := ⟨_, _, _, _, kc_2, by decide, List.mem_of_getElem? (i := 134) (by decide +kernel)⟩
theorem glX2_15 : Gl RX2 15 2 1 := ⟨_, _, _, _, kc_2, by decide, List.mem_of_getElem? (i := 135) (by decide +kernel)⟩
theorem glX2_18 : Gl RX2 18 2 2 := ⟨_, _, _, _, kc_2, by decide, List.mem_of_getElem? (i := 136) (by decide +kernel)⟩
theorem glX2_21 : Gl RX2 21 2 3 := ⟨_, _, _, _, kc_2, by decide, List.mem_of_getElem? (i := 137) (by decide +kernel)⟩
theorem plX2_21 : Pl RX2 21 2 3 .int := ⟨_, _, _, _, kc_2, by decide, List.mem_of_getElem? (i := 137) (by decide +kernel), rfl, by decide +kernel⟩
theorem glX2_25 : Gl RX2 25 2 4 := ⟨_, _, _, _, kc_2, by decide, List.mem_of_getElem? (i := 138) (by decide +kernel)⟩
theorem plX2_25 : Pl RX2 25 2 4 .int := ⟨_, _, _, _, kc_2, by decide, List.mem_of_getElem? (i := 138) (by decide +kernel), rfl, by decide +kernel⟩
theorem glX6_11 : Gl RX6 11 6 0 := ⟨_, _, _, _, kc_6, by decide, List.mem_of_getElem? (i := 143) (by decide +kernel)⟩
theorem glX6_15 : Gl RX6 15 6 1 := ⟨_, _, _, _, kc_6, by decide, List.mem_of_getElem? (i := 144) (by decide +kernel)⟩
theorem glX6_18 : Gl RX6 18 6 2 := ⟨_, _, _, _, kc_6, by decide, List.mem_of_getElem? (i := 145) (by decide +kernel)⟩
theorem glX7_9 : Gl RX7 9 7 0 := ⟨_, _, _, _, kc_7, by decide, List.mem_of_getElem? (i := 150) (by decide +kernel)⟩
theorem plX7_9 : Pl RX7 9 7 0 .int := ⟨_, _, _, _, kc_7, by decide, List.mem_of_getElem? (i := 150) (by decide +kernel), rfl, by decide +kernel⟩
theorem glX11_7 : Gl RX11 7 11 1 := ⟨_, _, _, _, kc_11, by decide, List.mem_of_getElem? (i := 155) (by decide +kernel)⟩
theorem glX11_13 : Gl RX11 13 11 2 := ⟨_, _, _, _, kc_11, by decide, List.mem_of_getElem? (i := 156) (by decide +kernel)⟩
theorem glX11_16 : Gl RX11 16 11 3 := ⟨_, _, _, _, kc_11, by decide, List.mem_of_getElem? (i := 157) (by decide +kernel)⟩
theorem glX11_19 : Gl RX11 19 11 4 := ⟨_, _, _, _, kc_11, by decide, List.mem_of_getElem? (i := 158) (by decide +kernel)⟩
theorem glX11_22 : Gl RX11 22 11 5 := ⟨_, _, _, _, kc_11, by decide, List.mem_of_getElem? (i := 159) (by decide +kernel)⟩
theorem glX11_25 : Gl RX11 25 11 6 := ⟨_, _, _, _, kc_11, by decide, List.mem_of_getElem? (i := 160) (by decide +kernel)⟩
theorem plX11_25 : Pl RX11 25 11 6 .int := ⟨_, _, _, _, kc_11, by decide, List.mem_of_getElem? (i := 160) (by decide +kernel), rfl, by decide +kernel⟩
theorem glX11_29 : Gl RX11 29 11 7 := ⟨_, _, _, _, kc_11, by decide, List.mem_of_getElem? (i := 161) (by decide +kernel)⟩
theorem plX11_29 : Pl RX11 29 11 7 .int := ⟨_, _, _, _, kc_11, by decide, List.mem_of_getElem? (i := 161) (by decide +kernel), rfl, by decide +kernel⟩
theorem glX11_32 : Gl RX11 32 11 8 := ⟨_, _, _, _, kc_11, by decide, List.mem_of_getElem? (i := 162) (by decide +kernel)⟩
theorem plX11_32 : Pl RX11 32 11 8 .int := ⟨_, _, _, _, kc_11, by decide, List.mem_of_getElem? (i := 162) (by decide +kernel), rfl, by decide +kernel⟩
theorem glX11_35 : Gl RX11 35 11 9 := ⟨_, _, _, _, kc_11, by decide, List.mem_of_getElem? (i := 163) (by decide +kernel)⟩
theorem plX11_35 : Pl RX11 35 11 9 .int := ⟨_, _, _, _, kc_11, by decide, List.mem_of_getElem? (i := 163) (by decide +kernel), rfl, by decide +kernel⟩
theorem glX11_38 : Gl RX11 38 11 10 := ⟨_, _, _, _, kc_11, by decide, List.mem_of_getElem? (i := 164) (by decide +kernel)⟩
theorem plX11_38 : Pl RX11 38 11 10 .int := ⟨_, _, _, _, kc_11, by decide, List.mem_of_getElem? (i := 164) (by decide +kernel), rfl, by decide +kernel⟩
theorem glX11_41 : Gl RX11 41 11 11 := ⟨_, _, _, _, kc_11, by decide, List.mem_of_getElem? (i := 165) (by decide +kernel)⟩
theorem plX11_41 : Pl RX11 41 11 11 .int := ⟨_, _, _, _, kc_11, by decide, List.mem_of_getElem? (i := 165) (by decide +kernel), rfl, by decide +kernel⟩
theorem glX11_44 : Gl RX11 44 11 12 := ⟨_, _, _, _, kc_11, by decide, List.mem_of_getElem? (i := 166) (by decide +kernel)⟩
theorem plX11_44 : Pl RX11 44 11 12 .int := ⟨_, _, _, _, kc_11, by decide, List.mem_of_getElem? (i := 166) (by decide +kernel), rfl, by decide +kernel⟩
theorem glX11_47 : Gl RX11 47 11 13 := ⟨_, _, _, _, kc_11, by decide, List.mem_of_getElem? (i := 167) (by decide +kernel)⟩
theorem plX11_47 : Pl RX11 47 11 13 .int := ⟨_, _, _, _, kc_11, by decide, List.mem_of_getElem? (i := 167) (by decide +kernel), rfl, by decide +kernel⟩
theorem cnX11_50 : Cond.constant RX11 50 (16777215) ∈ wsL_law := List.mem_of_getElem? (i := 168) (by decide +kernel)
theorem glX11_51 : Gl RX11 51 11 14 := ⟨_, _, _, _, kc_11, by decide, List.mem_of_getElem? (i := 169) (by decide +kernel)⟩
theorem plX11_51 : Pl RX11 51 11 14 .int := ⟨_, _, _, _, kc_11, by decide, List.mem_of_getElem? (i := 169) (by decide +kernel), rfl, by decide +kernel⟩
theorem glX11_54 : Gl RX11 54 11 16 := ⟨_, _, _, _, kc_11, by decide, List.mem_of_getElem? (i := 170) (by decide +kernel)⟩
theorem glX11_57 : Gl RX11 57 11 24 := ⟨_, _, _, _, kc_11, by decide, List.mem_of_getElem? (i := 171) (by decide +kernel)⟩
theorem glX11_60 : Gl RX11 60 11 25 := ⟨_, _, _, _, kc_11, by decide, List.mem_of_getElem? (i := 172) (by decide +kernel)⟩
theorem glX11_63 : Gl RX11 63 11 26 := ⟨_, _, _, _, kc_11, by decide, List.mem_of_getElem? (i := 173) (by decide +kernel)⟩
theorem glX11_66 : Gl RX11 66 11 27 := ⟨_, _, _, _, kc_11, by decide, List.mem_of_getElem? (i := 174) (by decide +kernel)⟩
theorem glX11_69 : Gl RX11 69 11 28 := ⟨_, _, _, _, kc_11, by decide, List.mem_of_getElem? (i := 175) (by decide +kernel)⟩
theorem glX11_72 : Gl RX11 72 11 29 := ⟨_, _, _, _, kc_11, by decide, List.mem_of_getElem? (i := 176) (by decide +kernel)⟩
theorem glX11_75 : Gl RX11 75 11 30 := ⟨_, _, _, _, kc_11, by decide, List.mem_of_getElem? (i := 177) (by decide +kernel)⟩
theorem glX11_78 : Gl RX11 78 11 31 := ⟨_, _, _, _, kc_11, by decide, List.mem_of_getElem? (i := 178) (by decide +kernel)⟩
theorem glX11_81 : Gl RX11 81 11 33 := ⟨_, _, _, _, kc_11, by decide, List.mem_of_getElem? (i := 179) (by decide +kernel)⟩
theorem glX11_84 : Gl RX11 84 11 34 := ⟨_, _, _, _, kc_11, by decide, List.mem_of_getElem? (i := 180) (by decide +kernel)⟩
theorem glX11_87 : Gl RX11 87 11 36 := ⟨_, _, _, _, kc_11, by decide, List.mem_of_getElem? (i := 181) (by decide +kernel)⟩
theorem glX11_90 : Gl RX11 90 11 37 := ⟨_, _, _, _, kc_11, by decide, List.mem_of_getElem? (i := 182) (by decide +kernel)⟩
theorem glX11_93 : Gl RX11 93 11 38 := ⟨_, _, _, _, kc_11, by decide, List.mem_of_getElem? (i := 183) (by decide +kernel)⟩
theorem glX11_96 : Gl RX11 96 11 39 := ⟨_, _, _, _, kc_11, by decide, List.mem_of_getElem? (i := 184) (by decide +kernel)⟩
theorem glX11_99 : Gl RX11 99 11 41 := ⟨_, _, _, _, kc_11, by decide, List.mem_of_getElem? (i := 185) (by decide +kernel)⟩
theorem glX11_102 : Gl RX11 102 11 42 := ⟨_, _, _, _, kc_11, by decide, List.mem_of_getElem? (i := 186) (by decide +kernel)⟩
theorem glX11_105 : Gl RX11 105 11 43 := ⟨_, _, _, _, kc_11, by decide, List.mem_of_getElem? (i := 187) (by decide +kernel)⟩
theorem glX11_108 : Gl RX11 108 11 44 := ⟨_, _, _, _, kc_11, by decide, List.mem_of_getElem? (i := 188) (by decide +kernel)⟩
theorem glX11_111 : Gl RX11 111 11 45 := ⟨_, _, _, _, kc_11, by decide, List.mem_of_getElem? (i := 189) (by decide +kernel)⟩
theorem glX11_114 : Gl RX11 114 11 46 := ⟨_, _, _, _, kc_11, by decide, List.mem_of_getElem? (i := 190) (by decide +kernel)⟩
theorem glX11_117 : Gl RX11 117 11 47 := ⟨_, _, _, _, kc_11, by decide, List.mem_of_getElem? (i := 191) (by decide +kernel)⟩
theorem lkL_15 : LkV RL 15 mX10_write 2 := ⟨mdX10_write, List.mem_of_getElem? (i := 192) (by decide +kernel), List.mem_of_getElem? (i := 193) (by decide +kernel), List.mem_of_getElem? (i := 194) (by decide +kernel)⟩
theorem cnX10_94 : Cond.constantLong RX10 94 (255) ∈ wsL_law := List.mem_of_getElem? (i := 196) (by decide +kernel)
theorem lkX10_86 : LkS RX10 86 mX10_isWithin 3 := ⟨mdX10_isWithin, List.mem_of_getElem? (i := 197) (by decide +kernel), List.mem_of_getElem? (i := 198) (by decide +kernel)⟩
theorem lkX10_90 : LkV RX10 90 mX8_hasSpaceFor 1 := ⟨mdX8_hasSpaceFor, List.mem_of_getElem? (i := 200) (by decide +kernel), List.mem_of_getElem? (i := 201) (by decide +kernel), List.mem_of_getElem? (i := 202) (by decide +kernel)⟩
theorem lkX10_96 : LkV RX10 96 mX8_add 1 := ⟨mdX8_add, List.mem_of_getElem? (i := 204) (by decide +kernel), List.mem_of_getElem? (i := 205) (by decide +kernel), List.mem_of_getElem? (i := 206) (by decide +kernel)⟩
theorem lkX10_100 : LkV RX10 100 mX8_length 0 := ⟨mdX8_length, List.mem_of_getElem? (i := 208) (by decide +kernel), List.mem_of_getElem? (i := 209) (by decide +kernel), List.mem_of_getElem? (i := 210) (by decide +kernel)⟩
theorem lkL_19 : LkV RL 19 mX11_write 2 := ⟨mdX11_write, List.mem_of_getElem? (i := 212) (by decide +kernel), List.mem_of_getElem? (i := 213) (by decide +kernel), List.mem_of_getElem? (i := 214) (by decide +kernel)⟩
theorem glX11_131 : Gl RX11 131 11 15 := ⟨_, _, _, _, kc_11, by decide, List.mem_of_getElem? (i := 216) (by decide +kernel)⟩
theorem plX11_131 : Pl RX11 131 11 15 .int := ⟨_, _, _, _, kc_11, by decide, List.mem_of_getElem? (i := 216) (by decide +kernel), rfl, by decide +kernel⟩
theorem cnX11_134 : Cond.constantLong RX11 134 (255) ∈ wsL_law := List.mem_of_getElem? (i := 217) (by decide +kernel)
theorem lkX11_120 : LkS RX11 120 mX11_in 3 := ⟨mdX11_in, List.mem_of_getElem? (i := 218) (by decide +kernel), List.mem_of_getElem? (i := 219) (by decide +kernel)⟩
theorem lkL_20 : LkV RL 20 mX10_erase 0 := ⟨mdX10_erase, List.mem_of_getElem? (i := 221) (by decide +kernel), List.mem_of_getElem? (i := 222) (by decide +kernel), List.mem_of_getElem? (i := 223) (by decide +kernel)⟩
theorem lkX10_104 : LkV RX10 104 mX8_clear 0 := ⟨mdX8_clear, List.mem_of_getElem? (i := 225) (by decide +kernel), List.mem_of_getElem? (i := 226) (by decide +kernel), List.mem_of_getElem? (i := 227) (by decide +kernel)⟩
theorem lkL_24 : LkV RL 24 mX11_erase 0 := ⟨mdX11_erase, List.mem_of_getElem? (i := 229) (by decide +kernel), List.mem_of_getElem? (i := 230) (by decide +kernel), List.mem_of_getElem? (i := 231) (by decide +kernel)⟩
theorem lkL_25 : LkV RL 25 mX10_fault 0 := ⟨mdX10_fault, List.mem_of_getElem? (i := 233) (by decide +kernel), List.mem_of_getElem? (i := 234) (by decide +kernel), List.mem_of_getElem? (i := 235) (by decide +kernel)⟩
theorem lkX10_107 : LkV RX10 107 mX5_faultOf 1 := ⟨mdX5_faultOf, List.mem_of_getElem? (i := 237) (by decide +kernel), List.mem_of_getElem? (i := 238) (by decide +kernel), List.mem_of_getElem? (i := 239) (by decide +kernel)⟩
theorem lkX5_27 : LkV RX5 27 mX5_readsWord 2 := ⟨mdX5_readsWord, List.mem_of_getElem? (i := 241) (by decide +kernel), List.mem_of_getElem? (i := 242) (by decide +kernel), List.mem_of_getElem? (i := 243) (by decide +kernel)⟩
theorem lkX5_34 : LkV RX5 34 mX8_behindBlanks 1 := ⟨mdX8_behindBlanks, List.mem_of_getElem? (i := 245) (by decide +kernel), List.mem_of_getElem? (i := 246) (by decide +kernel), List.mem_of_getElem? (i := 247) (by decide +kernel)⟩
theorem lkX8_19 : LkV RX8 19 mX8_at 1 := ⟨mdX8_at, List.mem_of_getElem? (i := 249) (by decide +kernel), List.mem_of_getElem? (i := 250) (by decide +kernel), List.mem_of_getElem? (i := 251) (by decide +kernel)⟩
theorem lkX5_47 : LkV RX5 47 mX8_endOfToken 1 := ⟨mdX8_endOfToken, List.mem_of_getElem? (i := 253) (by decide +kernel), List.mem_of_getElem? (i := 254) (by decide +kernel), List.mem_of_getElem? (i := 255) (by decide +kernel)⟩
theorem lkX8_23 : LkS RX8 23 mX8_isLetter 1 := ⟨mdX8_isLetter, List.mem_of_getElem? (i := 257) (by decide +kernel), List.mem_of_getElem? (i := 258) (by decide +kernel)⟩
theorem lkX8_27 : LkS RX8 27 mX8_isDigit 1 := ⟨mdX8_isDigit, List.mem_of_getElem? (i := 260) (by decide +kernel), List.mem_of_getElem? (i := 261) (by decide +kernel)⟩
theorem lkX5_52 : LkS RX5 52 mX3_wordOf 1 := ⟨mdX3_wordOf, List.mem_of_getElem? (i := 263) (by decide +kernel), List.mem_of_getElem? (i := 264) (by decide +kernel)⟩
theorem lkX5_56 : LkV RX5 56 mX8_spells 3 := ⟨mdX8_spells, List.mem_of_getElem? (i := 266) (by decide +kernel), List.mem_of_getElem? (i := 267) (by decide +kernel), List.mem_of_getElem? (i := 268) (by decide +kernel)⟩
theorem lkX8_30 : LkV RX8 30 mJ0_length_8abf5 0 := ⟨mdJ0_length_8abf5, List.mem_of_getElem? (i := 270) (by decide +kernel), List.mem_of_getElem? (i := 271) (by decide +kernel), List.mem_of_getElem? (i := 272) (by decide +kernel)⟩
theorem flJ0_9 : Cond.fieldLink RJ0 9 "java/lang/String" "value" "[B" ∈ wsL_law := List.mem_of_getElem? (i := 275) (by decide +kernel)
theorem lkJ0_335 : LkV RJ0 335 mJ0_coder_7d493 0 := ⟨mdJ0_coder_7d493, List.mem_of_getElem? (i := 276) (by decide +kernel), List.mem_of_getElem? (i := 277) (by decide +kernel), List.mem_of_getElem? (i := 278) (by decide +kernel)⟩
theorem flJ0_38 : Cond.fieldLink RJ0 38 "java/lang/String" "COMPACT_STRINGS" "Z" ∈ wsL_law := List.mem_of_getElem? (i := 280) (by decide +kernel)
theorem flJ0_15 : Cond.fieldLink RJ0 15 "java/lang/String" "coder" "B" ∈ wsL_law := List.mem_of_getElem? (i := 281) (by decide +kernel)
theorem lkX8_35 : LkV RX8 35 mJ0_charAt_5068e 1 := ⟨mdJ0_charAt_5068e, List.mem_of_getElem? (i := 282) (by decide +kernel), List.mem_of_getElem? (i := 283) (by decide +kernel), List.mem_of_getElem? (i := 284) (by decide +kernel)⟩
theorem lkJ0_492 : LkV RJ0 492 mJ0_isLatin1_aae02 0 := ⟨mdJ0_isLatin1_aae02, List.mem_of_getElem? (i := 286) (by decide +kernel), List.mem_of_getElem? (i := 287) (by decide +kernel), List.mem_of_getElem? (i := 288) (by decide +kernel)⟩
theorem lkJ0_495 : LkS RJ0 495 mJ1_charAt_3b067 2 := ⟨mdJ1_charAt_3b067, List.mem_of_getElem? (i := 290) (by decide +kernel), List.mem_of_getElem? (i := 291) (by decide +kernel)⟩
theorem lkJ1_9 : LkS RJ1 9 mJ0_checkIndex_df160 2 := ⟨mdJ0_checkIndex_df160, List.mem_of_getElem? (i := 294) (by decide +kernel), List.mem_of_getElem? (i := 295) (by decide +kernel)⟩
theorem flJ0_1053 : Cond.fieldLink RJ0 1053 "jdk/internal/util/Preconditions" "SIOOBE_FORMATTER" "Ljava/util/function/BiFunction;" ∈ wsL_law := List.mem_of_getElem? (i := 297) (by decide +kernel)
theorem lkJ0_1059 : LkS RJ0 1059 mJ3_checkIndex_8e157 3 := ⟨mdJ3_checkIndex_8e157, List.mem_of_getElem? (i := 298) (by decide +kernel), List.mem_of_getElem? (i := 299) (by decide +kernel)⟩
theorem lkJ0_498 : LkS RJ0 498 mJ2_charAt_3b067 2 := ⟨mdJ2_charAt_3b067, List.mem_of_getElem? (i := 302) (by decide +kernel), List.mem_of_getElem? (i := 303) (by decide +kernel)⟩
theorem lkJ2_67 : LkS RJ2 67 mJ2_checkIndex_2214a 2 := ⟨mdJ2_checkIndex_2214a, List.mem_of_getElem? (i := 306) (by decide +kernel), List.mem_of_getElem? (i := 307) (by decide +kernel)⟩
theorem lkJ2_48 : LkS RJ2 48 mJ2_length_9d52b 1 := ⟨mdJ2_length_9d52b, List.mem_of_getElem? (i := 309) (by decide +kernel), List.mem_of_getElem? (i := 310) (by decide +kernel)⟩
theorem lkJ2_414 : LkS RJ2 414 mJ0_checkIndex_df160 2 := ⟨mdJ0_checkIndex_df160, List.mem_of_getElem? (i := 312) (by decide +kernel), List.mem_of_getElem? (i := 295) (by decide +kernel)⟩
theorem lkJ2_71 : LkS RJ2 71 mJ2_getChar_3b067 2 := ⟨mdJ2_getChar_3b067, List.mem_of_getElem? (i := 313) (by decide +kernel), List.mem_of_getElem? (i := 314) (by decide +kernel)⟩
theorem flJ2_44 : Cond.fieldLink RJ2 44 "java/lang/StringUTF16" "$assertionsDisabled" "Z" ∈ wsL_law := List.mem_of_getElem? (i := 316) (by decide +kernel)
theorem flJ2_59 : Cond.fieldLink RJ2 59 "java/lang/StringUTF16" "HI_BYTE_SHIFT" "I" ∈ wsL_law := List.mem_of_getElem? (i := 317) (by decide +kernel)
theorem flJ2_63 : Cond.fieldLink RJ2 63 "java/lang/StringUTF16" "LO_BYTE_SHIFT" "I" ∈ wsL_law := List.mem_of_getElem? (i := 318) (by decide +kernel)
theorem lkX5_31 : LkV RX5 31 mX5_readsNumbers 2 := ⟨mdX5_readsNumbers, List.mem_of_getElem? (i := 319) (by decide +kernel), List.mem_of_getElem? (i := 320) (by decide +kernel), List.mem_of_getElem? (i := 321) (by decide +kernel)⟩
theorem flX5_60 : Cond.fieldLink RX5 60 "HotWeek$Reader" "BOUNDS" "[I" ∈ wsL_law := List.mem_of_getElem? (i := 323) (by decide +kernel)
theorem lkX5_63 : LkV RX5 63 mX8_numberIn 2 := ⟨mdX8_numberIn, List.mem_of_getElem? (i := 324) (by decide +kernel), List.mem_of_getElem? (i := 325) (by decide +kernel), List.mem_of_getElem? (i := 326) (by decide +kernel)⟩
theorem lkX5_71 : LkV RX5 71 mX5_isDoorToItself 3 := ⟨mdX5_isDoorToItself, List.mem_of_getElem? (i := 328) (by decide +kernel), List.mem_of_getElem? (i := 329) (by decide +kernel), List.mem_of_getElem? (i := 330) (by decide +kernel)⟩
theorem lkX5_40 : LkV RX5 40 mX8_length 0 := ⟨mdX8_length, List.mem_of_getElem? (i := 332) (by decide +kernel), List.mem_of_getElem? (i := 209) (by decide +kernel), List.mem_of_getElem? (i := 210) (by decide +kernel)⟩
theorem lkX5_44 : LkV RX5 44 mX8_at 1 := ⟨mdX8_at, List.mem_of_getElem? (i := 333) (by decide +kernel), List.mem_of_getElem? (i := 250) (by decide +kernel), List.mem_of_getElem? (i := 251) (by decide +kernel)⟩
theorem lkL_28 : LkV RL 28 mX11_fault 0 := ⟨mdX11_fault, List.mem_of_getElem? (i := 334) (by decide +kernel), List.mem_of_getElem? (i := 335) (by decide +kernel), List.mem_of_getElem? (i := 336) (by decide +kernel)⟩
theorem glX11_164 : Gl RX11 164 11 22 := ⟨_, _, _, _, kc_11, by decide, List.mem_of_getElem? (i := 338) (by decide +kernel)⟩
theorem plX11_164 : Pl RX11 164 11 22 .int := ⟨_, _, _, _, kc_11, by decide, List.mem_of_getElem? (i := 338) (by decide +kernel), rfl, by decide +kernel⟩
theorem lkX11_207 : LkV RX11 207 mX11_isRead 0 := ⟨mdX11_isRead, List.mem_of_getElem? (i := 339) (by decide +kernel), List.mem_of_getElem? (i := 340) (by decide +kernel), List.mem_of_getElem? (i := 341) (by decide +kernel)⟩
theorem glX11_136 : Gl RX11 136 11 17 := ⟨_, _, _, _, kc_11, by decide, List.mem_of_getElem? (i := 343) (by decide +kernel)⟩
theorem plX11_136 : Pl RX11 136 11 17 .int := ⟨_, _, _, _, kc_11, by decide, List.mem_of_getElem? (i := 343) (by decide +kernel), rfl, by decide +kernel⟩
theorem glX11_201 : Gl RX11 201 11 23 := ⟨_, _, _, _, kc_11, by decide, List.mem_of_getElem? (i := 344) (by decide +kernel)⟩
theorem plX11_201 : Pl RX11 201 11 23 .int := ⟨_, _, _, _, kc_11, by decide, List.mem_of_getElem? (i := 344) (by decide +kernel), rfl, by decide +kernel⟩
theorem glX11_150 : Gl RX11 150 11 19 := ⟨_, _, _, _, kc_11, by decide, List.mem_of_getElem? (i := 345) (by decide +kernel)⟩
theorem plX11_150 : Pl RX11 150 11 19 .long := ⟨_, _, _, _, kc_11, by decide, List.mem_of_getElem? (i := 345) (by decide +kernel), rfl, by decide +kernel⟩
theorem cnX11_162 : Cond.constantLong RX11 162 (-3) ∈ wsL_law := List.mem_of_getElem? (i := 346) (by decide +kernel)
theorem cnX11_148 : Cond.constantLong RX11 148 (-2) ∈ wsL_law := List.mem_of_getElem? (i := 347) (by decide +kernel)
theorem lkX11_204 : LkV RX11 204 mX11_isLine 1 := ⟨mdX11_isLine, List.mem_of_getElem? (i := 348) (by decide +kernel), List.mem_of_getElem? (i := 349) (by decide +kernel), List.mem_of_getElem? (i := 350) (by decide +kernel)⟩
theorem cnX11_177 : Cond.constantLong RX11 177 (365647) ∈ wsL_law := List.mem_of_getElem? (i := 352) (by decide +kernel)
theorem cnX11_179 : Cond.constantLong RX11 179 (90090) ∈ wsL_law := List.mem_of_getElem? (i := 353) (by decide +kernel)
theorem cnX11_181 : Cond.constantLong RX11 181 (14173) ∈ wsL_law := List.mem_of_getElem? (i := 354) (by decide +kernel)
theorem cnX11_183 : Cond.constantLong RX11 183 (14432) ∈ wsL_law := List.mem_of_getElem? (i := 355) (by decide +kernel)
theorem cnX11_185 : Cond.constantLong RX11 185 (4562600) ∈ wsL_law := List.mem_of_getElem? (i := 356) (by decide +kernel)
theorem cnX11_187 : Cond.constantLong RX11 187 (4272932) ∈ wsL_law := List.mem_of_getElem? (i := 357) (by decide +kernel)
theorem cnX11_189 : Cond.constantLong RX11 189 (307058) ∈ wsL_law := List.mem_of_getElem? (i := 358) (by decide +kernel)
theorem cnX11_191 : Cond.constantLong RX11 191 (380396) ∈ wsL_law := List.mem_of_getElem? (i := 359) (by decide +kernel)
theorem cnX11_193 : Cond.constantLong RX11 193 (168755) ∈ wsL_law := List.mem_of_getElem? (i := 360) (by decide +kernel)
theorem cnX11_195 : Cond.constantLong RX11 195 (40586) ∈ wsL_law := List.mem_of_getElem? (i := 361) (by decide +kernel)
theorem lkX11_167 : LkV RX11 167 mX11_nextToken 0 := ⟨mdX11_nextToken, List.mem_of_getElem? (i := 362) (by decide +kernel), List.mem_of_getElem? (i := 363) (by decide +kernel), List.mem_of_getElem? (i := 364) (by decide +kernel)⟩
theorem glX11_139 : Gl RX11 139 11 18 := ⟨_, _, _, _, kc_11, by decide, List.mem_of_getElem? (i := 366) (by decide +kernel)⟩
theorem plX11_139 : Pl RX11 139 11 18 .int := ⟨_, _, _, _, kc_11, by decide, List.mem_of_getElem? (i := 366) (by decide +kernel), rfl, by decide +kernel⟩
theorem glX11_142 : Gl RX11 142 11 20 := ⟨_, _, _, _, kc_11, by decide, List.mem_of_getElem? (i := 367) (by decide +kernel)⟩
theorem plX11_142 : Pl RX11 142 11 20 .int := ⟨_, _, _, _, kc_11, by decide, List.mem_of_getElem? (i := 367) (by decide +kernel), rfl, by decide +kernel⟩
theorem glX11_145 : Gl RX11 145 11 21 := ⟨_, _, _, _, kc_11, by decide, List.mem_of_getElem? (i := 368) (by decide +kernel)⟩
theorem plX11_145 : Pl RX11 145 11 21 .int := ⟨_, _, _, _, kc_11, by decide, List.mem_of_getElem? (i := 368) (by decide +kernel), rfl, by decide +kernel⟩
theorem cnX11_154 : Cond.constantLong RX11 154 (27) ∈ wsL_law := List.mem_of_getElem? (i := 369) (by decide +kernel)
theorem cnX11_156 : Cond.constantLong RX11 156 (96) ∈ wsL_law := List.mem_of_getElem? (i := 370) (by decide +kernel)
theorem cnX11_158 : Cond.constantLong RX11 158 (-4) ∈ wsL_law := List.mem_of_getElem? (i := 371) (by decide +kernel)
theorem cnX11_160 : Cond.constantLong RX11 160 (-1) ∈ wsL_law := List.mem_of_getElem? (i := 372) (by decide +kernel)
theorem lkX11_174 : LkV RX11 174 mX11_isNumber 3 := ⟨mdX11_isNumber, List.mem_of_getElem? (i := 373) (by decide +kernel), List.mem_of_getElem? (i := 374) (by decide +kernel), List.mem_of_getElem? (i := 375) (by decide +kernel)⟩
theorem lkX11_170 : LkV RX11 170 mX11_fails 0 := ⟨mdX11_fails, List.mem_of_getElem? (i := 377) (by decide +kernel), List.mem_of_getElem? (i := 378) (by decide +kernel), List.mem_of_getElem? (i := 379) (by decide +kernel)⟩
theorem lkX11_197 : LkV RX11 197 mX11_isDoor 1 := ⟨mdX11_isDoor, List.mem_of_getElem? (i := 381) (by decide +kernel), List.mem_of_getElem? (i := 382) (by decide +kernel), List.mem_of_getElem? (i := 383) (by decide +kernel)⟩
theorem lkL_29 : LkV RL 29 mX10_week 0 := ⟨mdX10_week, List.mem_of_getElem? (i := 385) (by decide +kernel), List.mem_of_getElem? (i := 386) (by decide +kernel), List.mem_of_getElem? (i := 387) (by decide +kernel)⟩
theorem lkX10_111 : LkV RX10 111 mX5_lines 0 := ⟨mdX5_lines, List.mem_of_getElem? (i := 389) (by decide +kernel), List.mem_of_getElem? (i := 390) (by decide +kernel), List.mem_of_getElem? (i := 391) (by decide +kernel)⟩
theorem lkX10_114 : LkV RX10 114 mX5_kindOf 1 := ⟨mdX5_kindOf, List.mem_of_getElem? (i := 393) (by decide +kernel), List.mem_of_getElem? (i := 394) (by decide +kernel), List.mem_of_getElem? (i := 395) (by decide +kernel)⟩
theorem lkX10_118 : LkV RX10 118 mX5_numbersOf 1 := ⟨mdX5_numbersOf, List.mem_of_getElem? (i := 397) (by decide +kernel), List.mem_of_getElem? (i := 398) (by decide +kernel), List.mem_of_getElem? (i := 399) (by decide +kernel)⟩
theorem lkX10_122 : LkV RX10 122 mX3_tell 2 := ⟨mdX3_tell, List.mem_of_getElem? (i := 401) (by decide +kernel), List.mem_of_getElem? (i := 402) (by decide +kernel), List.mem_of_getElem? (i := 403) (by decide +kernel)⟩
theorem lkX3_89 : LkV RX3 89 mX3_tellRoom 1 := ⟨mdX3_tellRoom, List.mem_of_getElem? (i := 405) (by decide +kernel), List.mem_of_getElem? (i := 406) (by decide +kernel), List.mem_of_getElem? (i := 407) (by decide +kernel)⟩
theorem lkX10_126 : LkV RX10 126 mX0_forget 0 := ⟨mdX0_forget, List.mem_of_getElem? (i := 411) (by decide +kernel), List.mem_of_getElem? (i := 412) (by decide +kernel), List.mem_of_getElem? (i := 413) (by decide +kernel)⟩
theorem lkL_32 : LkV RL 32 mX11_week 0 := ⟨mdX11_week, List.mem_of_getElem? (i := 415) (by decide +kernel), List.mem_of_getElem? (i := 416) (by decide +kernel), List.mem_of_getElem? (i := 417) (by decide +kernel)⟩
theorem lkX11_218 : LkV RX11 218 mX11_doLine 1 := ⟨mdX11_doLine, List.mem_of_getElem? (i := 419) (by decide +kernel), List.mem_of_getElem? (i := 420) (by decide +kernel), List.mem_of_getElem? (i := 421) (by decide +kernel)⟩
theorem glX11_124 : Gl RX11 124 11 0 := ⟨_, _, _, _, kc_11, by decide, List.mem_of_getElem? (i := 423) (by decide +kernel)⟩
theorem plX11_124 : Pl RX11 124 11 0 .int := ⟨_, _, _, _, kc_11, by decide, List.mem_of_getElem? (i := 423) (by decide +kernel), rfl, by decide +kernel⟩
theorem lkX11_210 : LkV RX11 210 mX11_doHours 3 := ⟨mdX11_doHours, List.mem_of_getElem? (i := 424) (by decide +kernel), List.mem_of_getElem? (i := 425) (by decide +kernel), List.mem_of_getElem? (i := 426) (by decide +kernel)⟩
theorem lkX11_214 : LkS RX11 214 mX11_hoursOf 2 := ⟨mdX11_hoursOf, List.mem_of_getElem? (i := 428) (by decide +kernel), List.mem_of_getElem? (i := 429) (by decide +kernel)⟩
theorem lkL_33 : LkV RL 33 mX10_room 2 := ⟨mdX10_room, List.mem_of_getElem? (i := 431) (by decide +kernel), List.mem_of_getElem? (i := 432) (by decide +kernel), List.mem_of_getElem? (i := 433) (by decide +kernel)⟩
theorem lkX10_129 : LkV RX10 129 mX3_isTold 1 := ⟨mdX3_isTold, List.mem_of_getElem? (i := 435) (by decide +kernel), List.mem_of_getElem? (i := 436) (by decide +kernel), List.mem_of_getElem? (i := 437) (by decide +kernel)⟩
theorem lkX10_132 : LkV RX10 132 mX3_firstAir 1 := ⟨mdX3_firstAir, List.mem_of_getElem? (i := 439) (by decide +kernel), List.mem_of_getElem? (i := 440) (by decide +kernel), List.mem_of_getElem? (i := 441) (by decide +kernel)⟩
theorem lkX10_135 : LkV RX10 135 mX3_firstWall 1 := ⟨mdX3_firstWall, List.mem_of_getElem? (i := 443) (by decide +kernel), List.mem_of_getElem? (i := 444) (by decide +kernel), List.mem_of_getElem? (i := 445) (by decide +kernel)⟩
theorem lkX10_138 : LkV RX10 138 mX3_side 1 := ⟨mdX3_side, List.mem_of_getElem? (i := 447) (by decide +kernel), List.mem_of_getElem? (i := 448) (by decide +kernel), List.mem_of_getElem? (i := 449) (by decide +kernel)⟩
theorem lkX10_141 : LkV RX10 141 mX3_folk 1 := ⟨mdX3_folk, List.mem_of_getElem? (i := 451) (by decide +kernel), List.mem_of_getElem? (i := 452) (by decide +kernel), List.mem_of_getElem? (i := 453) (by decide +kernel)⟩
theorem lkX10_144 : LkV RX10 144 mX3_habit 1 := ⟨mdX3_habit, List.mem_of_getElem? (i := 455) (by decide +kernel), List.mem_of_getElem? (i := 456) (by decide +kernel), List.mem_of_getElem? (i := 457) (by decide +kernel)⟩
theorem lkX10_147 : LkV RX10 147 mX3_openHours 1 := ⟨mdX3_openHours, List.mem_of_getElem? (i := 459) (by decide +kernel), List.mem_of_getElem? (i := 460) (by decide +kernel), List.mem_of_getElem? (i := 461) (by decide +kernel)⟩
theorem lkX10_150 : LkV RX10 150 mX3_shutHours 1 := ⟨mdX3_shutHours, List.mem_of_getElem? (i := 463) (by decide +kernel), List.mem_of_getElem? (i := 464) (by decide +kernel), List.mem_of_getElem? (i := 465) (by decide +kernel)⟩
theorem lkL_37 : LkV RL 37 mX11_room 2 := ⟨mdX11_room, List.mem_of_getElem? (i := 467) (by decide +kernel), List.mem_of_getElem? (i := 468) (by decide +kernel), List.mem_of_getElem? (i := 469) (by decide +kernel)⟩
theorem lkX11_222 : LkV RX11 222 mX11_isRoom 1 := ⟨mdX11_isRoom, List.mem_of_getElem? (i := 471) (by decide +kernel), List.mem_of_getElem? (i := 472) (by decide +kernel), List.mem_of_getElem? (i := 473) (by decide +kernel)⟩
theorem lkX11_127 : LkS RX11 127 mX11_has 2 := ⟨mdX11_has, List.mem_of_getElem? (i := 475) (by decide +kernel), List.mem_of_getElem? (i := 476) (by decide +kernel)⟩
theorem lkL_38 : LkV RL 38 mX10_door 2 := ⟨mdX10_door, List.mem_of_getElem? (i := 478) (by decide +kernel), List.mem_of_getElem? (i := 479) (by decide +kernel), List.mem_of_getElem? (i := 480) (by decide +kernel)⟩
theorem lkX10_153 : LkS RX10 153 mX10_isRoom 1 := ⟨mdX10_isRoom, List.mem_of_getElem? (i := 482) (by decide +kernel), List.mem_of_getElem? (i := 483) (by decide +kernel)⟩
theorem lkX10_156 : LkV RX10 156 mX3_passes 2 := ⟨mdX3_passes, List.mem_of_getElem? (i := 485) (by decide +kernel), List.mem_of_getElem? (i := 486) (by decide +kernel), List.mem_of_getElem? (i := 487) (by decide +kernel)⟩
theorem lkL_41 : LkV RL 41 mX11_door 2 := ⟨mdX11_door, List.mem_of_getElem? (i := 489) (by decide +kernel), List.mem_of_getElem? (i := 490) (by decide +kernel), List.mem_of_getElem? (i := 491) (by decide +kernel)⟩
theorem lkL_42 : LkV RL 42 mX10_out 1 := ⟨mdX10_out, List.mem_of_getElem? (i := 493) (by decide +kernel), List.mem_of_getElem? (i := 494) (by decide +kernel), List.mem_of_getElem? (i := 495) (by decide +kernel)⟩
theorem lkX10_160 : LkS RX10 160 mX10_isHour 1 := ⟨mdX10_isHour, List.mem_of_getElem? (i := 497) (by decide +kernel), List.mem_of_getElem? (i := 498) (by decide +kernel)⟩
theorem lkX10_163 : LkV RX10 163 mX3_skyAt 1 := ⟨mdX3_skyAt, List.mem_of_getElem? (i := 500) (by decide +kernel), List.mem_of_getElem? (i := 501) (by decide +kernel), List.mem_of_getElem? (i := 502) (by decide +kernel)⟩
theorem lkL_46 : LkV RL 46 mX11_out 1 := ⟨mdX11_out, List.mem_of_getElem? (i := 504) (by decide +kernel), List.mem_of_getElem? (i := 505) (by decide +kernel), List.mem_of_getElem? (i := 506) (by decide +kernel)⟩
theorem lkX11_225 : LkV RX11 225 mX11_outAt 1 := ⟨mdX11_outAt, List.mem_of_getElem? (i := 508) (by decide +kernel), List.mem_of_getElem? (i := 509) (by decide +kernel), List.mem_of_getElem? (i := 510) (by decide +kernel)⟩
theorem lkL_47 : LkV RL 47 mX10_warm 3 := ⟨mdX10_warm, List.mem_of_getElem? (i := 512) (by decide +kernel), List.mem_of_getElem? (i := 513) (by decide +kernel), List.mem_of_getElem? (i := 514) (by decide +kernel)⟩
theorem lkX10_166 : LkV RX10 166 mX10_courseAsTold 0 := ⟨mdX10_courseAsTold, List.mem_of_getElem? (i := 516) (by decide +kernel), List.mem_of_getElem? (i := 517) (by decide +kernel), List.mem_of_getElem? (i := 518) (by decide +kernel)⟩
theorem lkX10_189 : LkV RX10 189 mX4_takeFrom 1 := ⟨mdX4_takeFrom, List.mem_of_getElem? (i := 520) (by decide +kernel), List.mem_of_getElem? (i := 521) (by decide +kernel), List.mem_of_getElem? (i := 522) (by decide +kernel)⟩
theorem lkX4_36 : LkV RX4 36 mX3_skyAt 1 := ⟨mdX3_skyAt, List.mem_of_getElem? (i := 524) (by decide +kernel), List.mem_of_getElem? (i := 501) (by decide +kernel), List.mem_of_getElem? (i := 502) (by decide +kernel)⟩
theorem lkX4_42 : LkV RX4 42 mX3_habit 1 := ⟨mdX3_habit, List.mem_of_getElem? (i := 525) (by decide +kernel), List.mem_of_getElem? (i := 456) (by decide +kernel), List.mem_of_getElem? (i := 457) (by decide +kernel)⟩
theorem lkX4_44 : LkV RX4 44 mX3_openHours 1 := ⟨mdX3_openHours, List.mem_of_getElem? (i := 526) (by decide +kernel), List.mem_of_getElem? (i := 460) (by decide +kernel), List.mem_of_getElem? (i := 461) (by decide +kernel)⟩
theorem lkX4_46 : LkV RX4 46 mX4_takeWorksOff 2 := ⟨mdX4_takeWorksOff, List.mem_of_getElem? (i := 527) (by decide +kernel), List.mem_of_getElem? (i := 528) (by decide +kernel), List.mem_of_getElem? (i := 529) (by decide +kernel)⟩
theorem lkX4_59 : LkV RX4 59 mX3_leaks 0 := ⟨mdX3_leaks, List.mem_of_getElem? (i := 531) (by decide +kernel), List.mem_of_getElem? (i := 532) (by decide +kernel), List.mem_of_getElem? (i := 533) (by decide +kernel)⟩
theorem lkX4_61 : LkV RX4 61 mX3_sunIn 2 := ⟨mdX3_sunIn, List.mem_of_getElem? (i := 535) (by decide +kernel), List.mem_of_getElem? (i := 536) (by decide +kernel), List.mem_of_getElem? (i := 537) (by decide +kernel)⟩
theorem lkX3_97 : LkS RX3 97 mX3_shinesOn 2 := ⟨mdX3_shinesOn, List.mem_of_getElem? (i := 539) (by decide +kernel), List.mem_of_getElem? (i := 540) (by decide +kernel)⟩
theorem lkX4_50 : LkV RX4 50 mX3_gives 0 := ⟨mdX3_gives, List.mem_of_getElem? (i := 544) (by decide +kernel), List.mem_of_getElem? (i := 545) (by decide +kernel), List.mem_of_getElem? (i := 546) (by decide +kernel)⟩
theorem lkX4_53 : LkV RX4 53 mX3_takes 0 := ⟨mdX3_takes, List.mem_of_getElem? (i := 548) (by decide +kernel), List.mem_of_getElem? (i := 549) (by decide +kernel), List.mem_of_getElem? (i := 550) (by decide +kernel)⟩
theorem lkX4_55 : LkV RX4 55 mX4_putLaw 2 := ⟨mdX4_putLaw, List.mem_of_getElem? (i := 552) (by decide +kernel), List.mem_of_getElem? (i := 553) (by decide +kernel), List.mem_of_getElem? (i := 554) (by decide +kernel)⟩
theorem lkX10_197 : LkV RX10 197 mX1_run 2 := ⟨mdX1_run, List.mem_of_getElem? (i := 556) (by decide +kernel), List.mem_of_getElem? (i := 557) (by decide +kernel), List.mem_of_getElem? (i := 558) (by decide +kernel)⟩
theorem lkX1_22 : LkV RX1 22 mX3_firstAir 1 := ⟨mdX3_firstAir, List.mem_of_getElem? (i := 560) (by decide +kernel), List.mem_of_getElem? (i := 440) (by decide +kernel), List.mem_of_getElem? (i := 441) (by decide +kernel)⟩
theorem lkX1_28 : LkV RX1 28 mX3_firstWall 1 := ⟨mdX3_firstWall, List.mem_of_getElem? (i := 561) (by decide +kernel), List.mem_of_getElem? (i := 444) (by decide +kernel), List.mem_of_getElem? (i := 445) (by decide +kernel)⟩
theorem lkX1_31 : LkV RX1 31 mX3_isTold 1 := ⟨mdX3_isTold, List.mem_of_getElem? (i := 562) (by decide +kernel), List.mem_of_getElem? (i := 436) (by decide +kernel), List.mem_of_getElem? (i := 437) (by decide +kernel)⟩
theorem lkX1_35 : LkV RX1 35 mX1_goOn 4 := ⟨mdX1_goOn, List.mem_of_getElem? (i := 563) (by decide +kernel), List.mem_of_getElem? (i := 564) (by decide +kernel), List.mem_of_getElem? (i := 565) (by decide +kernel)⟩
theorem lkX1_39 : LkV RX1 39 mX4_skyAt 1 := ⟨mdX4_skyAt, List.mem_of_getElem? (i := 567) (by decide +kernel), List.mem_of_getElem? (i := 568) (by decide +kernel), List.mem_of_getElem? (i := 569) (by decide +kernel)⟩
theorem lkX1_44 : LkV RX1 44 mX3_homeHours 0 := ⟨mdX3_homeHours, List.mem_of_getElem? (i := 571) (by decide +kernel), List.mem_of_getElem? (i := 572) (by decide +kernel), List.mem_of_getElem? (i := 573) (by decide +kernel)⟩
theorem lkX1_52 : LkV RX1 52 mX4_wouldOpen 3 := ⟨mdX4_wouldOpen, List.mem_of_getElem? (i := 575) (by decide +kernel), List.mem_of_getElem? (i := 576) (by decide +kernel), List.mem_of_getElem? (i := 577) (by decide +kernel)⟩
theorem lkX1_56 : LkV RX1 56 mX4_sunIn 2 := ⟨mdX4_sunIn, List.mem_of_getElem? (i := 579) (by decide +kernel), List.mem_of_getElem? (i := 580) (by decide +kernel), List.mem_of_getElem? (i := 581) (by decide +kernel)⟩
theorem lkX1_60 : LkV RX1 60 mX4_gives 0 := ⟨mdX4_gives, List.mem_of_getElem? (i := 583) (by decide +kernel), List.mem_of_getElem? (i := 584) (by decide +kernel), List.mem_of_getElem? (i := 585) (by decide +kernel)⟩
theorem lkX1_63 : LkV RX1 63 mX1_throughDoors 3 := ⟨mdX1_throughDoors, List.mem_of_getElem? (i := 587) (by decide +kernel), List.mem_of_getElem? (i := 588) (by decide +kernel), List.mem_of_getElem? (i := 589) (by decide +kernel)⟩
theorem lkX1_79 : LkV RX1 79 mX3_passes 2 := ⟨mdX3_passes, List.mem_of_getElem? (i := 591) (by decide +kernel), List.mem_of_getElem? (i := 486) (by decide +kernel), List.mem_of_getElem? (i := 487) (by decide +kernel)⟩
theorem lkX1_67 : LkV RX1 67 mX3_folk 1 := ⟨mdX3_folk, List.mem_of_getElem? (i := 592) (by decide +kernel), List.mem_of_getElem? (i := 452) (by decide +kernel), List.mem_of_getElem? (i := 453) (by decide +kernel)⟩
theorem lkX1_70 : LkV RX1 70 mX3_window 0 := ⟨mdX3_window, List.mem_of_getElem? (i := 593) (by decide +kernel), List.mem_of_getElem? (i := 594) (by decide +kernel), List.mem_of_getElem? (i := 595) (by decide +kernel)⟩
theorem lkX1_73 : LkV RX1 73 mX4_takes 0 := ⟨mdX4_takes, List.mem_of_getElem? (i := 597) (by decide +kernel), List.mem_of_getElem? (i := 598) (by decide +kernel), List.mem_of_getElem? (i := 599) (by decide +kernel)⟩
theorem lkX1_76 : LkV RX1 76 mX4_leaks 1 := ⟨mdX4_leaks, List.mem_of_getElem? (i := 601) (by decide +kernel), List.mem_of_getElem? (i := 602) (by decide +kernel), List.mem_of_getElem? (i := 603) (by decide +kernel)⟩
theorem lkX10_170 : LkV RX10 170 mX1_airBehind 2 := ⟨mdX1_airBehind, List.mem_of_getElem? (i := 605) (by decide +kernel), List.mem_of_getElem? (i := 606) (by decide +kernel), List.mem_of_getElem? (i := 607) (by decide +kernel)⟩
theorem lkX10_173 : LkV RX10 173 mX1_wallBehind 2 := ⟨mdX1_wallBehind, List.mem_of_getElem? (i := 609) (by decide +kernel), List.mem_of_getElem? (i := 610) (by decide +kernel), List.mem_of_getElem? (i := 611) (by decide +kernel)⟩
theorem lkX10_176 : LkV RX10 176 mX1_openIn 2 := ⟨mdX1_openIn, List.mem_of_getElem? (i := 613) (by decide +kernel), List.mem_of_getElem? (i := 614) (by decide +kernel), List.mem_of_getElem? (i := 615) (by decide +kernel)⟩
theorem lkL_51 : LkV RL 51 mX11_warm 3 := ⟨mdX11_warm, List.mem_of_getElem? (i := 617) (by decide +kernel), List.mem_of_getElem? (i := 618) (by decide +kernel), List.mem_of_getElem? (i := 619) (by decide +kernel)⟩
theorem lkX11_253 : LkV RX11 253 mX11_asTold 0 := ⟨mdX11_asTold, List.mem_of_getElem? (i := 621) (by decide +kernel), List.mem_of_getElem? (i := 622) (by decide +kernel), List.mem_of_getElem? (i := 623) (by decide +kernel)⟩
theorem glX11_232 : Gl RX11 232 11 32 := ⟨_, _, _, _, kc_11, by decide, List.mem_of_getElem? (i := 625) (by decide +kernel)⟩
theorem plX11_232 : Pl RX11 232 11 32 .int := ⟨_, _, _, _, kc_11, by decide, List.mem_of_getElem? (i := 625) (by decide +kernel), rfl, by decide +kernel⟩
theorem lkX11_247 : LkV RX11 247 mX11_goWeek 0 := ⟨mdX11_goWeek, List.mem_of_getElem? (i := 626) (by decide +kernel), List.mem_of_getElem? (i := 627) (by decide +kernel), List.mem_of_getElem? (i := 628) (by decide +kernel)⟩
theorem lkX11_244 : LkV RX11 244 mX11_goHour 1 := ⟨mdX11_goHour, List.mem_of_getElem? (i := 630) (by decide +kernel), List.mem_of_getElem? (i := 631) (by decide +kernel), List.mem_of_getElem? (i := 632) (by decide +kernel)⟩
theorem lkX11_235 : LkV RX11 235 mX11_sunAt 2 := ⟨mdX11_sunAt, List.mem_of_getElem? (i := 634) (by decide +kernel), List.mem_of_getElem? (i := 635) (by decide +kernel), List.mem_of_getElem? (i := 636) (by decide +kernel)⟩
theorem glX11_229 : Gl RX11 229 11 35 := ⟨_, _, _, _, kc_11, by decide, List.mem_of_getElem? (i := 638) (by decide +kernel)⟩
theorem plX11_229 : Pl RX11 229 11 35 .int := ⟨_, _, _, _, kc_11, by decide, List.mem_of_getElem? (i := 638) (by decide +kernel), rfl, by decide +kernel⟩
theorem lkX11_238 : LkV RX11 238 mX11_isOpenAt 2 := ⟨mdX11_isOpenAt, List.mem_of_getElem? (i := 639) (by decide +kernel), List.mem_of_getElem? (i := 640) (by decide +kernel), List.mem_of_getElem? (i := 641) (by decide +kernel)⟩
theorem lkX11_241 : LkV RX11 241 mX11_leaksOf 1 := ⟨mdX11_leaksOf, List.mem_of_getElem? (i := 643) (by decide +kernel), List.mem_of_getElem? (i := 644) (by decide +kernel), List.mem_of_getElem? (i := 645) (by decide +kernel)⟩
theorem lkL_52 : LkV RL 52 mX10_night 1 := ⟨mdX10_night, List.mem_of_getElem? (i := 647) (by decide +kernel), List.mem_of_getElem? (i := 648) (by decide +kernel), List.mem_of_getElem? (i := 649) (by decide +kernel)⟩
theorem lkX10_179 : LkV RX10 179 mX1_nightOfAll 1 := ⟨mdX1_nightOfAll, List.mem_of_getElem? (i := 651) (by decide +kernel), List.mem_of_getElem? (i := 652) (by decide +kernel), List.mem_of_getElem? (i := 653) (by decide +kernel)⟩
theorem lkX1_82 : LkV RX1 82 mX1_nightOf 1 := ⟨mdX1_nightOf, List.mem_of_getElem? (i := 655) (by decide +kernel), List.mem_of_getElem? (i := 656) (by decide +kernel), List.mem_of_getElem? (i := 657) (by decide +kernel)⟩
theorem lkX10_183 : LkV RX10 183 mX1_nightOf 1 := ⟨mdX1_nightOf, List.mem_of_getElem? (i := 659) (by decide +kernel), List.mem_of_getElem? (i := 656) (by decide +kernel), List.mem_of_getElem? (i := 657) (by decide +kernel)⟩
theorem lkL_55 : LkV RL 55 mX11_night 1 := ⟨mdX11_night, List.mem_of_getElem? (i := 660) (by decide +kernel), List.mem_of_getElem? (i := 661) (by decide +kernel), List.mem_of_getElem? (i := 662) (by decide +kernel)⟩
theorem lkX11_256 : LkV RX11 256 mX11_nightOfAll 0 := ⟨mdX11_nightOfAll, List.mem_of_getElem? (i := 664) (by decide +kernel), List.mem_of_getElem? (i := 665) (by decide +kernel), List.mem_of_getElem? (i := 666) (by decide +kernel)⟩
theorem lkX11_250 : LkV RX11 250 mX11_nightOf 1 := ⟨mdX11_nightOf, List.mem_of_getElem? (i := 668) (by decide +kernel), List.mem_of_getElem? (i := 669) (by decide +kernel), List.mem_of_getElem? (i := 670) (by decide +kernel)⟩
theorem lkL_56 : LkV RL 56 mX10_above 2 := ⟨mdX10_above, List.mem_of_getElem? (i := 672) (by decide +kernel), List.mem_of_getElem? (i := 673) (by decide +kernel), List.mem_of_getElem? (i := 674) (by decide +kernel)⟩
theorem lkX10_186 : LkV RX10 186 mX1_longestAbove 2 := ⟨mdX1_longestAbove, List.mem_of_getElem? (i := 676) (by decide +kernel), List.mem_of_getElem? (i := 677) (by decide +kernel), List.mem_of_getElem? (i := 678) (by decide +kernel)⟩
theorem mlX1_85 : Cond.methodLink RX1 85 Lib.Math.max.name ∈ wsL_law := List.mem_of_getElem? (i := 680) (by decide +kernel)
theorem lkL_59 : LkV RL 59 mX11_above 2 := ⟨mdX11_above, List.mem_of_getElem? (i := 684) (by decide +kernel), List.mem_of_getElem? (i := 685) (by decide +kernel), List.mem_of_getElem? (i := 686) (by decide +kernel)⟩
theorem lkL_60 : LkV RL 60 mX10_costs 1 := ⟨mdX10_costs, List.mem_of_getElem? (i := 688) (by decide +kernel), List.mem_of_getElem? (i := 689) (by decide +kernel), List.mem_of_getElem? (i := 690) (by decide +kernel)⟩
theorem cnX10_201 : Cond.constant RX10 201 (10000000) ∈ wsL_law := List.mem_of_getElem? (i := 692) (by decide +kernel)
theorem lkX10_193 : LkV RX10 193 mX4_putHabit 2 := ⟨mdX4_putHabit, List.mem_of_getElem? (i := 693) (by decide +kernel), List.mem_of_getElem? (i := 694) (by decide +kernel), List.mem_of_getElem? (i := 695) (by decide +kernel)⟩
theorem lkL_63 : LkV RL 63 mX11_costs 1 := ⟨mdX11_costs, List.mem_of_getElem? (i := 697) (by decide +kernel), List.mem_of_getElem? (i := 698) (by decide +kernel), List.mem_of_getElem? (i := 699) (by decide +kernel)⟩
theorem cnX11_260 : Cond.constant RX11 260 (10000000) ∈ wsL_law := List.mem_of_getElem? (i := 701) (by decide +kernel)
theorem lkL_64 : LkV RL 64 mX10_clock 1 := ⟨mdX10_clock, List.mem_of_getElem? (i := 702) (by decide +kernel), List.mem_of_getElem? (i := 703) (by decide +kernel), List.mem_of_getElem? (i := 704) (by decide +kernel)⟩
theorem lkX10_202 : LkV RX10 202 mX0_find 3 := ⟨mdX0_find, List.mem_of_getElem? (i := 706) (by decide +kernel), List.mem_of_getElem? (i := 707) (by decide +kernel), List.mem_of_getElem? (i := 708) (by decide +kernel)⟩
theorem glX0_34 : Gl RX0 34 0 4 := ⟨_, _, _, _, kc_0, by decide, List.mem_of_getElem? (i := 710) (by decide +kernel)⟩
theorem plX0_34 : Pl RX0 34 0 4 .int := ⟨_, _, _, _, kc_0, by decide, List.mem_of_getElem? (i := 710) (by decide +kernel), rfl, by decide +kernel⟩
theorem lkX0_15 : LkV RX0 15 mX4_takeFrom 1 := ⟨mdX4_takeFrom, List.mem_of_getElem? (i := 711) (by decide +kernel), List.mem_of_getElem? (i := 521) (by decide +kernel), List.mem_of_getElem? (i := 522) (by decide +kernel)⟩
theorem lkX0_21 : LkV RX0 21 mX4_putAllByGlass 0 := ⟨mdX4_putAllByGlass, List.mem_of_getElem? (i := 712) (by decide +kernel), List.mem_of_getElem? (i := 713) (by decide +kernel), List.mem_of_getElem? (i := 714) (by decide +kernel)⟩
theorem lkX0_24 : LkV RX0 24 mX1_run 2 := ⟨mdX1_run, List.mem_of_getElem? (i := 716) (by decide +kernel), List.mem_of_getElem? (i := 557) (by decide +kernel), List.mem_of_getElem? (i := 558) (by decide +kernel)⟩
theorem lkX0_30 : LkV RX0 30 mX1_nightOfAll 1 := ⟨mdX1_nightOfAll, List.mem_of_getElem? (i := 717) (by decide +kernel), List.mem_of_getElem? (i := 652) (by decide +kernel), List.mem_of_getElem? (i := 653) (by decide +kernel)⟩
theorem lkX0_42 : LkV RX0 42 mX4_putAllByClock 1 := ⟨mdX4_putAllByClock, List.mem_of_getElem? (i := 718) (by decide +kernel), List.mem_of_getElem? (i := 719) (by decide +kernel), List.mem_of_getElem? (i := 720) (by decide +kernel)⟩
theorem lkX0_46 : LkV RX0 46 mX0_keepBetter 3 := ⟨mdX0_keepBetter, List.mem_of_getElem? (i := 722) (by decide +kernel), List.mem_of_getElem? (i := 723) (by decide +kernel), List.mem_of_getElem? (i := 724) (by decide +kernel)⟩
theorem glX0_50 : Gl RX0 50 0 3 := ⟨_, _, _, _, kc_0, by decide, List.mem_of_getElem? (i := 726) (by decide +kernel)⟩
theorem plX0_50 : Pl RX0 50 0 3 .int := ⟨_, _, _, _, kc_0, by decide, List.mem_of_getElem? (i := 726) (by decide +kernel), rfl, by decide +kernel⟩
theorem glX0_52 : Gl RX0 52 0 1 := ⟨_, _, _, _, kc_0, by decide, List.mem_of_getElem? (i := 727) (by decide +kernel)⟩
theorem plX0_52 : Pl RX0 52 0 1 .int := ⟨_, _, _, _, kc_0, by decide, List.mem_of_getElem? (i := 727) (by decide +kernel), rfl, by decide +kernel⟩
theorem glX0_55 : Gl RX0 55 0 2 := ⟨_, _, _, _, kc_0, by decide, List.mem_of_getElem? (i := 728) (by decide +kernel)⟩
theorem plX0_55 : Pl RX0 55 0 2 .int := ⟨_, _, _, _, kc_0, by decide, List.mem_of_getElem? (i := 728) (by decide +kernel), rfl, by decide +kernel⟩
theorem lkX10_206 : LkV RX10 206 mX0_from 0 := ⟨mdX0_from, List.mem_of_getElem? (i := 729) (by decide +kernel), List.mem_of_getElem? (i := 730) (by decide +kernel), List.mem_of_getElem? (i := 731) (by decide +kernel)⟩
theorem lkX10_209 : LkV RX10 209 mX0_to 0 := ⟨mdX0_to, List.mem_of_getElem? (i := 733) (by decide +kernel), List.mem_of_getElem? (i := 734) (by decide +kernel), List.mem_of_getElem? (i := 735) (by decide +kernel)⟩
theorem lkX10_212 : LkV RX10 212 mX0_nightOfAll 0 := ⟨mdX0_nightOfAll, List.mem_of_getElem? (i := 737) (by decide +kernel), List.mem_of_getElem? (i := 738) (by decide +kernel), List.mem_of_getElem? (i := 739) (by decide +kernel)⟩
theorem lkX10_214 : LkV RX10 214 mX0_near 0 := ⟨mdX0_near, List.mem_of_getElem? (i := 741) (by decide +kernel), List.mem_of_getElem? (i := 742) (by decide +kernel), List.mem_of_getElem? (i := 743) (by decide +kernel)⟩
theorem lkL_67 : LkV RL 67 mX11_clock 1 := ⟨mdX11_clock, List.mem_of_getElem? (i := 745) (by decide +kernel), List.mem_of_getElem? (i := 746) (by decide +kernel), List.mem_of_getElem? (i := 747) (by decide +kernel)⟩
theorem lkX11_261 : LkV RX11 261 mX11_nightByClock 2 := ⟨mdX11_nightByClock, List.mem_of_getElem? (i := 749) (by decide +kernel), List.mem_of_getElem? (i := 750) (by decide +kernel), List.mem_of_getElem? (i := 751) (by decide +kernel)⟩
theorem lkX11_264 : LkV RX11 264 mX11_nightByGlass 0 := ⟨mdX11_nightByGlass, List.mem_of_getElem? (i := 753) (by decide +kernel), List.mem_of_getElem? (i := 754) (by decide +kernel), List.mem_of_getElem? (i := 755) (by decide +kernel)⟩
theorem lkL_68 : LkV RL 68 mX10_work 4 := ⟨mdX10_work, List.mem_of_getElem? (i := 757) (by decide +kernel), List.mem_of_getElem? (i := 758) (by decide +kernel), List.mem_of_getElem? (i := 759) (by decide +kernel)⟩
theorem lkX10_217 : LkV RX10 217 mX9_isFull 0 := ⟨mdX9_isFull, List.mem_of_getElem? (i := 761) (by decide +kernel), List.mem_of_getElem? (i := 762) (by decide +kernel), List.mem_of_getElem? (i := 763) (by decide +kernel)⟩
theorem lkX10_221 : LkV RX10 221 mX9_add 4 := ⟨mdX9_add, List.mem_of_getElem? (i := 765) (by decide +kernel), List.mem_of_getElem? (i := 766) (by decide +kernel), List.mem_of_getElem? (i := 767) (by decide +kernel)⟩
theorem lkX9_28 : LkV RX9 28 mX9_isFull 0 := ⟨mdX9_isFull, List.mem_of_getElem? (i := 769) (by decide +kernel), List.mem_of_getElem? (i := 762) (by decide +kernel), List.mem_of_getElem? (i := 763) (by decide +kernel)⟩
theorem lkL_72 : LkV RL 72 mX11_work 4 := ⟨mdX11_work, List.mem_of_getElem? (i := 770) (by decide +kernel), List.mem_of_getElem? (i := 771) (by decide +kernel), List.mem_of_getElem? (i := 772) (by decide +kernel)⟩
theorem lkL_73 : LkV RL 73 mX10_works 2 := ⟨mdX10_works, List.mem_of_getElem? (i := 774) (by decide +kernel), List.mem_of_getElem? (i := 775) (by decide +kernel), List.mem_of_getElem? (i := 776) (by decide +kernel)⟩
theorem lkX10_224 : LkV RX10 224 mX9_findFor 4 := ⟨mdX9_findFor, List.mem_of_getElem? (i := 778) (by decide +kernel), List.mem_of_getElem? (i := 779) (by decide +kernel), List.mem_of_getElem? (i := 780) (by decide +kernel)⟩
theorem glX9_59 : Gl RX9 59 9 6 := ⟨_, _, _, _, kc_9, by decide, List.mem_of_getElem? (i := 782) (by decide +kernel)⟩
theorem plX9_59 : Pl RX9 59 9 6 .int := ⟨_, _, _, _, kc_9, by decide, List.mem_of_getElem? (i := 782) (by decide +kernel), rfl, by decide +kernel⟩
theorem glX9_62 : Gl RX9 62 9 5 := ⟨_, _, _, _, kc_9, by decide, List.mem_of_getElem? (i := 783) (by decide +kernel)⟩
theorem plX9_62 : Pl RX9 62 9 5 .int := ⟨_, _, _, _, kc_9, by decide, List.mem_of_getElem? (i := 783) (by decide +kernel), rfl, by decide +kernel⟩
theorem lkX9_32 : LkV RX9 32 mX4_takeFrom 1 := ⟨mdX4_takeFrom, List.mem_of_getElem? (i := 784) (by decide +kernel), List.mem_of_getElem? (i := 521) (by decide +kernel), List.mem_of_getElem? (i := 522) (by decide +kernel)⟩
theorem lkX9_38 : LkV RX9 38 mX9_costOf 1 := ⟨mdX9_costOf, List.mem_of_getElem? (i := 785) (by decide +kernel), List.mem_of_getElem? (i := 786) (by decide +kernel), List.mem_of_getElem? (i := 787) (by decide +kernel)⟩
theorem lkX9_42 : LkV RX9 42 mX4_takeAllWorksOff 1 := ⟨mdX4_takeAllWorksOff, List.mem_of_getElem? (i := 789) (by decide +kernel), List.mem_of_getElem? (i := 790) (by decide +kernel), List.mem_of_getElem? (i := 791) (by decide +kernel)⟩
theorem lkX9_45 : LkV RX9 45 mX9_put 2 := ⟨mdX9_put, List.mem_of_getElem? (i := 793) (by decide +kernel), List.mem_of_getElem? (i := 794) (by decide +kernel), List.mem_of_getElem? (i := 795) (by decide +kernel)⟩
theorem lkX9_69 : LkV RX9 69 mX4_putWork 3 := ⟨mdX4_putWork, List.mem_of_getElem? (i := 797) (by decide +kernel), List.mem_of_getElem? (i := 798) (by decide +kernel), List.mem_of_getElem? (i := 799) (by decide +kernel)⟩
theorem mlX4_65 : Cond.methodLink RX4 65 Lib.Math.max.name ∈ wsL_law := List.mem_of_getElem? (i := 801) (by decide +kernel)
theorem lkX9_49 : LkV RX9 49 mX1_run 2 := ⟨mdX1_run, List.mem_of_getElem? (i := 802) (by decide +kernel), List.mem_of_getElem? (i := 557) (by decide +kernel), List.mem_of_getElem? (i := 558) (by decide +kernel)⟩
theorem lkX9_55 : LkV RX9 55 mX1_nightOfAll 1 := ⟨mdX1_nightOfAll, List.mem_of_getElem? (i := 803) (by decide +kernel), List.mem_of_getElem? (i := 652) (by decide +kernel), List.mem_of_getElem? (i := 653) (by decide +kernel)⟩
theorem lkX10_228 : LkV RX10 228 mX9_bestSet 0 := ⟨mdX9_bestSet, List.mem_of_getElem? (i := 804) (by decide +kernel), List.mem_of_getElem? (i := 805) (by decide +kernel), List.mem_of_getElem? (i := 806) (by decide +kernel)⟩
theorem lkX10_231 : LkV RX10 231 mX9_bestNight 0 := ⟨mdX9_bestNight, List.mem_of_getElem? (i := 808) (by decide +kernel), List.mem_of_getElem? (i := 809) (by decide +kernel), List.mem_of_getElem? (i := 810) (by decide +kernel)⟩
theorem lkL_76 : LkV RL 76 mX11_works 2 := ⟨mdX11_works, List.mem_of_getElem? (i := 812) (by decide +kernel), List.mem_of_getElem? (i := 813) (by decide +kernel), List.mem_of_getElem? (i := 814) (by decide +kernel)⟩
theorem lkX11_267 : LkV RX11 267 mX11_costOf 1 := ⟨mdX11_costOf, List.mem_of_getElem? (i := 816) (by decide +kernel), List.mem_of_getElem? (i := 817) (by decide +kernel), List.mem_of_getElem? (i := 818) (by decide +kernel)⟩
theorem lkL_77 : LkV RL 77 mX10_read 3 := ⟨mdX10_read, List.mem_of_getElem? (i := 820) (by decide +kernel), List.mem_of_getElem? (i := 821) (by decide +kernel), List.mem_of_getElem? (i := 822) (by decide +kernel)⟩
theorem lkX10_234 : LkV RX10 234 mX2_isFull 0 := ⟨mdX2_isFull, List.mem_of_getElem? (i := 824) (by decide +kernel), List.mem_of_getElem? (i := 825) (by decide +kernel), List.mem_of_getElem? (i := 826) (by decide +kernel)⟩
theorem lkX10_235 : LkV RX10 235 mX2_add 3 := ⟨mdX2_add, List.mem_of_getElem? (i := 828) (by decide +kernel), List.mem_of_getElem? (i := 829) (by decide +kernel), List.mem_of_getElem? (i := 830) (by decide +kernel)⟩
theorem lkX2_28 : LkV RX2 28 mX2_isFull 0 := ⟨mdX2_isFull, List.mem_of_getElem? (i := 832) (by decide +kernel), List.mem_of_getElem? (i := 825) (by decide +kernel), List.mem_of_getElem? (i := 826) (by decide +kernel)⟩
theorem lkL_80 : LkV RL 80 mX11_read 3 := ⟨mdX11_read, List.mem_of_getElem? (i := 833) (by decide +kernel), List.mem_of_getElem? (i := 834) (by decide +kernel), List.mem_of_getElem? (i := 835) (by decide +kernel)⟩
theorem glX11_270 : Gl RX11 270 11 40 := ⟨_, _, _, _, kc_11, by decide, List.mem_of_getElem? (i := 837) (by decide +kernel)⟩
theorem plX11_270 : Pl RX11 270 11 40 .int := ⟨_, _, _, _, kc_11, by decide, List.mem_of_getElem? (i := 837) (by decide +kernel), rfl, by decide +kernel⟩
theorem lkL_81 : LkV RL 81 mX10_learnt 2 := ⟨mdX10_learnt, List.mem_of_getElem? (i := 838) (by decide +kernel), List.mem_of_getElem? (i := 839) (by decide +kernel), List.mem_of_getElem? (i := 840) (by decide +kernel)⟩
theorem lkX10_238 : LkV RX10 238 mX2_learn 4 := ⟨mdX2_learn, List.mem_of_getElem? (i := 842) (by decide +kernel), List.mem_of_getElem? (i := 843) (by decide +kernel), List.mem_of_getElem? (i := 844) (by decide +kernel)⟩
theorem lkX2_32 : LkV RX2 32 mX4_takeFrom 1 := ⟨mdX4_takeFrom, List.mem_of_getElem? (i := 846) (by decide +kernel), List.mem_of_getElem? (i := 521) (by decide +kernel), List.mem_of_getElem? (i := 522) (by decide +kernel)⟩
theorem lkX2_38 : LkV RX2 38 mX4_putLaw 2 := ⟨mdX4_putLaw, List.mem_of_getElem? (i := 847) (by decide +kernel), List.mem_of_getElem? (i := 553) (by decide +kernel), List.mem_of_getElem? (i := 554) (by decide +kernel)⟩
theorem lkX2_42 : LkV RX2 42 mX1_run 2 := ⟨mdX1_run, List.mem_of_getElem? (i := 848) (by decide +kernel), List.mem_of_getElem? (i := 557) (by decide +kernel), List.mem_of_getElem? (i := 558) (by decide +kernel)⟩
theorem lkX2_48 : LkV RX2 48 mX2_allHold 3 := ⟨mdX2_allHold, List.mem_of_getElem? (i := 849) (by decide +kernel), List.mem_of_getElem? (i := 850) (by decide +kernel), List.mem_of_getElem? (i := 851) (by decide +kernel)⟩
theorem mlX2_65 : Cond.methodLink RX2 65 Lib.Math.abs.name ∈ wsL_law := List.mem_of_getElem? (i := 853) (by decide +kernel)
theorem lkX2_55 : LkV RX2 55 mX3_isTold 1 := ⟨mdX3_isTold, List.mem_of_getElem? (i := 856) (by decide +kernel), List.mem_of_getElem? (i := 436) (by decide +kernel), List.mem_of_getElem? (i := 437) (by decide +kernel)⟩
theorem lkX2_61 : LkV RX2 61 mX1_airBehind 2 := ⟨mdX1_airBehind, List.mem_of_getElem? (i := 857) (by decide +kernel), List.mem_of_getElem? (i := 606) (by decide +kernel), List.mem_of_getElem? (i := 607) (by decide +kernel)⟩
theorem lkX2_52 : LkV RX2 52 mX2_keep 2 := ⟨mdX2_keep, List.mem_of_getElem? (i := 858) (by decide +kernel), List.mem_of_getElem? (i := 859) (by decide +kernel), List.mem_of_getElem? (i := 860) (by decide +kernel)⟩
theorem glX2_71 : Gl RX2 71 2 5 := ⟨_, _, _, _, kc_2, by decide, List.mem_of_getElem? (i := 862) (by decide +kernel)⟩
theorem plX2_71 : Pl RX2 71 2 5 .int := ⟨_, _, _, _, kc_2, by decide, List.mem_of_getElem? (i := 862) (by decide +kernel), rfl, by decide +kernel⟩
theorem mlX2_74 : Cond.methodLink RX2 74 Lib.Math.min.name ∈ wsL_law := List.mem_of_getElem? (i := 863) (by decide +kernel)
theorem glX2_77 : Gl RX2 77 2 6 := ⟨_, _, _, _, kc_2, by decide, List.mem_of_getElem? (i := 866) (by decide +kernel)⟩
theorem plX2_77 : Pl RX2 77 2 6 .int := ⟨_, _, _, _, kc_2, by decide, List.mem_of_getElem? (i := 866) (by decide +kernel), rfl, by decide +kernel⟩
theorem mlX2_80 : Cond.methodLink RX2 80 Lib.Math.max.name ∈ wsL_law := List.mem_of_getElem? (i := 867) (by decide +kernel)
theorem glX2_83 : Gl RX2 83 2 7 := ⟨_, _, _, _, kc_2, by decide, List.mem_of_getElem? (i := 868) (by decide +kernel)⟩
theorem plX2_83 : Pl RX2 83 2 7 .int := ⟨_, _, _, _, kc_2, by decide, List.mem_of_getElem? (i := 868) (by decide +kernel), rfl, by decide +kernel⟩
theorem glX2_86 : Gl RX2 86 2 8 := ⟨_, _, _, _, kc_2, by decide, List.mem_of_getElem? (i := 869) (by decide +kernel)⟩
theorem plX2_86 : Pl RX2 86 2 8 .int := ⟨_, _, _, _, kc_2, by decide, List.mem_of_getElem? (i := 869) (by decide +kernel), rfl, by decide +kernel⟩
theorem lkX10_241 : LkV RX10 241 mX2_laws 0 := ⟨mdX2_laws, List.mem_of_getElem? (i := 870) (by decide +kernel), List.mem_of_getElem? (i := 871) (by decide +kernel), List.mem_of_getElem? (i := 872) (by decide +kernel)⟩
theorem lkX10_244 : LkV RX10 244 mX2_bound 1 := ⟨mdX2_bound, List.mem_of_getElem? (i := 874) (by decide +kernel), List.mem_of_getElem? (i := 875) (by decide +kernel), List.mem_of_getElem? (i := 876) (by decide +kernel)⟩
theorem lkL_84 : LkV RL 84 mX11_learnt 2 := ⟨mdX11_learnt, List.mem_of_getElem? (i := 878) (by decide +kernel), List.mem_of_getElem? (i := 879) (by decide +kernel), List.mem_of_getElem? (i := 880) (by decide +kernel)⟩
theorem lkX11_273 : LkV RX11 273 mX11_doHold 1 := ⟨mdX11_doHold, List.mem_of_getElem? (i := 882) (by decide +kernel), List.mem_of_getElem? (i := 883) (by decide +kernel), List.mem_of_getElem? (i := 884) (by decide +kernel)⟩
theorem lkL_85 : LkV RL 85 mX10_flat 3 := ⟨mdX10_flat, List.mem_of_getElem? (i := 886) (by decide +kernel), List.mem_of_getElem? (i := 887) (by decide +kernel), List.mem_of_getElem? (i := 888) (by decide +kernel)⟩
theorem lkX10_247 : LkV RX10 247 mX6_tell 3 := ⟨mdX6_tell, List.mem_of_getElem? (i := 890) (by decide +kernel), List.mem_of_getElem? (i := 891) (by decide +kernel), List.mem_of_getElem? (i := 892) (by decide +kernel)⟩
theorem lkL_88 : LkV RL 88 mX11_flat 3 := ⟨mdX11_flat, List.mem_of_getElem? (i := 894) (by decide +kernel), List.mem_of_getElem? (i := 895) (by decide +kernel), List.mem_of_getElem? (i := 896) (by decide +kernel)⟩
theorem lkL_89 : LkV RL 89 mX10_ring 1 := ⟨mdX10_ring, List.mem_of_getElem? (i := 898) (by decide +kernel), List.mem_of_getElem? (i := 899) (by decide +kernel), List.mem_of_getElem? (i := 900) (by decide +kernel)⟩
theorem lkX10_250 : LkV RX10 250 mX6_weigh 0 := ⟨mdX6_weigh, List.mem_of_getElem? (i := 902) (by decide +kernel), List.mem_of_getElem? (i := 903) (by decide +kernel), List.mem_of_getElem? (i := 904) (by decide +kernel)⟩
theorem lkX6_21 : LkV RX6 21 mX6_toldSet 0 := ⟨mdX6_toldSet, List.mem_of_getElem? (i := 906) (by decide +kernel), List.mem_of_getElem? (i := 907) (by decide +kernel), List.mem_of_getElem? (i := 908) (by decide +kernel)⟩
theorem lkX6_31 : LkV RX6 31 mX6_firstOf 2 := ⟨mdX6_firstOf, List.mem_of_getElem? (i := 910) (by decide +kernel), List.mem_of_getElem? (i := 911) (by decide +kernel), List.mem_of_getElem? (i := 912) (by decide +kernel)⟩
theorem lkX6_35 : LkV RX6 35 mX6_lostBy 3 := ⟨mdX6_lostBy, List.mem_of_getElem? (i := 914) (by decide +kernel), List.mem_of_getElem? (i := 915) (by decide +kernel), List.mem_of_getElem? (i := 916) (by decide +kernel)⟩
theorem lkX6_25 : LkS RX6 25 mJ6_bitCount_0f7a4 1 := ⟨mdJ6_bitCount_0f7a4, List.mem_of_getElem? (i := 918) (by decide +kernel), List.mem_of_getElem? (i := 919) (by decide +kernel)⟩
theorem cnJ6_265 : Cond.constant RJ6 265 (1431655765) ∈ wsL_law := List.mem_of_getElem? (i := 922) (by decide +kernel)
theorem cnJ6_266 : Cond.constant RJ6 266 (858993459) ∈ wsL_law := List.mem_of_getElem? (i := 923) (by decide +kernel)
theorem cnJ6_267 : Cond.constant RJ6 267 (252645135) ∈ wsL_law := List.mem_of_getElem? (i := 924) (by decide +kernel)
theorem lkX10_253 : LkV RX10 253 mX6_lost 0 := ⟨mdX6_lost, List.mem_of_getElem? (i := 925) (by decide +kernel), List.mem_of_getElem? (i := 926) (by decide +kernel), List.mem_of_getElem? (i := 927) (by decide +kernel)⟩
theorem lkX10_256 : LkV RX10 256 mX6_flatAt 1 := ⟨mdX6_flatAt, List.mem_of_getElem? (i := 929) (by decide +kernel), List.mem_of_getElem? (i := 930) (by decide +kernel), List.mem_of_getElem? (i := 931) (by decide +kernel)⟩
theorem lkL_92 : LkV RL 92 mX11_ring 1 := ⟨mdX11_ring, List.mem_of_getElem? (i := 933) (by decide +kernel), List.mem_of_getElem? (i := 934) (by decide +kernel), List.mem_of_getElem? (i := 935) (by decide +kernel)⟩
theorem lkX11_282 : LkV RX11 282 mX11_toldFlats 0 := ⟨mdX11_toldFlats, List.mem_of_getElem? (i := 937) (by decide +kernel), List.mem_of_getElem? (i := 938) (by decide +kernel), List.mem_of_getElem? (i := 939) (by decide +kernel)⟩
theorem lkX11_285 : LkV RX11 285 mX11_layRest 1 := ⟨mdX11_layRest, List.mem_of_getElem? (i := 941) (by decide +kernel), List.mem_of_getElem? (i := 942) (by decide +kernel), List.mem_of_getElem? (i := 943) (by decide +kernel)⟩
theorem lkX11_276 : LkS RX11 276 mX11_bits 1 := ⟨mdX11_bits, List.mem_of_getElem? (i := 945) (by decide +kernel), List.mem_of_getElem? (i := 946) (by decide +kernel)⟩
theorem lkX11_279 : LkV RX11 279 mX11_lostBy 2 := ⟨mdX11_lostBy, List.mem_of_getElem? (i := 948) (by decide +kernel), List.mem_of_getElem? (i := 949) (by decide +kernel), List.mem_of_getElem? (i := 950) (by decide +kernel)⟩
theorem lkL_93 : LkV RL 93 mX10_street 5 := ⟨mdX10_street, List.mem_of_getElem? (i := 952) (by decide +kernel), List.mem_of_getElem? (i := 953) (by decide +kernel), List.mem_of_getElem? (i := 954) (by decide +kernel)⟩
theorem cnX10_269 : Cond.constant RX10 269 (100000) ∈ wsL_law := List.mem_of_getElem? (i := 956) (by decide +kernel)
theorem lkX10_259 : LkV RX10 259 mX7_look 4 := ⟨mdX7_look, List.mem_of_getElem? (i := 957) (by decide +kernel), List.mem_of_getElem? (i := 958) (by decide +kernel), List.mem_of_getElem? (i := 959) (by decide +kernel)⟩
theorem glX7_15 : Gl RX7 15 7 1 := ⟨_, _, _, _, kc_7, by decide, List.mem_of_getElem? (i := 961) (by decide +kernel)⟩
theorem plX7_15 : Pl RX7 15 7 1 .int := ⟨_, _, _, _, kc_7, by decide, List.mem_of_getElem? (i := 961) (by decide +kernel), rfl, by decide +kernel⟩
theorem glX7_18 : Gl RX7 18 7 2 := ⟨_, _, _, _, kc_7, by decide, List.mem_of_getElem? (i := 962) (by decide +kernel)⟩
theorem plX7_18 : Pl RX7 18 7 2 .int := ⟨_, _, _, _, kc_7, by decide, List.mem_of_getElem? (i := 962) (by decide +kernel), rfl, by decide +kernel⟩
theorem glX7_21 : Gl RX7 21 7 3 := ⟨_, _, _, _, kc_7, by decide, List.mem_of_getElem? (i := 963) (by decide +kernel)⟩
theorem plX7_21 : Pl RX7 21 7 3 .int := ⟨_, _, _, _, kc_7, by decide, List.mem_of_getElem? (i := 963) (by decide +kernel), rfl, by decide +kernel⟩
theorem glX7_24 : Gl RX7 24 7 4 := ⟨_, _, _, _, kc_7, by decide, List.mem_of_getElem? (i := 964) (by decide +kernel)⟩
theorem plX7_24 : Pl RX7 24 7 4 .int := ⟨_, _, _, _, kc_7, by decide, List.mem_of_getElem? (i := 964) (by decide +kernel), rfl, by decide +kernel⟩
theorem glX7_27 : Gl RX7 27 7 5 := ⟨_, _, _, _, kc_7, by decide, List.mem_of_getElem? (i := 965) (by decide +kernel)⟩
theorem plX7_27 : Pl RX7 27 7 5 .int := ⟨_, _, _, _, kc_7, by decide, List.mem_of_getElem? (i := 965) (by decide +kernel), rfl, by decide +kernel⟩
theorem glX7_34 : Gl RX7 34 7 7 := ⟨_, _, _, _, kc_7, by decide, List.mem_of_getElem? (i := 966) (by decide +kernel)⟩
theorem plX7_34 : Pl RX7 34 7 7 .int := ⟨_, _, _, _, kc_7, by decide, List.mem_of_getElem? (i := 966) (by decide +kernel), rfl, by decide +kernel⟩
theorem lkX7_30 : LkV RX7 30 mX7_allHave 1 := ⟨mdX7_allHave, List.mem_of_getElem? (i := 967) (by decide +kernel), List.mem_of_getElem? (i := 968) (by decide +kernel), List.mem_of_getElem? (i := 969) (by decide +kernel)⟩
theorem lkX7_52 : LkV RX7 52 mX7_has 3 := ⟨mdX7_has, List.mem_of_getElem? (i := 971) (by decide +kernel), List.mem_of_getElem? (i := 972) (by decide +kernel), List.mem_of_getElem? (i := 973) (by decide +kernel)⟩
theorem lkX7_37 : LkV RX7 37 mX7_isRest 1 := ⟨mdX7_isRest, List.mem_of_getElem? (i := 975) (by decide +kernel), List.mem_of_getElem? (i := 976) (by decide +kernel), List.mem_of_getElem? (i := 977) (by decide +kernel)⟩
theorem lkX7_41 : LkV RX7 41 mX7_keepRest 2 := ⟨mdX7_keepRest, List.mem_of_getElem? (i := 979) (by decide +kernel), List.mem_of_getElem? (i := 980) (by decide +kernel), List.mem_of_getElem? (i := 981) (by decide +kernel)⟩
theorem glX7_45 : Gl RX7 45 7 6 := ⟨_, _, _, _, kc_7, by decide, List.mem_of_getElem? (i := 983) (by decide +kernel)⟩
theorem plX7_45 : Pl RX7 45 7 6 .int := ⟨_, _, _, _, kc_7, by decide, List.mem_of_getElem? (i := 983) (by decide +kernel), rfl, by decide +kernel⟩
theorem lkX10_263 : LkV RX10 263 mX7_rests 0 := ⟨mdX7_rests, List.mem_of_getElem? (i := 984) (by decide +kernel), List.mem_of_getElem? (i := 985) (by decide +kernel), List.mem_of_getElem? (i := 986) (by decide +kernel)⟩
theorem lkX10_266 : LkV RX10 266 mX7_bestRest 0 := ⟨mdX7_bestRest, List.mem_of_getElem? (i := 988) (by decide +kernel), List.mem_of_getElem? (i := 989) (by decide +kernel), List.mem_of_getElem? (i := 990) (by decide +kernel)⟩
theorem lkX10_270 : LkV RX10 270 mX7_mostByRest 0 := ⟨mdX7_mostByRest, List.mem_of_getElem? (i := 992) (by decide +kernel), List.mem_of_getElem? (i := 993) (by decide +kernel), List.mem_of_getElem? (i := 994) (by decide +kernel)⟩
theorem lkX10_273 : LkV RX10 273 mX7_mostByAny 0 := ⟨mdX7_mostByAny, List.mem_of_getElem? (i := 996) (by decide +kernel), List.mem_of_getElem? (i := 997) (by decide +kernel), List.mem_of_getElem? (i := 998) (by decide +kernel)⟩
theorem lkL_97 : LkV RL 97 mX11_street 5 := ⟨mdX11_street, List.mem_of_getElem? (i := 1000) (by decide +kernel), List.mem_of_getElem? (i := 1001) (by decide +kernel), List.mem_of_getElem? (i := 1002) (by decide +kernel)⟩
theorem cnX11_292 : Cond.constant RX11 292 (100000) ∈ wsL_law := List.mem_of_getElem? (i := 1004) (by decide +kernel)
theorem lkX11_288 : LkS RX11 288 mX11_hasBy 6 := ⟨mdX11_hasBy, List.mem_of_getElem? (i := 1005) (by decide +kernel), List.mem_of_getElem? (i := 1006) (by decide +kernel)⟩
theorem lkL_98 : LkV RL 98 mX10_count 1 := ⟨mdX10_count, List.mem_of_getElem? (i := 1008) (by decide +kernel), List.mem_of_getElem? (i := 1009) (by decide +kernel), List.mem_of_getElem? (i := 1010) (by decide +kernel)⟩
theorem lkX10_276 : LkV RX10 276 mX3_toldRooms 0 := ⟨mdX3_toldRooms, List.mem_of_getElem? (i := 1012) (by decide +kernel), List.mem_of_getElem? (i := 1013) (by decide +kernel), List.mem_of_getElem? (i := 1014) (by decide +kernel)⟩
theorem lkX10_279 : LkV RX10 279 mX9_size 0 := ⟨mdX9_size, List.mem_of_getElem? (i := 1016) (by decide +kernel), List.mem_of_getElem? (i := 1017) (by decide +kernel), List.mem_of_getElem? (i := 1018) (by decide +kernel)⟩
theorem lkX10_282 : LkV RX10 282 mX2_size 0 := ⟨mdX2_size, List.mem_of_getElem? (i := 1020) (by decide +kernel), List.mem_of_getElem? (i := 1021) (by decide +kernel), List.mem_of_getElem? (i := 1022) (by decide +kernel)⟩
theorem lkX10_283 : LkV RX10 283 mX6_toldFlats 0 := ⟨mdX6_toldFlats, List.mem_of_getElem? (i := 1024) (by decide +kernel), List.mem_of_getElem? (i := 1025) (by decide +kernel), List.mem_of_getElem? (i := 1026) (by decide +kernel)⟩
theorem lkX10_286 : LkV RX10 286 mX3_homeHours 0 := ⟨mdX3_homeHours, List.mem_of_getElem? (i := 1028) (by decide +kernel), List.mem_of_getElem? (i := 572) (by decide +kernel), List.mem_of_getElem? (i := 573) (by decide +kernel)⟩
theorem lkL_101 : LkV RL 101 mX11_count 1 := ⟨mdX11_count, List.mem_of_getElem? (i := 1029) (by decide +kernel), List.mem_of_getElem? (i := 1030) (by decide +kernel), List.mem_of_getElem? (i := 1031) (by decide +kernel)⟩
theorem lkX5_67 : LkN RX5 67 mX10_isWithin 3 := ⟨mdX10_isWithin, ⟨"HotWeek", by decide +kernel⟩, List.mem_of_getElem? (i := 198) (by decide +kernel)⟩
theorem lkX3_93 : LkN RX3 93 mX10_hoursFrom 2 := ⟨mdX10_hoursFrom, ⟨"HotWeek", by decide +kernel⟩, List.mem_of_getElem? (i := 409) (by decide +kernel)⟩
theorem lkX3_104 : LkN RX3 104 mX10_isWithin 3 := ⟨mdX10_isWithin, ⟨"HotWeek", by decide +kernel⟩, List.mem_of_getElem? (i := 198) (by decide +kernel)⟩
theorem lkX3_101 : LkN RX3 101 mX10_hasBit 2 := ⟨mdX10_hasBit, ⟨"HotWeek", by decide +kernel⟩, List.mem_of_getElem? (i := 542) (by decide +kernel)⟩
theorem lkX1_48 : LkN RX1 48 mX10_hasBit 2 := ⟨mdX10_hasBit, ⟨"HotWeek", by decide +kernel⟩, List.mem_of_getElem? (i := 542) (by decide +kernel)⟩
theorem lkX4_70 : LkN RX4 70 mX10_hasBit 2 := ⟨mdX10_hasBit, ⟨"HotWeek", by decide +kernel⟩, List.mem_of_getElem? (i := 542) (by decide +kernel)⟩
theorem lkX0_38 : LkN RX0 38 mX10_hoursFrom 2 := ⟨mdX10_hoursFrom, ⟨"HotWeek", by decide +kernel⟩, List.mem_of_getElem? (i := 409) (by decide +kernel)⟩
theorem lkX9_65 : LkN RX9 65 mX10_hasBit 2 := ⟨mdX10_hasBit, ⟨"HotWeek", by decide +kernel⟩, List.mem_of_getElem? (i := 542) (by decide +kernel)⟩
theorem lkX6_39 : LkN RX6 39 mX10_hasBit 2 := ⟨mdX10_hasBit, ⟨"HotWeek", by decide +kernel⟩, List.mem_of_getElem? (i := 542) (by decide +kernel)⟩
theorem lkX7_48 : LkN RX7 48 mX10_hasBit 2 := ⟨mdX10_hasBit, ⟨"HotWeek", by decide +kernel⟩, List.mem_of_getElem? (i := 542) (by decide +kernel)⟩
theorem st_max : Cond.static Lib.Math.max.name ∈ wsL_law := List.mem_of_getElem? (i := 681) (by decide +kernel)
theorem st_min : Cond.static Lib.Math.min.name ∈ wsL_law := List.mem_of_getElem? (i := 864) (by decide +kernel)
theorem st_abs : Cond.static Lib.Math.abs.name ∈ wsL_law := List.mem_of_getElem? (i := 854) (by decide +kernel)
theorem in_math : Cond.initialized "java/lang/Math" ∈ wsL_law := List.mem_of_getElem? (i := 682) (by decide +kernel)
theorem co_max : Cond.code Lib.Math.max.name Lib.Math.max.code 2 (some .int) ∈ wsL_law := List.mem_of_getElem? (i := 683) (by decide +kernel)
theorem co_abs : Cond.code Lib.Math.abs.name Lib.Math.abs.code 1 (some .int) ∈ wsL_law := List.mem_of_getElem? (i := 855) (by decide +kernel)
theorem co_min : Cond.code Lib.Math.min.name Lib.Math.min.code 2 (some .int) ∈ wsL_law := List.mem_of_getElem? (i := 865) (by decide +kernel)
end
section
/-! leaves: HotWeek's statics, House -/
abbrev bitP (s b : Int32) : Prop := (s >>> (b &&& 31)) &&& nI 1 = nI 1
abbrev inP (x a b : Int32) : Prop := a ≤ x ∧ x ≤ b
theorem in_nat {x : Int32} {n : Nat} (hn : n < 2 ^ 31) : inP x (nI 0) (nI n) ↔ ∃ k, k ≤ n ∧ x = nI k := by
  constructor
  · rintro ⟨h1, h2⟩
    have g1 := Int32.le_iff_toInt_le.mp h1
    have g2 := Int32.le_iff_toInt_le.mp h2
    rw [nI_toInt (by decide)] at g1
    rw [nI_toInt hn] at g2
    refine ⟨x.toInt.toNat, by omega, ?_⟩
    apply Int32.toInt_inj.mp
    rw [nI_toInt (by omega)]
    omega
  · rintro ⟨k, hk, rfl⟩
    exact ⟨(nI_leI (by decide) (by omega)).mpr (by omega), (nI_leI (by omega) hn).mpr hk⟩
/-- hours of the day, the first n from a on -/
def hOr (a : Nat) : Nat → Int32
  | 0 => nI 0
  | n + 1 => hOr a n ||| (nI 1 <<< (nI ((a + n) % 24) &&& 31))
def hCnt (a b : Nat) : Nat := (b + 24 - a) % 24
def hHrs (a b : Nat) : Int32 := hOr a (hCnt a b)
theorem shr_5 (i : Nat) (h : i < 8) : hT[6 + i]? = some (1, 5, []) := by
  rcases (by omega : i = 0 ∨ i = 1 ∨ i = 2 ∨ i = 3 ∨ i = 4 ∨ i = 5 ∨ i = 6 ∨ i = 7) with rfl | rfl | rfl | rfl | rfl | rfl | rfl | rfl <;> rfl
theorem shr_23 (i : Nat) (h : i < 5) : hT[24 + i]? = some (1, 5, []) := by
  rcases (by omega : i = 0 ∨ i = 1 ∨ i = 2 ∨ i = 3 ∨ i = 4) with rfl | rfl | rfl | rfl | rfl <;> rfl
theorem shr_33 (i : Nat) (h : i < 5) : hT[34 + i]? = some (1, 24, []) := by
  rcases (by omega : i = 0 ∨ i = 1 ∨ i = 2 ∨ i = 3 ∨ i = 4) with rfl | rfl | rfl | rfl | rfl <;> rfl

set_option maxRecDepth 100000 in
set_option maxHeartbeats 4000000 in
theorem t_X10_isWithin (M : hM) (a b c : Int32) : Ct 1 mX10_isWithin [.int a, .int b, .int c] M (pI (hb (inP a b c)) M) := by
  refine ct_of (lv := [some (.int a), some (.int b), some (.int c)]) (by decide +kernel) (fun _ _ hq => hq) rfl (fun _ => Nat.le_of_ble_eq_true rfl) (fun X h hr => ?_)
  refine j_iload_n h 1 rfl rfl dX10_isWithin_0 ?_
  refine j_iload_n h 2 rfl rfl dX10_isWithin_1 ?_
  refine j_icmp_lt h 14 5 dX10_isWithin_2 (by decide) rfl (fun c_2 => ?_) (fun c_2 => ?_)
  · skip
    refine j_iconst h 15 rfl (nI 0) (by decide) dX10_isWithin_14 ?_
    exact j_ret h hr (by decide) dX10_isWithin_15 ⟨congrArg (fun z => some (Value.int z)) (by first | (rw [hb_t]; rfl; (simp only [inP, Int32.lt_iff_toInt_lt, Int32.le_iff_toInt_le] at *; omega)) | (rw [hb_f]; rfl; (simp only [inP, Int32.lt_iff_toInt_lt, Int32.le_iff_toInt_le] at *; omega))), rfl⟩
  · skip
    refine j_iload_n h 6 rfl rfl dX10_isWithin_5 ?_
    refine j_iload_n h 7 rfl rfl dX10_isWithin_6 ?_
    refine j_icmp_gt h 14 10 dX10_isWithin_7 (by decide) rfl (fun c_7 => ?_) (fun c_7 => ?_)
    · skip
      refine j_iconst h 15 rfl (nI 0) (by decide) dX10_isWithin_14 ?_
      exact j_ret h hr (by decide) dX10_isWithin_15 ⟨congrArg (fun z => some (Value.int z)) (by first | (rw [hb_t]; rfl; (simp only [inP, Int32.lt_iff_toInt_lt, Int32.le_iff_toInt_le] at *; omega)) | (rw [hb_f]; rfl; (simp only [inP, Int32.lt_iff_toInt_lt, Int32.le_iff_toInt_le] at *; omega))), rfl⟩
    · skip
      refine j_iconst h 11 rfl (nI 1) (by decide) dX10_isWithin_10 ?_
      refine j_goto h 15 dX10_isWithin_11 (by decide) ?_
      exact j_ret h hr (by decide) dX10_isWithin_15 ⟨congrArg (fun z => some (Value.int z)) (by first | (rw [hb_t]; rfl; (simp only [inP, Int32.lt_iff_toInt_lt, Int32.le_iff_toInt_le] at *; omega)) | (rw [hb_f]; rfl; (simp only [inP, Int32.lt_iff_toInt_lt, Int32.le_iff_toInt_le] at *; omega))), rfl⟩
set_option maxRecDepth 100000 in
set_option maxHeartbeats 4000000 in
theorem t_X10_hasBit (M : hM) (a b : Int32) : Ct 1 mX10_hasBit [.int a, .int b] M (pI (hb (bitP a b)) M) := by
  refine ct_of (lv := [some (.int a), some (.int b)]) (by decide +kernel) (fun _ _ hq => hq) rfl (fun _ => Nat.le_of_ble_eq_true rfl) (fun X h hr => ?_)
  refine j_iload_n h 1 rfl rfl dX10_hasBit_0 ?_
  refine j_iload_n h 2 rfl rfl dX10_hasBit_1 ?_
  refine j_ishr h 3 rfl dX10_hasBit_2 ?_
  refine j_iconst h 4 rfl (nI 1) (by decide) dX10_hasBit_3 ?_
  refine j_iand h 5 rfl dX10_hasBit_4 ?_
  refine j_iconst h 6 rfl (nI 1) (by decide) dX10_hasBit_5 ?_
  refine j_icmp_ne h 13 9 dX10_hasBit_6 (by decide) rfl (fun c_6 => ?_) (fun c_6 => ?_)
  · skip
    refine j_iconst h 14 rfl (nI 0) (by decide) dX10_hasBit_13 ?_
    exact j_ret h hr (by decide) dX10_hasBit_14 ⟨congrArg (fun z => some (Value.int z)) (by first | (rw [hb_t]; rfl; first | assumption | exact Decidable.not_not.mp (by assumption) | exact fun z => z (by assumption)) | (rw [hb_f]; rfl; first | assumption | exact Decidable.not_not.mp (by assumption) | exact fun z => z (by assumption))), rfl⟩
  · skip
    refine j_iconst h 10 rfl (nI 1) (by decide) dX10_hasBit_9 ?_
    refine j_goto h 14 dX10_hasBit_10 (by decide) ?_
    exact j_ret h hr (by decide) dX10_hasBit_14 ⟨congrArg (fun z => some (Value.int z)) (by first | (rw [hb_t]; rfl; first | assumption | exact Decidable.not_not.mp (by assumption) | exact fun z => z (by assumption)) | (rw [hb_f]; rfl; first | assumption | exact Decidable.not_not.mp (by assumption) | exact fun z => z (by assumption))), rfl⟩
set_option maxRecDepth 100000 in
set_option maxHeartbeats 4000000 in
theorem t_X10_isRoom (M : hM) (a : Int32) : Ct 2 mX10_isRoom [.int a] M (pI (hb (inP a (nI 0) (nI 4))) M) := by
  refine ct_of (lv := [some (.int a)]) (by decide +kernel) (fun _ _ hq => hq) rfl (fun _ => Nat.le_of_ble_eq_true rfl) (fun X h hr => ?_)
  refine j_iload_n h 1 rfl rfl dX10_isRoom_0 ?_
  refine j_iconst h 2 rfl (nI 0) (by decide) dX10_isRoom_1 ?_
  refine j_iconst h 3 rfl (nI 4) (by decide) dX10_isRoom_2 ?_
  refine j_callSI h 6 rfl lkX10_86 rfl (t_X10_isWithin _ _ _ _) rfl rfl rfl dX10_isRoom_3 ?_
  exact j_ret h hr hb_nar dX10_isRoom_6 ⟨rfl, rfl⟩
set_option maxRecDepth 100000 in
set_option maxHeartbeats 4000000 in
theorem t_X10_isHour (M : hM) (a : Int32) : Ct 2 mX10_isHour [.int a] M (pI (hb (inP a (nI 0) (nI 95))) M) := by
  refine ct_of (lv := [some (.int a)]) (by decide +kernel) (fun _ _ hq => hq) rfl (fun _ => Nat.le_of_ble_eq_true rfl) (fun X h hr => ?_)
  refine j_iload_n h 1 rfl rfl dX10_isHour_0 ?_
  refine j_iconst h 2 rfl (nI 0) (by decide) dX10_isHour_1 ?_
  refine j_bipush h 4 rfl (nI 95) (by decide) dX10_isHour_2 ?_
  refine j_callSI h 7 rfl lkX10_86 rfl (t_X10_isWithin _ _ _ _) rfl rfl rfl dX10_isHour_4 ?_
  exact j_ret h hr hb_nar dX10_isHour_7 ⟨rfl, rfl⟩
set_option maxRecDepth 100000 in
set_option maxHeartbeats 4000000 in
theorem t_X10_hoursFrom (M : hM) (a b : Nat) (ha : a < 24) (hb : b < 24) : Ct 1 mX10_hoursFrom [.int (nI a), .int (nI b)] M (pI (hHrs a b) M) := by
  refine ct_of (lv := [some (.int (nI a)), some (.int (nI b)), none, none, none]) (by decide +kernel) (fun _ _ hq => hq) rfl (fun _ => Nat.le_of_ble_eq_true rfl) (fun X h hr => ?_)
  refine j_iconst h 1 rfl (nI 0) (by decide) dX10_hoursFrom_0 ?_
  refine j_istore_n h 2 rfl rfl dX10_hoursFrom_1 ?_
  refine j_iconst h 3 rfl (nI 0) (by decide) dX10_hoursFrom_2 ?_
  refine j_istore_n h 4 rfl rfl dX10_hoursFrom_3 ?_
  have L : ∀ (n i : Nat) (z : Option Value), 24 - i < n → i ≤ hCnt a b → J X 4 [some (.int (nI a)), some (.int (nI b)), some (.int (hOr a i)), some (.int (nI i)), z] [] M := by
    intro n
    induction n with
    | zero => intro i z h1; omega
    | succ n ih =>
      intro i z h1 h2
      have h3 : hCnt a b < 24 := Nat.mod_lt _ (by decide)
      refine j_iload_n h 5 rfl rfl dX10_hoursFrom_4 ?_
      refine j_bipush h 7 rfl (nI 24) (by decide) dX10_hoursFrom_5 ?_
      refine j_icmp_geN h 40 10 (by omega) (by omega) dX10_hoursFrom_7 (by decide) rfl (fun c_7 => by omega) (fun c_7 => ?_)
      refine j_iload_n h 11 rfl rfl dX10_hoursFrom_10 ?_
      refine j_iload_n h 12 rfl rfl dX10_hoursFrom_11 ?_
      refine j_iaddN h 13 rfl dX10_hoursFrom_12 ?_
      refine j_bipush h 15 rfl (nI 24) (by decide) dX10_hoursFrom_13 ?_
      refine j_iremN h 16 rfl (by omega) (by omega) (by omega) dX10_hoursFrom_15 ?_
      refine j_istore h 18 rfl rfl dX10_hoursFrom_16 ?_
      refine j_iload h 20 rfl rfl dX10_hoursFrom_18 ?_
      refine j_iload_n h 21 rfl rfl dX10_hoursFrom_20 ?_
      refine j_icmp_neN h 27 24 (by omega) (by omega) dX10_hoursFrom_21 (by decide) rfl (fun c_21 => ?_) (fun c_21 => ?_)
      · skip
        refine j_iload_n h 28 rfl rfl dX10_hoursFrom_27 ?_
        refine j_iconst h 29 rfl (nI 1) (by decide) dX10_hoursFrom_28 ?_
        refine j_iload h 31 rfl rfl dX10_hoursFrom_29 ?_
        refine j_ishl h 32 rfl dX10_hoursFrom_31 ?_
        refine j_ior h 33 rfl dX10_hoursFrom_32 ?_
        refine j_istore_n h 34 rfl rfl dX10_hoursFrom_33 ?_
        refine j_iincN h 37 rfl rfl rfl dX10_hoursFrom_34 ?_
        refine j_goto h 4 dX10_hoursFrom_37 (by decide) ?_
        exact ih (i + 1) _ (by omega) (by unfold hCnt at *; omega)
      · skip
        refine j_goto h 40 dX10_hoursFrom_24 (by decide) ?_
        refine j_iload_n h 41 rfl rfl dX10_hoursFrom_40 ?_
        exact j_ret h hr rfl dX10_hoursFrom_41 ⟨by unfold hHrs; rw [show hCnt a b = i by unfold hCnt at *; omega], rfl⟩
  exact L 25 0 _ (by omega) (Nat.zero_le _)
set_option maxRecDepth 100000 in
set_option maxHeartbeats 4000000 in
theorem t_X3_homeHours (M : hM) : Ct 1 mX3_homeHours [.ref 14] M (pI (M 14 9) M) := by
  refine ct_of (lv := [some (.ref 14)]) (by decide +kernel) (fun _ _ hq => hq) rfl (fun _ => Nat.le_of_ble_eq_true rfl) (fun X h hr => ?_)
  refine j_aload_n h 1 rfl rfl dX3_homeHours_0 ?_
  refine j_getI h 4 rfl glX3_43 sh_14 rfl dX3_homeHours_1 ?_
  exact j_ret h hr rfl dX3_homeHours_4 ⟨rfl, rfl⟩
set_option maxRecDepth 100000 in
set_option maxHeartbeats 4000000 in
theorem t_X3_takes (M : hM) : Ct 1 mX3_takes [.ref 14] M (pI (M 14 14) M) := by
  refine ct_of (lv := [some (.ref 14)]) (by decide +kernel) (fun _ _ hq => hq) rfl (fun _ => Nat.le_of_ble_eq_true rfl) (fun X h hr => ?_)
  refine j_aload_n h 1 rfl rfl dX3_takes_0 ?_
  refine j_getI h 4 rfl glX3_59 sh_14 rfl dX3_takes_1 ?_
  exact j_ret h hr rfl dX3_takes_4 ⟨rfl, rfl⟩
set_option maxRecDepth 100000 in
set_option maxHeartbeats 4000000 in
theorem t_X3_gives (M : hM) : Ct 1 mX3_gives [.ref 14] M (pI (M 14 15) M) := by
  refine ct_of (lv := [some (.ref 14)]) (by decide +kernel) (fun _ _ hq => hq) rfl (fun _ => Nat.le_of_ble_eq_true rfl) (fun X h hr => ?_)
  refine j_aload_n h 1 rfl rfl dX3_gives_0 ?_
  refine j_getI h 4 rfl glX3_62 sh_14 rfl dX3_gives_1 ?_
  exact j_ret h hr rfl dX3_gives_4 ⟨rfl, rfl⟩
set_option maxRecDepth 100000 in
set_option maxHeartbeats 4000000 in
theorem t_X3_leaks (M : hM) : Ct 1 mX3_leaks [.ref 14] M (pI (M 14 16) M) := by
  refine ct_of (lv := [some (.ref 14)]) (by decide +kernel) (fun _ _ hq => hq) rfl (fun _ => Nat.le_of_ble_eq_true rfl) (fun X h hr => ?_)
  refine j_aload_n h 1 rfl rfl dX3_leaks_0 ?_
  refine j_getI h 4 rfl glX3_65 sh_14 rfl dX3_leaks_1 ?_
  exact j_ret h hr rfl dX3_leaks_4 ⟨rfl, rfl⟩
set_option maxRecDepth 100000 in
set_option maxHeartbeats 4000000 in
theorem t_X3_window (M : hM) : Ct 1 mX3_window [.ref 14] M (pI (M 14 17) M) := by
  refine ct_of (lv := [some (.ref 14)]) (by decide +kernel) (fun _ _ hq => hq) rfl (fun _ => Nat.le_of_ble_eq_true rfl) (fun X h hr => ?_)
  refine j_aload_n h 1 rfl rfl dX3_window_0 ?_
  refine j_getI h 4 rfl glX3_68 sh_14 rfl dX3_window_1 ?_
  exact j_ret h hr rfl dX3_window_4 ⟨rfl, rfl⟩
set_option maxRecDepth 100000 in
set_option maxHeartbeats 4000000 in
theorem t_X3_firstAir (M : hM) (r : Nat) (hr5 : r < 5) : Ct 1 mX3_firstAir [.ref 14, .int (nI r)] M (pI (M 16 r) M) := by
  refine ct_of (lv := [some (.ref 14), some (.int (nI r))]) (by decide +kernel) (fun _ _ hq => hq) rfl (fun _ => Nat.le_of_ble_eq_true rfl) (fun X h hr => ?_)
  refine j_aload_n h 1 rfl rfl dX3_firstAir_0 ?_
  refine j_getR h 4 rfl glX3_15 sh_14 rfl dX3_firstAir_1 ?_
  refine j_iload_n h 5 rfl rfl dX3_firstAir_4 ?_
  refine j_iald h 6 rfl sh_16 _ rfl (by omega) rfl dX3_firstAir_5 ?_
  exact j_ret h hr rfl dX3_firstAir_6 ⟨rfl, rfl⟩
set_option maxRecDepth 100000 in
set_option maxHeartbeats 4000000 in
theorem t_X3_firstWall (M : hM) (r : Nat) (hr5 : r < 5) : Ct 1 mX3_firstWall [.ref 14, .int (nI r)] M (pI (M 17 r) M) := by
  refine ct_of (lv := [some (.ref 14), some (.int (nI r))]) (by decide +kernel) (fun _ _ hq => hq) rfl (fun _ => Nat.le_of_ble_eq_true rfl) (fun X h hr => ?_)
  refine j_aload_n h 1 rfl rfl dX3_firstWall_0 ?_
  refine j_getR h 4 rfl glX3_19 sh_14 rfl dX3_firstWall_1 ?_
  refine j_iload_n h 5 rfl rfl dX3_firstWall_4 ?_
  refine j_iald h 6 rfl sh_17 _ rfl (by omega) rfl dX3_firstWall_5 ?_
  exact j_ret h hr rfl dX3_firstWall_6 ⟨rfl, rfl⟩
set_option maxRecDepth 100000 in
set_option maxHeartbeats 4000000 in
theorem t_X3_side (M : hM) (r : Nat) (hr5 : r < 5) : Ct 1 mX3_side [.ref 14, .int (nI r)] M (pI (M 18 r) M) := by
  refine ct_of (lv := [some (.ref 14), some (.int (nI r))]) (by decide +kernel) (fun _ _ hq => hq) rfl (fun _ => Nat.le_of_ble_eq_true rfl) (fun X h hr => ?_)
  refine j_aload_n h 1 rfl rfl dX3_side_0 ?_
  refine j_getR h 4 rfl glX3_22 sh_14 rfl dX3_side_1 ?_
  refine j_iload_n h 5 rfl rfl dX3_side_4 ?_
  refine j_iald h 6 rfl sh_18 _ rfl (by omega) rfl dX3_side_5 ?_
  exact j_ret h hr rfl dX3_side_6 ⟨rfl, rfl⟩
set_option maxRecDepth 100000 in
set_option maxHeartbeats 4000000 in
theorem t_X3_folk (M : hM) (r : Nat) (hr5 : r < 5) : Ct 1 mX3_folk [.ref 14, .int (nI r)] M (pI (M 19 r) M) := by
  refine ct_of (lv := [some (.ref 14), some (.int (nI r))]) (by decide +kernel) (fun _ _ hq => hq) rfl (fun _ => Nat.le_of_ble_eq_true rfl) (fun X h hr => ?_)
  refine j_aload_n h 1 rfl rfl dX3_folk_0 ?_
  refine j_getR h 4 rfl glX3_25 sh_14 rfl dX3_folk_1 ?_
  refine j_iload_n h 5 rfl rfl dX3_folk_4 ?_
  refine j_iald h 6 rfl sh_19 _ rfl (by omega) rfl dX3_folk_5 ?_
  exact j_ret h hr rfl dX3_folk_6 ⟨rfl, rfl⟩
set_option maxRecDepth 100000 in
set_option maxHeartbeats 4000000 in
theorem t_X3_habit (M : hM) (r : Nat) (hr5 : r < 5) : Ct 1 mX3_habit [.ref 14, .int (nI r)] M (pI (M 20 r) M) := by
  refine ct_of (lv := [some (.ref 14), some (.int (nI r))]) (by decide +kernel) (fun _ _ hq => hq) rfl (fun _ => Nat.le_of_ble_eq_true rfl) (fun X h hr => ?_)
  refine j_aload_n h 1 rfl rfl dX3_habit_0 ?_
  refine j_getR h 4 rfl glX3_28 sh_14 rfl dX3_habit_1 ?_
  refine j_iload_n h 5 rfl rfl dX3_habit_4 ?_
  refine j_iald h 6 rfl sh_20 _ rfl (by omega) rfl dX3_habit_5 ?_
  exact j_ret h hr rfl dX3_habit_6 ⟨rfl, rfl⟩
set_option maxRecDepth 100000 in
set_option maxHeartbeats 4000000 in
theorem t_X3_openHours (M : hM) (r : Nat) (hr5 : r < 5) : Ct 1 mX3_openHours [.ref 14, .int (nI r)] M (pI (M 21 r) M) := by
  refine ct_of (lv := [some (.ref 14), some (.int (nI r))]) (by decide +kernel) (fun _ _ hq => hq) rfl (fun _ => Nat.le_of_ble_eq_true rfl) (fun X h hr => ?_)
  refine j_aload_n h 1 rfl rfl dX3_openHours_0 ?_
  refine j_getR h 4 rfl glX3_31 sh_14 rfl dX3_openHours_1 ?_
  refine j_iload_n h 5 rfl rfl dX3_openHours_4 ?_
  refine j_iald h 6 rfl sh_21 _ rfl (by omega) rfl dX3_openHours_5 ?_
  exact j_ret h hr rfl dX3_openHours_6 ⟨rfl, rfl⟩
set_option maxRecDepth 100000 in
set_option maxHeartbeats 4000000 in
theorem t_X3_shutHours (M : hM) (r : Nat) (hr5 : r < 5) : Ct 1 mX3_shutHours [.ref 14, .int (nI r)] M (pI (M 22 r) M) := by
  refine ct_of (lv := [some (.ref 14), some (.int (nI r))]) (by decide +kernel) (fun _ _ hq => hq) rfl (fun _ => Nat.le_of_ble_eq_true rfl) (fun X h hr => ?_)
  refine j_aload_n h 1 rfl rfl dX3_shutHours_0 ?_
  refine j_getR h 4 rfl glX3_34 sh_14 rfl dX3_shutHours_1 ?_
  refine j_iload_n h 5 rfl rfl dX3_shutHours_4 ?_
  refine j_iald h 6 rfl sh_22 _ rfl (by omega) rfl dX3_shutHours_5 ?_
  exact j_ret h hr rfl dX3_shutHours_6 ⟨rfl, rfl⟩
set_option maxRecDepth 100000 in
set_option maxHeartbeats 4000000 in
theorem t_X3_passes (M : hM) (r q : Nat) (hr5 : r < 5) (hq5 : q < 5) : Ct 1 mX3_passes [.ref 14, .int (nI r), .int (nI q)] M (pI (M (24 + r) q) M) := by
  refine ct_of (lv := [some (.ref 14), some (.int (nI r)), some (.int (nI q))]) (by decide +kernel) (fun _ _ hq => hq) rfl (fun _ => Nat.le_of_ble_eq_true rfl) (fun X h hr => ?_)
  refine j_aload_n h 1 rfl rfl dX3_passes_0 ?_
  refine j_getR h 4 rfl glX3_39 sh_14 rfl dX3_passes_1 ?_
  refine j_iload_n h 5 rfl rfl dX3_passes_4 ?_
  refine j_aald h 6 rfl sh_23 _ rfl (by omega) rfl dX3_passes_5 ?_
  refine j_iload_n h 7 rfl rfl dX3_passes_6 ?_
  refine j_iald h 8 rfl (shr_23 _ (by omega)) _ rfl (by omega) rfl dX3_passes_7 ?_
  exact j_ret h hr rfl dX3_passes_8 ⟨rfl, rfl⟩
set_option maxRecDepth 100000 in
set_option maxHeartbeats 4000000 in
theorem t_X3_isTold (M : hM) (r : Nat) (hr5 : r < 5) : Ct 1 mX3_isTold [.ref 14, .int (nI r)] M (pI (hb (¬ M 15 r = 0)) M) := by
  refine ct_of (lv := [some (.ref 14), some (.int (nI r))]) (by decide +kernel) (fun _ _ hq => hq) rfl (fun _ => Nat.le_of_ble_eq_true rfl) (fun X h hr => ?_)
  refine j_iload_n h 1 rfl rfl dX3_isTold_0 ?_
  refine j_if_ltN h 22 4 (by omega) dX3_isTold_1 (by decide) rfl (fun c_1 => c_1.elim) (fun c_1 => ?_)
  refine j_iload_n h 5 rfl rfl dX3_isTold_4 ?_
  refine j_iconst h 6 rfl (nI 5) (by decide) dX3_isTold_5 ?_
  refine j_icmp_geN h 22 9 (by omega) (by omega) dX3_isTold_6 (by decide) rfl (fun c_6 => by omega) (fun c_6 => ?_)
  refine j_aload_n h 10 rfl rfl dX3_isTold_9 ?_
  refine j_getR h 13 rfl glX3_9 sh_14 rfl dX3_isTold_10 ?_
  refine j_iload_n h 14 rfl rfl dX3_isTold_13 ?_
  refine j_zald h 15 rfl sh_15 _ rfl (by omega) rfl dX3_isTold_14 ?_
  refine j_if_eq h 22 18 dX3_isTold_15 (by decide) rfl (fun c_15 => ?_) (fun c_15 => ?_)
  · skip
    refine j_iconst h 23 rfl (nI 0) (by decide) dX3_isTold_22 ?_
    exact j_ret h hr (by decide) dX3_isTold_23 ⟨congrArg (fun z => some (Value.int z)) (by first | (rw [hb_t]; rfl; first | assumption | exact Decidable.not_not.mp (by assumption) | exact fun z => z (by assumption)) | (rw [hb_f]; rfl; first | assumption | exact Decidable.not_not.mp (by assumption) | exact fun z => z (by assumption))), rfl⟩
  · skip
    refine j_iconst h 19 rfl (nI 1) (by decide) dX3_isTold_18 ?_
    refine j_goto h 23 dX3_isTold_19 (by decide) ?_
    exact j_ret h hr (by decide) dX3_isTold_23 ⟨congrArg (fun z => some (Value.int z)) (by first | (rw [hb_t]; rfl; first | assumption | exact Decidable.not_not.mp (by assumption) | exact fun z => z (by assumption)) | (rw [hb_f]; rfl; first | assumption | exact Decidable.not_not.mp (by assumption) | exact fun z => z (by assumption))), rfl⟩
set_option maxRecDepth 100000 in
set_option maxHeartbeats 4000000 in
theorem t_X3_isTold_out (M : hM) (x : Int32) (hx : ¬ (inP x (nI 0) (nI 4))) : Ct 1 mX3_isTold [.ref 14, .int x] M (pI (nI 0) M) := by
  refine ct_of (lv := [some (.ref 14), some (.int x)]) (by decide +kernel) (fun _ _ hq => hq) rfl (fun _ => Nat.le_of_ble_eq_true rfl) (fun X h hr => ?_)
  refine j_iload_n h 1 rfl rfl dX3_isTold_0 ?_
  refine j_if_lt h 22 4 dX3_isTold_1 (by decide) rfl (fun c_1 => ?_) (fun c_1 => ?_)
  · skip
    refine j_iconst h 23 rfl (nI 0) (by decide) dX3_isTold_22 ?_
    exact j_ret h hr (by decide) dX3_isTold_23 ⟨rfl, rfl⟩
  · skip
    refine j_iload_n h 5 rfl rfl dX3_isTold_4 ?_
    refine j_iconst h 6 rfl (nI 5) (by decide) dX3_isTold_5 ?_
    refine j_icmp_ge h 22 9 dX3_isTold_6 (by decide) rfl (fun c_6 => ?_) (fun c_6 => absurd ⟨Int32.not_lt.mp c_1, by simp only [Int32.lt_iff_toInt_lt, Int32.le_iff_toInt_le, nI_toInt (show 5 < 2 ^ 31 by decide), nI_toInt (show 4 < 2 ^ 31 by decide)] at *; omega⟩ hx)
    refine j_iconst h 23 rfl (nI 0) (by decide) dX3_isTold_22 ?_
    exact j_ret h hr (by decide) dX3_isTold_23 ⟨rfl, rfl⟩
end
