section
-- ===== PART A: goes FIRST, ahead of the names: the tables' words, and 'selects' of the private methods out of them =====
/-- a private method of a class that the tables say can be made, by its rows of tables_1 -/
def lw_okq (q : MethodName × Nat) : Prop := (q.1.cls ≠ "java/lang/invoke/MethodHandle" ∧ q.1.cls ≠ "java/lang/invoke/VarHandle") ∧ Cond.instantiable q.1.cls q.2 ∈ tables_1 ∧ Cond.privateMethod q.1 ∈ tables_1 ∧ Cond.instanceMethod q.1 ∈ tables_1
theorem lw_p0 : lw_okq (⟨"OddHours", "freshZone", "(I)LOddHours$Zone;"⟩, 8) := ⟨⟨by decide +kernel, by decide +kernel⟩, List.mem_of_getElem? (i := 14) (by decide +kernel), List.mem_of_getElem? (i := 459) (by decide +kernel), List.mem_of_getElem? (i := 460) (by decide +kernel)⟩
theorem lw_p1 : lw_okq (⟨"OddHours", "programAt", "(I)LOddHours$Program;"⟩, 8) := ⟨⟨by decide +kernel, by decide +kernel⟩, List.mem_of_getElem? (i := 14) (by decide +kernel), List.mem_of_getElem? (i := 530) (by decide +kernel), List.mem_of_getElem? (i := 531) (by decide +kernel)⟩
theorem lw_p2 : lw_okq (⟨"OddHours", "isLaw", "(II)Z"⟩, 8) := ⟨⟨by decide +kernel, by decide +kernel⟩, List.mem_of_getElem? (i := 14) (by decide +kernel), List.mem_of_getElem? (i := 636) (by decide +kernel), List.mem_of_getElem? (i := 637) (by decide +kernel)⟩
theorem lw_p3 : lw_okq (⟨"OddHours", "gatherOdds", "(II)V"⟩, 8) := ⟨⟨by decide +kernel, by decide +kernel⟩, List.mem_of_getElem? (i := 14) (by decide +kernel), List.mem_of_getElem? (i := 673) (by decide +kernel), List.mem_of_getElem? (i := 674) (by decide +kernel)⟩
theorem lw_p4 : lw_okq (⟨"OddHours", "allLines", "()I"⟩, 8) := ⟨⟨by decide +kernel, by decide +kernel⟩, List.mem_of_getElem? (i := 14) (by decide +kernel), List.mem_of_getElem? (i := 795) (by decide +kernel), List.mem_of_getElem? (i := 796) (by decide +kernel)⟩
theorem lw_p5 : lw_okq (⟨"OddHoursModel", "daysOf", "(II)I"⟩, 42) := ⟨⟨by decide +kernel, by decide +kernel⟩, List.mem_of_getElem? (i := 799) (by decide +kernel), List.mem_of_getElem? (i := 954) (by decide +kernel), List.mem_of_getElem? (i := 955) (by decide +kernel)⟩
theorem lw_p6 : lw_okq (⟨"OddHoursModel", "countDays", "()V"⟩, 42) := ⟨⟨by decide +kernel, by decide +kernel⟩, List.mem_of_getElem? (i := 799) (by decide +kernel), List.mem_of_getElem? (i := 958) (by decide +kernel), List.mem_of_getElem? (i := 959) (by decide +kernel)⟩
theorem lw_p7 : lw_okq (⟨"OddHoursModel", "isDay", "(I)Z"⟩, 42) := ⟨⟨by decide +kernel, by decide +kernel⟩, List.mem_of_getElem? (i := 799) (by decide +kernel), List.mem_of_getElem? (i := 966) (by decide +kernel), List.mem_of_getElem? (i := 967) (by decide +kernel)⟩
theorem lw_p8 : lw_okq (⟨"OddHoursModel", "allDays", "()I"⟩, 42) := ⟨⟨by decide +kernel, by decide +kernel⟩, List.mem_of_getElem? (i := 799) (by decide +kernel), List.mem_of_getElem? (i := 970) (by decide +kernel), List.mem_of_getElem? (i := 971) (by decide +kernel)⟩
theorem lw_p9 : lw_okq (⟨"OddHoursModel", "monthOf", "(I)I"⟩, 42) := ⟨⟨by decide +kernel, by decide +kernel⟩, List.mem_of_getElem? (i := 799) (by decide +kernel), List.mem_of_getElem? (i := 974) (by decide +kernel), List.mem_of_getElem? (i := 975) (by decide +kernel)⟩
theorem lw_p10 : lw_okq (⟨"OddHoursModel", "weekday", "(I)I"⟩, 42) := ⟨⟨by decide +kernel, by decide +kernel⟩, List.mem_of_getElem? (i := 799) (by decide +kernel), List.mem_of_getElem? (i := 978) (by decide +kernel), List.mem_of_getElem? (i := 979) (by decide +kernel)⟩
theorem lw_p11 : lw_okq (⟨"OddHoursModel", "later", "(III)I"⟩, 42) := ⟨⟨by decide +kernel, by decide +kernel⟩, List.mem_of_getElem? (i := 799) (by decide +kernel), List.mem_of_getElem? (i := 986) (by decide +kernel), List.mem_of_getElem? (i := 987) (by decide +kernel)⟩
theorem lw_p12 : lw_okq (⟨"OddHoursModel", "nthOf", "(III)I"⟩, 42) := ⟨⟨by decide +kernel, by decide +kernel⟩, List.mem_of_getElem? (i := 799) (by decide +kernel), List.mem_of_getElem? (i := 994) (by decide +kernel), List.mem_of_getElem? (i := 995) (by decide +kernel)⟩
theorem lw_p13 : lw_okq (⟨"OddHoursModel", "forget", "()V"⟩, 42) := ⟨⟨by decide +kernel, by decide +kernel⟩, List.mem_of_getElem? (i := 799) (by decide +kernel), List.mem_of_getElem? (i := 1002) (by decide +kernel), List.mem_of_getElem? (i := 1003) (by decide +kernel)⟩
theorem lw_p14 : lw_okq (⟨"OddHoursModel", "isZone", "(I)Z"⟩, 42) := ⟨⟨by decide +kernel, by decide +kernel⟩, List.mem_of_getElem? (i := 799) (by decide +kernel), List.mem_of_getElem? (i := 1010) (by decide +kernel), List.mem_of_getElem? (i := 1011) (by decide +kernel)⟩
theorem lw_p15 : lw_okq (⟨"OddHoursModel", "find", "(I)V"⟩, 42) := ⟨⟨by decide +kernel, by decide +kernel⟩, List.mem_of_getElem? (i := 799) (by decide +kernel), List.mem_of_getElem? (i := 1026) (by decide +kernel), List.mem_of_getElem? (i := 1027) (by decide +kernel)⟩
def lw_privs_1 : List (MethodName × Nat) := [(⟨"OddHours", "freshZone", "(I)LOddHours$Zone;"⟩, 8), (⟨"OddHours", "programAt", "(I)LOddHours$Program;"⟩, 8), (⟨"OddHours", "isLaw", "(II)Z"⟩, 8), (⟨"OddHours", "gatherOdds", "(II)V"⟩, 8), (⟨"OddHours", "allLines", "()I"⟩, 8), (⟨"OddHoursModel", "daysOf", "(II)I"⟩, 42), (⟨"OddHoursModel", "countDays", "()V"⟩, 42), (⟨"OddHoursModel", "isDay", "(I)Z"⟩, 42), (⟨"OddHoursModel", "allDays", "()I"⟩, 42), (⟨"OddHoursModel", "monthOf", "(I)I"⟩, 42), (⟨"OddHoursModel", "weekday", "(I)I"⟩, 42), (⟨"OddHoursModel", "later", "(III)I"⟩, 42), (⟨"OddHoursModel", "nthOf", "(III)I"⟩, 42), (⟨"OddHoursModel", "forget", "()V"⟩, 42), (⟨"OddHoursModel", "isZone", "(I)Z"⟩, 42), (⟨"OddHoursModel", "find", "(I)V"⟩, 42)]
theorem lw_r1 : ∀ q ∈ lw_privs_1, lw_okq q := List.forall_mem_cons.mpr ⟨lw_p0, List.forall_mem_cons.mpr ⟨lw_p1, List.forall_mem_cons.mpr ⟨lw_p2, List.forall_mem_cons.mpr ⟨lw_p3, List.forall_mem_cons.mpr ⟨lw_p4, List.forall_mem_cons.mpr ⟨lw_p5, List.forall_mem_cons.mpr ⟨lw_p6, List.forall_mem_cons.mpr ⟨lw_p7, List.forall_mem_cons.mpr ⟨lw_p8, List.forall_mem_cons.mpr ⟨lw_p9, List.forall_mem_cons.mpr ⟨lw_p10, List.forall_mem_cons.mpr ⟨lw_p11, List.forall_mem_cons.mpr ⟨lw_p12, List.forall_mem_cons.mpr ⟨lw_p13, List.forall_mem_cons.mpr ⟨lw_p14, List.forall_mem_cons.mpr ⟨lw_p15, fun _ h => absurd h List.not_mem_nil⟩⟩⟩⟩⟩⟩⟩⟩⟩⟩⟩⟩⟩⟩⟩⟩
theorem lw_p16 : lw_okq (⟨"OddHoursModel", "say", "(III)I"⟩, 42) := ⟨⟨by decide +kernel, by decide +kernel⟩, List.mem_of_getElem? (i := 799) (by decide +kernel), List.mem_of_getElem? (i := 1030) (by decide +kernel), List.mem_of_getElem? (i := 1031) (by decide +kernel)⟩
theorem lw_p17 : lw_okq (⟨"OddHoursModel", "offsetAt", "(II)I"⟩, 42) := ⟨⟨by decide +kernel, by decide +kernel⟩, List.mem_of_getElem? (i := 799) (by decide +kernel), List.mem_of_getElem? (i := 1047) (by decide +kernel), List.mem_of_getElem? (i := 1048) (by decide +kernel)⟩
theorem lw_p18 : lw_okq (⟨"OddHoursModel", "isWall", "(I)Z"⟩, 42) := ⟨⟨by decide +kernel, by decide +kernel⟩, List.mem_of_getElem? (i := 799) (by decide +kernel), List.mem_of_getElem? (i := 1055) (by decide +kernel), List.mem_of_getElem? (i := 1056) (by decide +kernel)⟩
theorem lw_p19 : lw_okq (⟨"OddHoursModel", "momentOf", "(III)I"⟩, 42) := ⟨⟨by decide +kernel, by decide +kernel⟩, List.mem_of_getElem? (i := 799) (by decide +kernel), List.mem_of_getElem? (i := 1063) (by decide +kernel), List.mem_of_getElem? (i := 1064) (by decide +kernel)⟩
theorem lw_p20 : lw_okq (⟨"OddHoursModel", "spanEnd", "(II)I"⟩, 42) := ⟨⟨by decide +kernel, by decide +kernel⟩, List.mem_of_getElem? (i := 799) (by decide +kernel), List.mem_of_getElem? (i := 1067) (by decide +kernel), List.mem_of_getElem? (i := 1068) (by decide +kernel)⟩
theorem lw_p21 : lw_okq (⟨"OddHoursModel", "mayStand", "(III)Z"⟩, 42) := ⟨⟨by decide +kernel, by decide +kernel⟩, List.mem_of_getElem? (i := 799) (by decide +kernel), List.mem_of_getElem? (i := 1086) (by decide +kernel), List.mem_of_getElem? (i := 1087) (by decide +kernel)⟩
theorem lw_p22 : lw_okq (⟨"OddHoursModel", "take", "(I)V"⟩, 42) := ⟨⟨by decide +kernel, by decide +kernel⟩, List.mem_of_getElem? (i := 799) (by decide +kernel), List.mem_of_getElem? (i := 1094) (by decide +kernel), List.mem_of_getElem? (i := 1095) (by decide +kernel)⟩
theorem lw_p23 : lw_okq (⟨"OddHoursModel", "mixOf", "()I"⟩, 42) := ⟨⟨by decide +kernel, by decide +kernel⟩, List.mem_of_getElem? (i := 799) (by decide +kernel), List.mem_of_getElem? (i := 1098) (by decide +kernel), List.mem_of_getElem? (i := 1099) (by decide +kernel)⟩
theorem lw_p24 : lw_okq (⟨"OddHoursModel", "fits", "(I)Z"⟩, 42) := ⟨⟨by decide +kernel, by decide +kernel⟩, List.mem_of_getElem? (i := 799) (by decide +kernel), List.mem_of_getElem? (i := 1102) (by decide +kernel), List.mem_of_getElem? (i := 1103) (by decide +kernel)⟩
theorem lw_p25 : lw_okq (⟨"OddHoursModel", "laid", "(I)Z"⟩, 42) := ⟨⟨by decide +kernel, by decide +kernel⟩, List.mem_of_getElem? (i := 799) (by decide +kernel), List.mem_of_getElem? (i := 1106) (by decide +kernel), List.mem_of_getElem? (i := 1107) (by decide +kernel)⟩
theorem lw_p26 : lw_okq (⟨"OddHoursModel", "became", "(II)Z"⟩, 42) := ⟨⟨by decide +kernel, by decide +kernel⟩, List.mem_of_getElem? (i := 799) (by decide +kernel), List.mem_of_getElem? (i := 1110) (by decide +kernel), List.mem_of_getElem? (i := 1111) (by decide +kernel)⟩
theorem lw_p27 : lw_okq (⟨"OddHoursModel", "isTop", "(I)Z"⟩, 42) := ⟨⟨by decide +kernel, by decide +kernel⟩, List.mem_of_getElem? (i := 799) (by decide +kernel), List.mem_of_getElem? (i := 1114) (by decide +kernel), List.mem_of_getElem? (i := 1115) (by decide +kernel)⟩
theorem lw_p28 : lw_okq (⟨"OddHoursModel", "runs", "(I)Z"⟩, 42) := ⟨⟨by decide +kernel, by decide +kernel⟩, List.mem_of_getElem? (i := 799) (by decide +kernel), List.mem_of_getElem? (i := 1127) (by decide +kernel), List.mem_of_getElem? (i := 1128) (by decide +kernel)⟩
theorem lw_p29 : lw_okq (⟨"OddHoursModel", "does", "(II)Z"⟩, 42) := ⟨⟨by decide +kernel, by decide +kernel⟩, List.mem_of_getElem? (i := 799) (by decide +kernel), List.mem_of_getElem? (i := 1131) (by decide +kernel), List.mem_of_getElem? (i := 1132) (by decide +kernel)⟩
theorem lw_p30 : lw_okq (⟨"OddHoursModel", "comesTo", "(J)Z"⟩, 42) := ⟨⟨by decide +kernel, by decide +kernel⟩, List.mem_of_getElem? (i := 799) (by decide +kernel), List.mem_of_getElem? (i := 1135) (by decide +kernel), List.mem_of_getElem? (i := 1136) (by decide +kernel)⟩
theorem lw_p31 : lw_okq (⟨"OddHoursModel", "turned", "(III)I"⟩, 42) := ⟨⟨by decide +kernel, by decide +kernel⟩, List.mem_of_getElem? (i := 799) (by decide +kernel), List.mem_of_getElem? (i := 1143) (by decide +kernel), List.mem_of_getElem? (i := 1144) (by decide +kernel)⟩
def lw_privs_2 : List (MethodName × Nat) := [(⟨"OddHoursModel", "say", "(III)I"⟩, 42), (⟨"OddHoursModel", "offsetAt", "(II)I"⟩, 42), (⟨"OddHoursModel", "isWall", "(I)Z"⟩, 42), (⟨"OddHoursModel", "momentOf", "(III)I"⟩, 42), (⟨"OddHoursModel", "spanEnd", "(II)I"⟩, 42), (⟨"OddHoursModel", "mayStand", "(III)Z"⟩, 42), (⟨"OddHoursModel", "take", "(I)V"⟩, 42), (⟨"OddHoursModel", "mixOf", "()I"⟩, 42), (⟨"OddHoursModel", "fits", "(I)Z"⟩, 42), (⟨"OddHoursModel", "laid", "(I)Z"⟩, 42), (⟨"OddHoursModel", "became", "(II)Z"⟩, 42), (⟨"OddHoursModel", "isTop", "(I)Z"⟩, 42), (⟨"OddHoursModel", "runs", "(I)Z"⟩, 42), (⟨"OddHoursModel", "does", "(II)Z"⟩, 42), (⟨"OddHoursModel", "comesTo", "(J)Z"⟩, 42), (⟨"OddHoursModel", "turned", "(III)I"⟩, 42)]
theorem lw_r2 : ∀ q ∈ lw_privs_2, lw_okq q := List.forall_mem_cons.mpr ⟨lw_p16, List.forall_mem_cons.mpr ⟨lw_p17, List.forall_mem_cons.mpr ⟨lw_p18, List.forall_mem_cons.mpr ⟨lw_p19, List.forall_mem_cons.mpr ⟨lw_p20, List.forall_mem_cons.mpr ⟨lw_p21, List.forall_mem_cons.mpr ⟨lw_p22, List.forall_mem_cons.mpr ⟨lw_p23, List.forall_mem_cons.mpr ⟨lw_p24, List.forall_mem_cons.mpr ⟨lw_p25, List.forall_mem_cons.mpr ⟨lw_p26, List.forall_mem_cons.mpr ⟨lw_p27, List.forall_mem_cons.mpr ⟨lw_p28, List.forall_mem_cons.mpr ⟨lw_p29, List.forall_mem_cons.mpr ⟨lw_p30, List.forall_mem_cons.mpr ⟨lw_p31, fun _ h => absurd h List.not_mem_nil⟩⟩⟩⟩⟩⟩⟩⟩⟩⟩⟩⟩⟩⟩⟩⟩
theorem lw_p32 : lw_okq (⟨"OddHoursModel", "firstFrom", "(III)I"⟩, 42) := ⟨⟨by decide +kernel, by decide +kernel⟩, List.mem_of_getElem? (i := 799) (by decide +kernel), List.mem_of_getElem? (i := 1148) (by decide +kernel), List.mem_of_getElem? (i := 1149) (by decide +kernel)⟩
theorem lw_p33 : lw_okq (⟨"OddHoursModel", "lastAhead", "(II)I"⟩, 42) := ⟨⟨by decide +kernel, by decide +kernel⟩, List.mem_of_getElem? (i := 799) (by decide +kernel), List.mem_of_getElem? (i := 1152) (by decide +kernel), List.mem_of_getElem? (i := 1153) (by decide +kernel)⟩
theorem lw_p34 : lw_okq (⟨"OddHoursModel", "isLaw", "(II)Z"⟩, 42) := ⟨⟨by decide +kernel, by decide +kernel⟩, List.mem_of_getElem? (i := 799) (by decide +kernel), List.mem_of_getElem? (i := 1160) (by decide +kernel), List.mem_of_getElem? (i := 1161) (by decide +kernel)⟩
theorem lw_p35 : lw_okq (⟨"OddHoursModel", "isKept", "(III)Z"⟩, 42) := ⟨⟨by decide +kernel, by decide +kernel⟩, List.mem_of_getElem? (i := 799) (by decide +kernel), List.mem_of_getElem? (i := 1164) (by decide +kernel), List.mem_of_getElem? (i := 1165) (by decide +kernel)⟩
theorem lw_p36 : lw_okq (⟨"OddHoursModel", "wallOf", "(II)I"⟩, 42) := ⟨⟨by decide +kernel, by decide +kernel⟩, List.mem_of_getElem? (i := 799) (by decide +kernel), List.mem_of_getElem? (i := 1168) (by decide +kernel), List.mem_of_getElem? (i := 1169) (by decide +kernel)⟩
theorem lw_p37 : lw_okq (⟨"OddHoursModel", "findOdds", "(II)V"⟩, 42) := ⟨⟨by decide +kernel, by decide +kernel⟩, List.mem_of_getElem? (i := 799) (by decide +kernel), List.mem_of_getElem? (i := 1180) (by decide +kernel), List.mem_of_getElem? (i := 1181) (by decide +kernel)⟩
theorem lw_p38 : lw_okq (⟨"OddHoursModel", "addOdd", "(III)V"⟩, 42) := ⟨⟨by decide +kernel, by decide +kernel⟩, List.mem_of_getElem? (i := 799) (by decide +kernel), List.mem_of_getElem? (i := 1184) (by decide +kernel), List.mem_of_getElem? (i := 1185) (by decide +kernel)⟩
theorem lw_p39 : lw_okq (⟨"OddHoursModel", "sink", "(II)V"⟩, 42) := ⟨⟨by decide +kernel, by decide +kernel⟩, List.mem_of_getElem? (i := 799) (by decide +kernel), List.mem_of_getElem? (i := 1188) (by decide +kernel), List.mem_of_getElem? (i := 1189) (by decide +kernel)⟩
theorem lw_p40 : lw_okq (⟨"OddHoursModel", "firstBroken", "(II)I"⟩, 42) := ⟨⟨by decide +kernel, by decide +kernel⟩, List.mem_of_getElem? (i := 799) (by decide +kernel), List.mem_of_getElem? (i := 1203) (by decide +kernel), List.mem_of_getElem? (i := 1204) (by decide +kernel)⟩
theorem lw_p41 : lw_okq (⟨"OddHoursModel", "isRight", "(II)Z"⟩, 42) := ⟨⟨by decide +kernel, by decide +kernel⟩, List.mem_of_getElem? (i := 799) (by decide +kernel), List.mem_of_getElem? (i := 1212) (by decide +kernel), List.mem_of_getElem? (i := 1213) (by decide +kernel)⟩
theorem lw_p42 : lw_okq (⟨"OddHoursModel", "mendsOne", "(III)Z"⟩, 42) := ⟨⟨by decide +kernel, by decide +kernel⟩, List.mem_of_getElem? (i := 799) (by decide +kernel), List.mem_of_getElem? (i := 1216) (by decide +kernel), List.mem_of_getElem? (i := 1217) (by decide +kernel)⟩
theorem lw_p43 : lw_okq (⟨"OddHoursModel", "changeLine", "(II)Z"⟩, 42) := ⟨⟨by decide +kernel, by decide +kernel⟩, List.mem_of_getElem? (i := 799) (by decide +kernel), List.mem_of_getElem? (i := 1220) (by decide +kernel), List.mem_of_getElem? (i := 1221) (by decide +kernel)⟩
theorem lw_p44 : lw_okq (⟨"OddHoursModel", "mendsTwo", "(III)Z"⟩, 42) := ⟨⟨by decide +kernel, by decide +kernel⟩, List.mem_of_getElem? (i := 799) (by decide +kernel), List.mem_of_getElem? (i := 1224) (by decide +kernel), List.mem_of_getElem? (i := 1225) (by decide +kernel)⟩
theorem lw_p45 : lw_okq (⟨"OddHoursModel", "keepMended", "()V"⟩, 42) := ⟨⟨by decide +kernel, by decide +kernel⟩, List.mem_of_getElem? (i := 799) (by decide +kernel), List.mem_of_getElem? (i := 1228) (by decide +kernel), List.mem_of_getElem? (i := 1229) (by decide +kernel)⟩
def lw_privs_3 : List (MethodName × Nat) := [(⟨"OddHoursModel", "firstFrom", "(III)I"⟩, 42), (⟨"OddHoursModel", "lastAhead", "(II)I"⟩, 42), (⟨"OddHoursModel", "isLaw", "(II)Z"⟩, 42), (⟨"OddHoursModel", "isKept", "(III)Z"⟩, 42), (⟨"OddHoursModel", "wallOf", "(II)I"⟩, 42), (⟨"OddHoursModel", "findOdds", "(II)V"⟩, 42), (⟨"OddHoursModel", "addOdd", "(III)V"⟩, 42), (⟨"OddHoursModel", "sink", "(II)V"⟩, 42), (⟨"OddHoursModel", "firstBroken", "(II)I"⟩, 42), (⟨"OddHoursModel", "isRight", "(II)Z"⟩, 42), (⟨"OddHoursModel", "mendsOne", "(III)Z"⟩, 42), (⟨"OddHoursModel", "changeLine", "(II)Z"⟩, 42), (⟨"OddHoursModel", "mendsTwo", "(III)Z"⟩, 42), (⟨"OddHoursModel", "keepMended", "()V"⟩, 42)]
theorem lw_r3 : ∀ q ∈ lw_privs_3, lw_okq q := List.forall_mem_cons.mpr ⟨lw_p32, List.forall_mem_cons.mpr ⟨lw_p33, List.forall_mem_cons.mpr ⟨lw_p34, List.forall_mem_cons.mpr ⟨lw_p35, List.forall_mem_cons.mpr ⟨lw_p36, List.forall_mem_cons.mpr ⟨lw_p37, List.forall_mem_cons.mpr ⟨lw_p38, List.forall_mem_cons.mpr ⟨lw_p39, List.forall_mem_cons.mpr ⟨lw_p40, List.forall_mem_cons.mpr ⟨lw_p41, List.forall_mem_cons.mpr ⟨lw_p42, List.forall_mem_cons.mpr ⟨lw_p43, List.forall_mem_cons.mpr ⟨lw_p44, List.forall_mem_cons.mpr ⟨lw_p45, fun _ h => absurd h List.not_mem_nil⟩⟩⟩⟩⟩⟩⟩⟩⟩⟩⟩⟩⟩⟩
def lw_privs : List (MethodName × Nat) := lw_privs_1 ++ (lw_privs_2 ++ (lw_privs_3))
def lw_tbl : List Cond := k2_sels lw_privs ++ tables_1
theorem lw_privs_ok : ∀ q ∈ lw_privs, lw_okq q := by
  show ∀ q ∈ lw_privs_1 ++ (lw_privs_2 ++ (lw_privs_3)), lw_okq q
  exact List.forall_mem_append.mpr ⟨lw_r1, List.forall_mem_append.mpr ⟨lw_r2, lw_r3⟩⟩
end
section
def TX0 : u_T := fun k => match k with
  | 0 => ("OddHours$Calendar", "monthDays", "[I", true)
  | 1 => ("OddHours$Calendar", "monthStart", "[I", true)
  | 2 => ("OddHours$Calendar", "leapDays", "[I", true)
  | 3 => ("OddHours$Calendar", "yearStart", "[I", true)
  | 4 => ("OddHours$Calendar", "leapEach", "I", false)
  | 5 => ("OddHours$Calendar", "leapNever", "I", false)
  | 6 => ("OddHours$Calendar", "leapMonth", "I", false)
  | 7 => ("OddHours$Calendar", "weekDays", "I", false)
  | _ => ("OddHours$Calendar", "firstWeekday", "I", false)
def tyX0 : Nat → FieldType := fun k => match k with
  | 0 => .array .int
  | 1 => .array .int
  | 2 => .array .int
  | 3 => .array .int
  | 4 => .int
  | 5 => .int
  | 6 => .int
  | 7 => .int
  | _ => .int
def mkX0 : Nat → Bool := fun k => match k with
  | 0 => true
  | 1 => true
  | 2 => true
  | 3 => true
  | 4 => false
  | 5 => false
  | 6 => false
  | 7 => false
  | _ => false
theorem nmX0 : ∀ a, a < 9 → ∀ b, b < 9 → a ≠ b → (TX0 a).2.1 ≠ (TX0 b).2.1 := by decide +kernel
theorem tyX0_ok : ∀ k, k < 9 → parseFieldDescriptor (TX0 k).2.2.1 = some (tyX0 k) := by decide +kernel
def TX1 : u_T := fun k => match k with
  | 0 => ("OddHours$Judge", "calendar", "LOddHours$Calendar;", true)
  | 1 => ("OddHours$Judge", "zones", "LOddHours$Zones;", true)
  | 2 => ("OddHours$Judge", "machine", "LOddHours$Machine;", true)
  | 3 => ("OddHours$Judge", "odds", "LOddHours$Odds;", true)
  | 4 => ("OddHours$Judge", "law", "I", false)
  | 5 => ("OddHours$Judge", "lawZone", "I", false)
  | 6 => ("OddHours$Judge", "number", "I", false)
  | _ => ("OddHours$Judge", "suspect", "I", false)
def tyX1 : Nat → FieldType := fun k => match k with
  | 0 => .object "OddHours$Calendar"
  | 1 => .object "OddHours$Zones"
  | 2 => .object "OddHours$Machine"
  | 3 => .object "OddHours$Odds"
  | 4 => .int
  | 5 => .int
  | 6 => .int
  | _ => .int
def mkX1 : Nat → Bool := fun k => match k with
  | 0 => true
  | 1 => true
  | 2 => true
  | 3 => true
  | 4 => false
  | 5 => false
  | 6 => false
  | _ => false
theorem nmX1 : ∀ a, a < 8 → ∀ b, b < 8 → a ≠ b → (TX1 a).2.1 ≠ (TX1 b).2.1 := by decide +kernel
theorem tyX1_ok : ∀ k, k < 8 → parseFieldDescriptor (TX1 k).2.2.1 = some (tyX1 k) := by decide +kernel
def TX2 : u_T := fun k => match k with
  | 0 => ("OddHours$Machine", "calendar", "LOddHours$Calendar;", true)
  | 1 => ("OddHours$Machine", "zones", "LOddHours$Zones;", true)
  | _ => ("OddHours$Machine", "pile", "[I", true)
def tyX2 : Nat → FieldType := fun k => match k with
  | 0 => .object "OddHours$Calendar"
  | 1 => .object "OddHours$Zones"
  | _ => .array .int
def mkX2 : Nat → Bool := fun k => match k with
  | 0 => true
  | 1 => true
  | _ => true
theorem nmX2 : ∀ a, a < 3 → ∀ b, b < 3 → a ≠ b → (TX2 a).2.1 ≠ (TX2 b).2.1 := by decide +kernel
theorem tyX2_ok : ∀ k, k < 3 → parseFieldDescriptor (TX2 k).2.2.1 = some (tyX2 k) := by decide +kernel
def TX3 : u_T := fun k => match k with
  | 0 => ("OddHours$Mender", "zones", "LOddHours$Zones;", true)
  | 1 => ("OddHours$Mender", "judge", "LOddHours$Judge;", true)
  | 2 => ("OddHours$Mender", "trial", "LOddHours$Program;", true)
  | 3 => ("OddHours$Mender", "found", "LOddHours$Program;", true)
  | 4 => ("OddHours$Mender", "editLines", "[I", true)
  | 5 => ("OddHours$Mender", "editOps", "[I", true)
  | 6 => ("OddHours$Mender", "editXs", "[I", true)
  | 7 => ("OddHours$Mender", "editYs", "[I", true)
  | _ => ("OddHours$Mender", "edits", "I", false)
def tyX3 : Nat → FieldType := fun k => match k with
  | 0 => .object "OddHours$Zones"
  | 1 => .object "OddHours$Judge"
  | 2 => .object "OddHours$Program"
  | 3 => .object "OddHours$Program"
  | 4 => .array .int
  | 5 => .array .int
  | 6 => .array .int
  | 7 => .array .int
  | _ => .int
def mkX3 : Nat → Bool := fun k => match k with
  | 0 => true
  | 1 => true
  | 2 => true
  | 3 => true
  | 4 => true
  | 5 => true
  | 6 => true
  | 7 => true
  | _ => false
theorem nmX3 : ∀ a, a < 9 → ∀ b, b < 9 → a ≠ b → (TX3 a).2.1 ≠ (TX3 b).2.1 := by decide +kernel
theorem tyX3_ok : ∀ k, k < 9 → parseFieldDescriptor (TX3 k).2.2.1 = some (tyX3 k) := by decide +kernel
def TX4 : u_T := fun k => match k with
  | 0 => ("OddHours$Odds", "marks", "[J", true)
  | 1 => ("OddHours$Odds", "list", "[I", true)
  | 2 => ("OddHours$Odds", "count", "I", false)
  | 3 => ("OddHours$Odds", "from", "I", false)
  | 4 => ("OddHours$Odds", "to", "I", false)
  | _ => ("OddHours$Odds", "isHeld", "Z", false)
def tyX4 : Nat → FieldType := fun k => match k with
  | 0 => .array .long
  | 1 => .array .int
  | 2 => .int
  | 3 => .int
  | 4 => .int
  | _ => .boolean
def mkX4 : Nat → Bool := fun k => match k with
  | 0 => true
  | 1 => true
  | 2 => false
  | 3 => false
  | 4 => false
  | _ => false
theorem nmX4 : ∀ a, a < 6 → ∀ b, b < 6 → a ≠ b → (TX4 a).2.1 ≠ (TX4 b).2.1 := by decide +kernel
theorem tyX4_ok : ∀ k, k < 6 → parseFieldDescriptor (TX4 k).2.2.1 = some (tyX4 k) := by decide +kernel
def TX5 : u_T := fun k => match k with
  | 0 => ("OddHours$Program", "ops", "[I", true)
  | 1 => ("OddHours$Program", "xs", "[I", true)
  | 2 => ("OddHours$Program", "ys", "[I", true)
  | 3 => ("OddHours$Program", "tops", "[I", true)
  | 4 => ("OddHours$Program", "kinds", "[I", true)
  | 5 => ("OddHours$Program", "height", "I", false)
  | 6 => ("OddHours$Program", "size", "I", false)
  | 7 => ("OddHours$Program", "misfit", "I", false)
  | _ => ("OddHours$Program", "answerKind", "I", false)
def tyX5 : Nat → FieldType := fun k => match k with
  | 0 => .array .int
  | 1 => .array .int
  | 2 => .array .int
  | 3 => .array .int
  | 4 => .array .int
  | 5 => .int
  | 6 => .int
  | 7 => .int
  | _ => .int
def mkX5 : Nat → Bool := fun k => match k with
  | 0 => true
  | 1 => true
  | 2 => true
  | 3 => true
  | 4 => true
  | 5 => false
  | 6 => false
  | 7 => false
  | _ => false
theorem nmX5 : ∀ a, a < 9 → ∀ b, b < 9 → a ≠ b → (TX5 a).2.1 ≠ (TX5 b).2.1 := by decide +kernel
theorem tyX5_ok : ∀ k, k < 9 → parseFieldDescriptor (TX5 k).2.2.1 = some (tyX5 k) := by decide +kernel
def TX6 : u_T := fun k => match k with
  | 0 => ("OddHours$Zone", "toldOn", "[I", true)
  | 1 => ("OddHours$Zone", "ruleOffset", "[I", true)
  | 2 => ("OddHours$Zone", "ruleWalls", "[I", true)
  | 3 => ("OddHours$Zone", "yearWalls", "[I", true)
  | 4 => ("OddHours$Zone", "yearOffsets", "[I", true)
  | 5 => ("OddHours$Zone", "starts", "[I", true)
  | 6 => ("OddHours$Zone", "ends", "[I", true)
  | 7 => ("OddHours$Zone", "offsets", "[I", true)
  | 8 => ("OddHours$Zone", "rules", "I", false)
  | 9 => ("OddHours$Zone", "rulesTaken", "I", false)
  | _ => ("OddHours$Zone", "changes", "I", false)
def tyX6 : Nat → FieldType := fun k => match k with
  | 0 => .array .int
  | 1 => .array .int
  | 2 => .array .int
  | 3 => .array .int
  | 4 => .array .int
  | 5 => .array .int
  | 6 => .array .int
  | 7 => .array .int
  | 8 => .int
  | 9 => .int
  | _ => .int
def mkX6 : Nat → Bool := fun k => match k with
  | 0 => true
  | 1 => true
  | 2 => true
  | 3 => true
  | 4 => true
  | 5 => true
  | 6 => true
  | 7 => true
  | 8 => false
  | 9 => false
  | _ => false
theorem nmX6 : ∀ a, a < 11 → ∀ b, b < 11 → a ≠ b → (TX6 a).2.1 ≠ (TX6 b).2.1 := by decide +kernel
theorem tyX6_ok : ∀ k, k < 11 → parseFieldDescriptor (TX6 k).2.2.1 = some (tyX6 k) := by decide +kernel
def TX7 : u_T := fun k => match k with
  | 0 => ("OddHours$Zones", "all", "[LOddHours$Zone;", true)
  | _ => ("OddHours$Zones", "size", "I", false)
def tyX7 : Nat → FieldType := fun k => match k with
  | 0 => .array (.object "OddHours$Zone")
  | _ => .int
def mkX7 : Nat → Bool := fun k => match k with
  | 0 => true
  | _ => false
theorem nmX7 : ∀ a, a < 2 → ∀ b, b < 2 → a ≠ b → (TX7 a).2.1 ≠ (TX7 b).2.1 := by decide +kernel
theorem tyX7_ok : ∀ k, k < 2 → parseFieldDescriptor (TX7 k).2.2.1 = some (tyX7 k) := by decide +kernel
def TX8 : u_T := fun k => match k with
  | 0 => ("OddHours", "calendar", "LOddHours$Calendar;", true)
  | 1 => ("OddHours", "zones", "LOddHours$Zones;", true)
  | 2 => ("OddHours", "programs", "[LOddHours$Program;", true)
  | 3 => ("OddHours", "judge", "LOddHours$Judge;", true)
  | 4 => ("OddHours", "odds", "LOddHours$Odds;", true)
  | 5 => ("OddHours", "mender", "LOddHours$Mender;", true)
  | 6 => ("OddHours", "toldToday", "I", false)
  | _ => ("OddHours", "knownOn", "I", false)
def tyX8 : Nat → FieldType := fun k => match k with
  | 0 => .object "OddHours$Calendar"
  | 1 => .object "OddHours$Zones"
  | 2 => .array (.object "OddHours$Program")
  | 3 => .object "OddHours$Judge"
  | 4 => .object "OddHours$Odds"
  | 5 => .object "OddHours$Mender"
  | 6 => .int
  | _ => .int
def mkX8 : Nat → Bool := fun k => match k with
  | 0 => true
  | 1 => true
  | 2 => true
  | 3 => true
  | 4 => true
  | 5 => true
  | 6 => false
  | _ => false
theorem nmX8 : ∀ a, a < 8 → ∀ b, b < 8 → a ≠ b → (TX8 a).2.1 ≠ (TX8 b).2.1 := by decide +kernel
theorem tyX8_ok : ∀ k, k < 8 → parseFieldDescriptor (TX8 k).2.2.1 = some (tyX8 k) := by decide +kernel
def TX9 : u_T := fun k => match k with
  | 0 => ("OddHoursModel", "monthDays", "[I", true)
  | 1 => ("OddHoursModel", "leapOf", "I", false)
  | 2 => ("OddHoursModel", "leapNot", "I", false)
  | 3 => ("OddHoursModel", "leapMonth", "I", false)
  | 4 => ("OddHoursModel", "week", "I", false)
  | 5 => ("OddHoursModel", "firstWeekday", "I", false)
  | 6 => ("OddHoursModel", "monthFirst", "[I", true)
  | 7 => ("OddHoursModel", "isCounted", "Z", false)
  | 8 => ("OddHoursModel", "offset", "[I", true)
  | 9 => ("OddHoursModel", "ruleFrom", "[I", true)
  | 10 => ("OddHoursModel", "ruleTo", "[I", true)
  | 11 => ("OddHoursModel", "ruleOn", "[I", true)
  | 12 => ("OddHoursModel", "ruleAt", "[I", true)
  | 13 => ("OddHoursModel", "ruleBecomes", "[I", true)
  | 14 => ("OddHoursModel", "ruleTold", "[I", true)
  | 15 => ("OddHoursModel", "ruleMany", "[I", true)
  | 16 => ("OddHoursModel", "zones", "I", false)
  | 17 => ("OddHoursModel", "today", "I", false)
  | 18 => ("OddHoursModel", "known", "I", false)
  | 19 => ("OddHoursModel", "isFound", "[Z", true)
  | 20 => ("OddHoursModel", "spanFrom", "[I", true)
  | 21 => ("OddHoursModel", "spanOffset", "[I", true)
  | 22 => ("OddHoursModel", "spans", "[I", true)
  | 23 => ("OddHoursModel", "saidWall", "[I", true)
  | 24 => ("OddHoursModel", "saidOffset", "[I", true)
  | 25 => ("OddHoursModel", "op", "[I", true)
  | 26 => ("OddHoursModel", "lineX", "[I", true)
  | 27 => ("OddHoursModel", "lineY", "[I", true)
  | 28 => ("OddHoursModel", "lines", "[I", true)
  | 29 => ("OddHoursModel", "o", "[I", true)
  | 30 => ("OddHoursModel", "x", "[I", true)
  | 31 => ("OddHoursModel", "y", "[I", true)
  | 32 => ("OddHoursModel", "n", "I", false)
  | 33 => ("OddHoursModel", "kinds", "[I", true)
  | 34 => ("OddHoursModel", "values", "[I", true)
  | 35 => ("OddHoursModel", "pile", "I", false)
  | 36 => ("OddHoursModel", "mendedOp", "[I", true)
  | 37 => ("OddHoursModel", "mendedX", "[I", true)
  | 38 => ("OddHoursModel", "mendedY", "[I", true)
  | 39 => ("OddHoursModel", "mendedMany", "I", false)
  | 40 => ("OddHoursModel", "odds", "[I", true)
  | _ => ("OddHoursModel", "oddMany", "I", false)
def tyX9 : Nat → FieldType := fun k => match k with
  | 0 => .array .int
  | 1 => .int
  | 2 => .int
  | 3 => .int
  | 4 => .int
  | 5 => .int
  | 6 => .array .int
  | 7 => .boolean
  | 8 => .array .int
  | 9 => .array .int
  | 10 => .array .int
  | 11 => .array .int
  | 12 => .array .int
  | 13 => .array .int
  | 14 => .array .int
  | 15 => .array .int
  | 16 => .int
  | 17 => .int
  | 18 => .int
  | 19 => .array .boolean
  | 20 => .array .int
  | 21 => .array .int
  | 22 => .array .int
  | 23 => .array .int
  | 24 => .array .int
  | 25 => .array .int
  | 26 => .array .int
  | 27 => .array .int
  | 28 => .array .int
  | 29 => .array .int
  | 30 => .array .int
  | 31 => .array .int
  | 32 => .int
  | 33 => .array .int
  | 34 => .array .int
  | 35 => .int
  | 36 => .array .int
  | 37 => .array .int
  | 38 => .array .int
  | 39 => .int
  | 40 => .array .int
  | _ => .int
def mkX9 : Nat → Bool := fun k => match k with
  | 0 => true
  | 1 => false
  | 2 => false
  | 3 => false
  | 4 => false
  | 5 => false
  | 6 => true
  | 7 => false
  | 8 => true
  | 9 => true
  | 10 => true
  | 11 => true
  | 12 => true
  | 13 => true
  | 14 => true
  | 15 => true
  | 16 => false
  | 17 => false
  | 18 => false
  | 19 => true
  | 20 => true
  | 21 => true
  | 22 => true
  | 23 => true
  | 24 => true
  | 25 => true
  | 26 => true
  | 27 => true
  | 28 => true
  | 29 => true
  | 30 => true
  | 31 => true
  | 32 => false
  | 33 => true
  | 34 => true
  | 35 => false
  | 36 => true
  | 37 => true
  | 38 => true
  | 39 => false
  | 40 => true
  | _ => false
theorem nmX9 : ∀ a, a < 42 → ∀ b, b < 42 → a ≠ b → (TX9 a).2.1 ≠ (TX9 b).2.1 := by decide +kernel
theorem tyX9_ok : ∀ k, k < 42 → parseFieldDescriptor (TX9 k).2.2.1 = some (tyX9 k) := by decide +kernel
def clR : Nat → String := fun ci => match ci with
  | 0 => "OddHours$Calendar"
  | 1 => "OddHours$Judge"
  | 2 => "OddHours$Machine"
  | 3 => "OddHours$Mender"
  | 4 => "OddHours$Odds"
  | 5 => "OddHours$Program"
  | 6 => "OddHours$Zone"
  | 7 => "OddHours$Zones"
  | 8 => "OddHours"
  | _ => "OddHoursModel"
def clT : Nat → u_T := fun ci => match ci with
  | 0 => TX0
  | 1 => TX1
  | 2 => TX2
  | 3 => TX3
  | 4 => TX4
  | 5 => TX5
  | 6 => TX6
  | 7 => TX7
  | 8 => TX8
  | _ => TX9
def clN : Nat → Nat := fun ci => match ci with
  | 0 => 9
  | 1 => 8
  | 2 => 3
  | 3 => 9
  | 4 => 6
  | 5 => 9
  | 6 => 11
  | 7 => 2
  | 8 => 8
  | _ => 42
def clY : Nat → Nat → FieldType := fun ci => match ci with
  | 0 => tyX0
  | 1 => tyX1
  | 2 => tyX2
  | 3 => tyX3
  | 4 => tyX4
  | 5 => tyX5
  | 6 => tyX6
  | 7 => tyX7
  | 8 => tyX8
  | _ => tyX9
def clM : Nat → Nat → Bool := fun ci => match ci with
  | 0 => mkX0
  | 1 => mkX1
  | 2 => mkX2
  | 3 => mkX3
  | 4 => mkX4
  | 5 => mkX5
  | 6 => mkX6
  | 7 => mkX7
  | 8 => mkX8
  | _ => mkX9
abbrev classes : List vw_C := [("OddHours$Calendar", TX0, 9), ("OddHours$Judge", TX1, 8), ("OddHours$Machine", TX2, 3), ("OddHours$Mender", TX3, 9), ("OddHours$Odds", TX4, 6), ("OddHours$Program", TX5, 9), ("OddHours$Zone", TX6, 11), ("OddHours$Zones", TX7, 2), ("OddHours", TX8, 8), ("OddHoursModel", TX9, 42)]
theorem cl_ok {ci : Nat} (h : ci < 10) : classes[ci]? = some (clR ci, clT ci, clN ci) := by
  match ci, h with
  | 0, _ => rfl
  | 1, _ => rfl
  | 2, _ => rfl
  | 3, _ => rfl
  | 4, _ => rfl
  | 5, _ => rfl
  | 6, _ => rfl
  | 7, _ => rfl
  | 8, _ => rfl
  | 9, _ => rfl
theorem cl_ty {ci : Nat} (h : ci < 10) : ∀ k, k < clN ci → parseFieldDescriptor (clT ci k).2.2.1 = some (clY ci k) := by
  match ci, h with
  | 0, _ => exact tyX0_ok
  | 1, _ => exact tyX1_ok
  | 2, _ => exact tyX2_ok
  | 3, _ => exact tyX3_ok
  | 4, _ => exact tyX4_ok
  | 5, _ => exact tyX5_ok
  | 6, _ => exact tyX6_ok
  | 7, _ => exact tyX7_ok
  | 8, _ => exact tyX8_ok
  | 9, _ => exact tyX9_ok
theorem cl_nm {ci : Nat} (h : ci < 10) : ∀ a, a < clN ci → ∀ b, b < clN ci → a ≠ b → (clT ci a).2.1 ≠ (clT ci b).2.1 := by
  match ci, h with
  | 0, _ => exact nmX0
  | 1, _ => exact nmX1
  | 2, _ => exact nmX2
  | 3, _ => exact nmX3
  | 4, _ => exact nmX4
  | 5, _ => exact nmX5
  | 6, _ => exact nmX6
  | 7, _ => exact nmX7
  | 8, _ => exact nmX8
  | 9, _ => exact nmX9
def tb : List Cond := lw_tbl.filter goodWord
theorem inX0 : ∀ w ∈ u_ws "OddHours$Calendar" TX0 9, w ∈ tb := by decide +kernel
theorem inX1 : ∀ w ∈ u_ws "OddHours$Judge" TX1 8, w ∈ tb := by decide +kernel
theorem inX2 : ∀ w ∈ u_ws "OddHours$Machine" TX2 3, w ∈ tb := by decide +kernel
theorem inX3 : ∀ w ∈ u_ws "OddHours$Mender" TX3 9, w ∈ tb := by decide +kernel
theorem inX4 : ∀ w ∈ u_ws "OddHours$Odds" TX4 6, w ∈ tb := by decide +kernel
theorem inX5 : ∀ w ∈ u_ws "OddHours$Program" TX5 9, w ∈ tb := by decide +kernel
theorem inX6 : ∀ w ∈ u_ws "OddHours$Zone" TX6 11, w ∈ tb := by decide +kernel
theorem inX7 : ∀ w ∈ u_ws "OddHours$Zones" TX7 2, w ∈ tb := by decide +kernel
theorem inX8 : ∀ w ∈ u_ws "OddHours" TX8 8, w ∈ tb := by decide +kernel
theorem inX9 : ∀ w ∈ u_ws "OddHoursModel" TX9 42, w ∈ tb := by decide +kernel
theorem cl_in {ci : Nat} (h : ci < 10) : ∀ w ∈ u_ws (clR ci) (clT ci) (clN ci), w ∈ tb := by
  match ci, h with
  | 0, _ => exact inX0
  | 1, _ => exact inX1
  | 2, _ => exact inX2
  | 3, _ => exact inX3
  | 4, _ => exact inX4
  | 5, _ => exact inX5
  | 6, _ => exact inX6
  | 7, _ => exact inX7
  | 8, _ => exact inX8
  | 9, _ => exact inX9
abbrev cX0_init : ByteArray := prog_2_method_1_code
abbrev yX0_init : MethodName := ⟨"OddHours$Calendar", "<init>", "()V"⟩
abbrev cX0_reckon : ByteArray := prog_2_method_2_code
abbrev yX0_reckon : MethodName := ⟨"OddHours$Calendar", "reckon", "()V"⟩
abbrev cX0_days : ByteArray := prog_2_method_3_code
abbrev yX0_days : MethodName := ⟨"OddHours$Calendar", "days", "()I"⟩
abbrev cX0_has : ByteArray := prog_2_method_4_code
abbrev yX0_has : MethodName := ⟨"OddHours$Calendar", "has", "(I)Z"⟩
abbrev cX0_hasWall : ByteArray := prog_2_method_5_code
abbrev yX0_hasWall : MethodName := ⟨"OddHours$Calendar", "hasWall", "(I)Z"⟩
abbrev cX0_isWeekday : ByteArray := prog_2_method_6_code
abbrev yX0_isWeekday : MethodName := ⟨"OddHours$Calendar", "isWeekday", "(I)Z"⟩
abbrev cX0_weekdayOf : ByteArray := prog_2_method_7_code
abbrev yX0_weekdayOf : MethodName := ⟨"OddHours$Calendar", "weekdayOf", "(I)I"⟩
abbrev cX0_daysIn : ByteArray := prog_2_method_8_code
abbrev yX0_daysIn : MethodName := ⟨"OddHours$Calendar", "daysIn", "(II)I"⟩
abbrev cX0_firstDay : ByteArray := prog_2_method_9_code
abbrev yX0_firstDay : MethodName := ⟨"OddHours$Calendar", "firstDay", "(II)I"⟩
abbrev cX0_yearOf : ByteArray := prog_2_method_10_code
abbrev yX0_yearOf : MethodName := ⟨"OddHours$Calendar", "yearOf", "(I)I"⟩
abbrev cX0_monthOf : ByteArray := prog_2_method_11_code
abbrev yX0_monthOf : MethodName := ⟨"OddHours$Calendar", "monthOf", "(II)I"⟩
abbrev cX0_monthsOn : ByteArray := prog_2_method_12_code
abbrev yX0_monthsOn : MethodName := ⟨"OddHours$Calendar", "monthsOn", "(III)I"⟩
abbrev cX0_nthWeekday : ByteArray := prog_2_method_13_code
abbrev yX0_nthWeekday : MethodName := ⟨"OddHours$Calendar", "nthWeekday", "(IIII)I"⟩
abbrev cX1_init : ByteArray := prog_3_method_1_code
abbrev yX1_init : MethodName := ⟨"OddHours$Judge", "<init>", "(LOddHours$Calendar;LOddHours$Zones;LOddHours$Odds;)V"⟩
abbrev cX1_hear : ByteArray := prog_3_method_2_code
abbrev yX1_hear : MethodName := ⟨"OddHours$Judge", "hear", "(III)V"⟩
abbrev cX1_holds : ByteArray := prog_3_method_3_code
abbrev yX1_holds : MethodName := ⟨"OddHours$Judge", "holds", "(III)Z"⟩
abbrev cX1_isAtMinute : ByteArray := prog_3_method_4_code
abbrev yX1_isAtMinute : MethodName := ⟨"OddHours$Judge", "isAtMinute", "(I)Z"⟩
abbrev cX1_haveSameWeekday : ByteArray := prog_3_method_5_code
abbrev yX1_haveSameWeekday : MethodName := ⟨"OddHours$Judge", "haveSameWeekday", "(II)Z"⟩
abbrev cX1_lawWall : ByteArray := prog_3_method_6_code
abbrev yX1_lawWall : MethodName := ⟨"OddHours$Judge", "lawWall", "(I)I"⟩
abbrev cX1_firstBroken : ByteArray := prog_3_method_7_code
abbrev yX1_firstBroken : MethodName := ⟨"OddHours$Judge", "firstBroken", "(LOddHours$Program;)I"⟩
abbrev cX1_isRight : ByteArray := prog_3_method_8_code
abbrev yX1_isRight : MethodName := ⟨"OddHours$Judge", "isRight", "(LOddHours$Program;)Z"⟩
abbrev cX2_init : ByteArray := prog_4_method_1_code
abbrev yX2_init : MethodName := ⟨"OddHours$Machine", "<init>", "(LOddHours$Calendar;LOddHours$Zones;)V"⟩
abbrev cX2_answerOf : ByteArray := prog_4_method_2_code
abbrev yX2_answerOf : MethodName := ⟨"OddHours$Machine", "answerOf", "(LOddHours$Program;I)I"⟩
abbrev cX2_joined : ByteArray := prog_4_method_3_code
abbrev yX2_joined : MethodName := ⟨"OddHours$Machine", "joined", "(LOddHours$Program;III)I"⟩
abbrev cX2_changed : ByteArray := prog_4_method_4_code
abbrev yX2_changed : MethodName := ⟨"OddHours$Machine", "changed", "(LOddHours$Program;II)I"⟩
abbrev cX2_isWithin : ByteArray := prog_4_method_5_code
abbrev yX2_isWithin : MethodName := ⟨"OddHours$Machine", "isWithin", "(II)Z"⟩
abbrev cX3_init : ByteArray := prog_5_method_1_code
abbrev yX3_init : MethodName := ⟨"OddHours$Mender", "<init>", "(LOddHours$Zones;LOddHours$Judge;)V"⟩
abbrev cX3_search : ByteArray := prog_5_method_2_code
abbrev yX3_search : MethodName := ⟨"OddHours$Mender", "search", "(LOddHours$Program;)I"⟩
abbrev cX3_keepTrial : ByteArray := prog_5_method_3_code
abbrev yX3_keepTrial : MethodName := ⟨"OddHours$Mender", "keepTrial", "(I)I"⟩
abbrev cX3_put : ByteArray := prog_5_method_4_code
abbrev yX3_put : MethodName := ⟨"OddHours$Mender", "put", "(I)V"⟩
abbrev cX3_undo : ByteArray := prog_5_method_5_code
abbrev yX3_undo : MethodName := ⟨"OddHours$Mender", "undo", "(LOddHours$Program;I)V"⟩
abbrev cX3_listEdits : ByteArray := prog_5_method_6_code
abbrev yX3_listEdits : MethodName := ⟨"OddHours$Mender", "listEdits", "(LOddHours$Program;)V"⟩
abbrev cX3_addZones : ByteArray := prog_5_method_7_code
abbrev yX3_addZones : MethodName := ⟨"OddHours$Mender", "addZones", "(IIII)V"⟩
abbrev cX3_addEndings : ByteArray := prog_5_method_8_code
abbrev yX3_addEndings : MethodName := ⟨"OddHours$Mender", "addEndings", "(III)V"⟩
abbrev cX3_addEdit : ByteArray := prog_5_method_9_code
abbrev yX3_addEdit : MethodName := ⟨"OddHours$Mender", "addEdit", "(IIII)V"⟩
abbrev cX4_init : ByteArray := prog_6_method_1_code
abbrev yX4_init : MethodName := ⟨"OddHours$Odds", "<init>", "()V"⟩
abbrev cX4_forget : ByteArray := prog_6_method_2_code
abbrev yX4_forget : MethodName := ⟨"OddHours$Odds", "forget", "()V"⟩
abbrev cX4_gather : ByteArray := prog_6_method_3_code
abbrev yX4_gather : MethodName := ⟨"OddHours$Odds", "gather", "(IILOddHours$Zones;I)V"⟩
abbrev cX4_mark : ByteArray := prog_6_method_4_code
abbrev yX4_mark : MethodName := ⟨"OddHours$Odds", "mark", "(I)V"⟩
abbrev cX4_markChanges : ByteArray := prog_6_method_5_code
abbrev yX4_markChanges : MethodName := ⟨"OddHours$Odds", "markChanges", "(LOddHours$Zone;)V"⟩
abbrev cX4_markDays : ByteArray := prog_6_method_6_code
abbrev yX4_markDays : MethodName := ⟨"OddHours$Odds", "markDays", "(LOddHours$Zone;I)V"⟩
abbrev cX4_listMarks : ByteArray := prog_6_method_7_code
abbrev yX4_listMarks : MethodName := ⟨"OddHours$Odds", "listMarks", "(I)V"⟩
abbrev cX5_init : ByteArray := prog_7_method_1_code
abbrev yX5_init : MethodName := ⟨"OddHours$Program", "<init>", "()V"⟩
abbrev cX5_empty : ByteArray := prog_7_method_2_code
abbrev yX5_empty : MethodName := ⟨"OddHours$Program", "empty", "()V"⟩
abbrev cX5_append : ByteArray := prog_7_method_3_code
abbrev yX5_append : MethodName := ⟨"OddHours$Program", "append", "(III)V"⟩
abbrev cX5_replace : ByteArray := prog_7_method_4_code
abbrev yX5_replace : MethodName := ⟨"OddHours$Program", "replace", "(IIII)V"⟩
abbrev cX5_copyFrom : ByteArray := prog_7_method_5_code
abbrev yX5_copyFrom : MethodName := ⟨"OddHours$Program", "copyFrom", "(LOddHours$Program;)V"⟩
abbrev cX5_fit : ByteArray := prog_7_method_6_code
abbrev yX5_fit : MethodName := ⟨"OddHours$Program", "fit", "()V"⟩
abbrev cX5_fits : ByteArray := prog_7_method_7_code
abbrev yX5_fits : MethodName := ⟨"OddHours$Program", "fits", "(I)Z"⟩
abbrev cX5_push : ByteArray := prog_7_method_8_code
abbrev yX5_push : MethodName := ⟨"OddHours$Program", "push", "(I)Z"⟩
abbrev cX5_become : ByteArray := prog_7_method_9_code
abbrev yX5_become : MethodName := ⟨"OddHours$Program", "become", "(II)Z"⟩
abbrev cX5_pairFits : ByteArray := prog_7_method_10_code
abbrev yX5_pairFits : MethodName := ⟨"OddHours$Program", "pairFits", "(III)Z"⟩
abbrev cX6_init : ByteArray := prog_8_method_1_code
abbrev yX6_init : MethodName := ⟨"OddHours$Zone", "<init>", "(I)V"⟩
abbrev cX6_tell : ByteArray := prog_8_method_2_code
abbrev yX6_tell : MethodName := ⟨"OddHours$Zone", "tell", "(II)I"⟩
abbrev cX6_refresh : ByteArray := prog_8_method_3_code
abbrev yX6_refresh : MethodName := ⟨"OddHours$Zone", "refresh", "(I)V"⟩
abbrev cX6_takeChanges : ByteArray := prog_8_method_4_code
abbrev yX6_takeChanges : MethodName := ⟨"OddHours$Zone", "takeChanges", "()V"⟩
abbrev cX6_sortYear : ByteArray := prog_8_method_5_code
abbrev yX6_sortYear : MethodName := ⟨"OddHours$Zone", "sortYear", "(I)I"⟩
abbrev cX6_take : ByteArray := prog_8_method_6_code
abbrev yX6_take : MethodName := ⟨"OddHours$Zone", "take", "(II)V"⟩
abbrev cX6_stretchAt : ByteArray := prog_8_method_7_code
abbrev yX6_stretchAt : MethodName := ⟨"OddHours$Zone", "stretchAt", "(I)I"⟩
abbrev cX6_offsetAt : ByteArray := prog_8_method_8_code
abbrev yX6_offsetAt : MethodName := ⟨"OddHours$Zone", "offsetAt", "(I)I"⟩
abbrev cX6_momentsOf : ByteArray := prog_8_method_9_code
abbrev yX6_momentsOf : MethodName := ⟨"OddHours$Zone", "momentsOf", "(I)I"⟩
abbrev cX6_momentOf : ByteArray := prog_8_method_10_code
abbrev yX6_momentOf : MethodName := ⟨"OddHours$Zone", "momentOf", "(II)I"⟩
abbrev cX6_turned : ByteArray := prog_8_method_11_code
abbrev yX6_turned : MethodName := ⟨"OddHours$Zone", "turned", "(IZ)I"⟩
abbrev cX6_firstBehind : ByteArray := prog_8_method_12_code
abbrev yX6_firstBehind : MethodName := ⟨"OddHours$Zone", "firstBehind", "(II)I"⟩
abbrev cX6_lastAhead : ByteArray := prog_8_method_13_code
abbrev yX6_lastAhead : MethodName := ⟨"OddHours$Zone", "lastAhead", "(I)I"⟩
abbrev cX6_firstOfDay : ByteArray := prog_8_method_14_code
abbrev yX6_firstOfDay : MethodName := ⟨"OddHours$Zone", "firstOfDay", "(II)I"⟩
abbrev cX7_init : ByteArray := prog_9_method_1_code
abbrev yX7_init : MethodName := ⟨"OddHours$Zones", "<init>", "()V"⟩
abbrev cX7_at : ByteArray := prog_9_method_2_code
abbrev yX7_at : MethodName := ⟨"OddHours$Zones", "at", "(I)LOddHours$Zone;"⟩
abbrev cX7_make : ByteArray := prog_9_method_3_code
abbrev yX7_make : MethodName := ⟨"OddHours$Zones", "make", "(I)I"⟩
abbrev cX7_refresh : ByteArray := prog_9_method_4_code
abbrev yX7_refresh : MethodName := ⟨"OddHours$Zones", "refresh", "(I)V"⟩
abbrev cX8_init : ByteArray := prog_1_method_1_code
abbrev yX8_init : MethodName := ⟨"OddHours", "<init>", "()V"⟩
abbrev cX8_month : ByteArray := prog_1_method_2_code
abbrev yX8_month : MethodName := ⟨"OddHours", "month", "(II)I"⟩
abbrev cX8_leap : ByteArray := prog_1_method_3_code
abbrev yX8_leap : MethodName := ⟨"OddHours", "leap", "(III)I"⟩
abbrev cX8_week : ByteArray := prog_1_method_4_code
abbrev yX8_week : MethodName := ⟨"OddHours", "week", "(II)I"⟩
abbrev cX8_day : ByteArray := prog_1_method_5_code
abbrev yX8_day : MethodName := ⟨"OddHours", "day", "(II)I"⟩
abbrev cX8_date : ByteArray := prog_1_method_6_code
abbrev yX8_date : MethodName := ⟨"OddHours", "date", "(II)I"⟩
abbrev cX8_months : ByteArray := prog_1_method_7_code
abbrev yX8_months : MethodName := ⟨"OddHours", "months", "(III)I"⟩
abbrev cX8_nth : ByteArray := prog_1_method_8_code
abbrev yX8_nth : MethodName := ⟨"OddHours", "nth", "(III)I"⟩
abbrev cX8_zone : ByteArray := prog_1_method_9_code
abbrev yX8_zone : MethodName := ⟨"OddHours", "zone", "(I)I"⟩
abbrev cX8_rule : ByteArray := prog_1_method_10_code
abbrev yX8_rule : MethodName := ⟨"OddHours", "rule", "(IIIII)I"⟩
abbrev cX8_today : ByteArray := prog_1_method_11_code
abbrev yX8_today : MethodName := ⟨"OddHours", "today", "(I)I"⟩
abbrev cX8_known : ByteArray := prog_1_method_12_code
abbrev yX8_known : MethodName := ⟨"OddHours", "known", "(I)I"⟩
abbrev cX8_changes : ByteArray := prog_1_method_13_code
abbrev yX8_changes : MethodName := ⟨"OddHours", "changes", "(I)I"⟩
abbrev cX8_change : ByteArray := prog_1_method_14_code
abbrev yX8_change : MethodName := ⟨"OddHours", "change", "(II)I"⟩
abbrev cX8_offset : ByteArray := prog_1_method_15_code
abbrev yX8_offset : MethodName := ⟨"OddHours", "offset", "(II)I"⟩
abbrev cX8_wall : ByteArray := prog_1_method_16_code
abbrev yX8_wall : MethodName := ⟨"OddHours", "wall", "(II)I"⟩
abbrev cX8_moments : ByteArray := prog_1_method_17_code
abbrev yX8_moments : MethodName := ⟨"OddHours", "moments", "(II)I"⟩
abbrev cX8_moment : ByteArray := prog_1_method_18_code
abbrev yX8_moment : MethodName := ⟨"OddHours", "moment", "(III)I"⟩
abbrev cX8_clear : ByteArray := prog_1_method_19_code
abbrev yX8_clear : MethodName := ⟨"OddHours", "clear", "(I)I"⟩
abbrev cX8_line : ByteArray := prog_1_method_20_code
abbrev yX8_line : MethodName := ⟨"OddHours", "line", "(IIII)I"⟩
abbrev cX8_mix : ByteArray := prog_1_method_21_code
abbrev yX8_mix : MethodName := ⟨"OddHours", "mix", "(I)I"⟩
abbrev cX8_kind : ByteArray := prog_1_method_22_code
abbrev yX8_kind : MethodName := ⟨"OddHours", "kind", "(I)I"⟩
abbrev cX8_run : ByteArray := prog_1_method_23_code
abbrev yX8_run : MethodName := ⟨"OddHours", "run", "(II)I"⟩
abbrev cX8_keeps : ByteArray := prog_1_method_24_code
abbrev yX8_keeps : MethodName := ⟨"OddHours", "keeps", "(IIII)I"⟩
abbrev cX8_odds : ByteArray := prog_1_method_25_code
abbrev yX8_odds : MethodName := ⟨"OddHours", "odds", "(II)I"⟩
abbrev cX8_odd : ByteArray := prog_1_method_26_code
abbrev yX8_odd : MethodName := ⟨"OddHours", "odd", "(III)I"⟩
abbrev cX8_least : ByteArray := prog_1_method_27_code
abbrev yX8_least : MethodName := ⟨"OddHours", "least", "(IIIII)I"⟩
abbrev cX8_mend : ByteArray := prog_1_method_28_code
abbrev yX8_mend : MethodName := ⟨"OddHours", "mend", "(IIIII)I"⟩
abbrev cX8_mended : ByteArray := prog_1_method_29_code
abbrev yX8_mended : MethodName := ⟨"OddHours", "mended", "(II)I"⟩
abbrev cX8_meetings : ByteArray := prog_1_method_30_code
abbrev yX8_meetings : MethodName := ⟨"OddHours", "meetings", "(IIIII)I"⟩
abbrev cX8_count : ByteArray := prog_1_method_31_code
abbrev yX8_count : MethodName := ⟨"OddHours", "count", "(I)I"⟩
abbrev cX8_allLines : ByteArray := prog_1_method_32_code
abbrev yX8_allLines : MethodName := ⟨"OddHours", "allLines", "()I"⟩
abbrev cX8_programAt : ByteArray := prog_1_method_33_code
abbrev yX8_programAt : MethodName := ⟨"OddHours", "programAt", "(I)LOddHours$Program;"⟩
abbrev cX8_freshZone : ByteArray := prog_1_method_34_code
abbrev yX8_freshZone : MethodName := ⟨"OddHours", "freshZone", "(I)LOddHours$Zone;"⟩
abbrev cX8_gatherOdds : ByteArray := prog_1_method_35_code
abbrev yX8_gatherOdds : MethodName := ⟨"OddHours", "gatherOdds", "(II)V"⟩
abbrev cX8_isLaw : ByteArray := prog_1_method_36_code
abbrev yX8_isLaw : MethodName := ⟨"OddHours", "isLaw", "(II)Z"⟩
abbrev cX8_isYear : ByteArray := prog_1_method_37_code
abbrev yX8_isYear : MethodName := ⟨"OddHours", "isYear", "(I)Z"⟩
abbrev cX8_isMonth : ByteArray := prog_1_method_38_code
abbrev yX8_isMonth : MethodName := ⟨"OddHours", "isMonth", "(I)Z"⟩
abbrev cX8_isMinute : ByteArray := prog_1_method_39_code
abbrev yX8_isMinute : MethodName := ⟨"OddHours", "isMinute", "(I)Z"⟩
abbrev cX8_isOffset : ByteArray := prog_1_method_40_code
abbrev yX8_isOffset : MethodName := ⟨"OddHours", "isOffset", "(I)Z"⟩
abbrev cX8_isMoment : ByteArray := prog_1_method_41_code
abbrev yX8_isMoment : MethodName := ⟨"OddHours", "isMoment", "(I)Z"⟩
abbrev cX8_isRange : ByteArray := prog_1_method_42_code
abbrev yX8_isRange : MethodName := ⟨"OddHours", "isRange", "(II)Z"⟩
abbrev cX8_isReach : ByteArray := prog_1_method_43_code
abbrev yX8_isReach : MethodName := ⟨"OddHours", "isReach", "(III)Z"⟩
abbrev cX8_rest : ByteArray := prog_1_method_44_code
abbrev yX8_rest : MethodName := ⟨"OddHours", "rest", "(II)I"⟩
abbrev cX9_init : ByteArray := prog_11_method_1_code
abbrev yX9_init : MethodName := ⟨"OddHoursModel", "<init>", "()V"⟩
abbrev cX9_within : ByteArray := prog_11_method_2_code
abbrev yX9_within : MethodName := ⟨"OddHoursModel", "within", "(III)Z"⟩
abbrev cX9_daysOf : ByteArray := prog_11_method_3_code
abbrev yX9_daysOf : MethodName := ⟨"OddHoursModel", "daysOf", "(II)I"⟩
abbrev cX9_countDays : ByteArray := prog_11_method_4_code
abbrev yX9_countDays : MethodName := ⟨"OddHoursModel", "countDays", "()V"⟩
abbrev cX9_allDays : ByteArray := prog_11_method_5_code
abbrev yX9_allDays : MethodName := ⟨"OddHoursModel", "allDays", "()I"⟩
abbrev cX9_isDay : ByteArray := prog_11_method_6_code
abbrev yX9_isDay : MethodName := ⟨"OddHoursModel", "isDay", "(I)Z"⟩
abbrev cX9_month : ByteArray := prog_11_method_7_code
abbrev yX9_month : MethodName := ⟨"OddHoursModel", "month", "(II)I"⟩
abbrev cX9_leap : ByteArray := prog_11_method_8_code
abbrev yX9_leap : MethodName := ⟨"OddHoursModel", "leap", "(III)I"⟩
abbrev cX9_week : ByteArray := prog_11_method_9_code
abbrev yX9_week : MethodName := ⟨"OddHoursModel", "week", "(II)I"⟩
abbrev cX9_day : ByteArray := prog_11_method_10_code
abbrev yX9_day : MethodName := ⟨"OddHoursModel", "day", "(II)I"⟩
abbrev cX9_monthOf : ByteArray := prog_11_method_11_code
abbrev yX9_monthOf : MethodName := ⟨"OddHoursModel", "monthOf", "(I)I"⟩
abbrev cX9_weekday : ByteArray := prog_11_method_12_code
abbrev yX9_weekday : MethodName := ⟨"OddHoursModel", "weekday", "(I)I"⟩
abbrev cX9_date : ByteArray := prog_11_method_13_code
abbrev yX9_date : MethodName := ⟨"OddHoursModel", "date", "(II)I"⟩
abbrev cX9_later : ByteArray := prog_11_method_14_code
abbrev yX9_later : MethodName := ⟨"OddHoursModel", "later", "(III)I"⟩
abbrev cX9_months : ByteArray := prog_11_method_15_code
abbrev yX9_months : MethodName := ⟨"OddHoursModel", "months", "(III)I"⟩
abbrev cX9_nthOf : ByteArray := prog_11_method_16_code
abbrev yX9_nthOf : MethodName := ⟨"OddHoursModel", "nthOf", "(III)I"⟩
abbrev cX9_nth : ByteArray := prog_11_method_17_code
abbrev yX9_nth : MethodName := ⟨"OddHoursModel", "nth", "(III)I"⟩
abbrev cX9_isZone : ByteArray := prog_11_method_18_code
abbrev yX9_isZone : MethodName := ⟨"OddHoursModel", "isZone", "(I)Z"⟩
abbrev cX9_forget : ByteArray := prog_11_method_19_code
abbrev yX9_forget : MethodName := ⟨"OddHoursModel", "forget", "()V"⟩
abbrev cX9_zone : ByteArray := prog_11_method_20_code
abbrev yX9_zone : MethodName := ⟨"OddHoursModel", "zone", "(I)I"⟩
abbrev cX9_rule : ByteArray := prog_11_method_21_code
abbrev yX9_rule : MethodName := ⟨"OddHoursModel", "rule", "(IIIII)I"⟩
abbrev cX9_today : ByteArray := prog_11_method_22_code
abbrev yX9_today : MethodName := ⟨"OddHoursModel", "today", "(I)I"⟩
abbrev cX9_known : ByteArray := prog_11_method_23_code
abbrev yX9_known : MethodName := ⟨"OddHoursModel", "known", "(I)I"⟩
abbrev cX9_say : ByteArray := prog_11_method_24_code
abbrev yX9_say : MethodName := ⟨"OddHoursModel", "say", "(III)I"⟩
abbrev cX9_find : ByteArray := prog_11_method_25_code
abbrev yX9_find : MethodName := ⟨"OddHoursModel", "find", "(I)V"⟩
abbrev cX9_changes : ByteArray := prog_11_method_26_code
abbrev yX9_changes : MethodName := ⟨"OddHoursModel", "changes", "(I)I"⟩
abbrev cX9_change : ByteArray := prog_11_method_27_code
abbrev yX9_change : MethodName := ⟨"OddHoursModel", "change", "(II)I"⟩
abbrev cX9_offsetAt : ByteArray := prog_11_method_28_code
abbrev yX9_offsetAt : MethodName := ⟨"OddHoursModel", "offsetAt", "(II)I"⟩
abbrev cX9_isMoment : ByteArray := prog_11_method_29_code
abbrev yX9_isMoment : MethodName := ⟨"OddHoursModel", "isMoment", "(I)Z"⟩
abbrev cX9_isWall : ByteArray := prog_11_method_30_code
abbrev yX9_isWall : MethodName := ⟨"OddHoursModel", "isWall", "(I)Z"⟩
abbrev cX9_offset : ByteArray := prog_11_method_31_code
abbrev yX9_offset : MethodName := ⟨"OddHoursModel", "offset", "(II)I"⟩
abbrev cX9_wall : ByteArray := prog_11_method_32_code
abbrev yX9_wall : MethodName := ⟨"OddHoursModel", "wall", "(II)I"⟩
abbrev cX9_spanEnd : ByteArray := prog_11_method_33_code
abbrev yX9_spanEnd : MethodName := ⟨"OddHoursModel", "spanEnd", "(II)I"⟩
abbrev cX9_momentOf : ByteArray := prog_11_method_34_code
abbrev yX9_momentOf : MethodName := ⟨"OddHoursModel", "momentOf", "(III)I"⟩
abbrev cX9_moments : ByteArray := prog_11_method_35_code
abbrev yX9_moments : MethodName := ⟨"OddHoursModel", "moments", "(II)I"⟩
abbrev cX9_moment : ByteArray := prog_11_method_36_code
abbrev yX9_moment : MethodName := ⟨"OddHoursModel", "moment", "(III)I"⟩
abbrev cX9_firstFrom : ByteArray := prog_11_method_37_code
abbrev yX9_firstFrom : MethodName := ⟨"OddHoursModel", "firstFrom", "(III)I"⟩
abbrev cX9_lastAhead : ByteArray := prog_11_method_38_code
abbrev yX9_lastAhead : MethodName := ⟨"OddHoursModel", "lastAhead", "(II)I"⟩
abbrev cX9_isProgram : ByteArray := prog_11_method_39_code
abbrev yX9_isProgram : MethodName := ⟨"OddHoursModel", "isProgram", "(I)Z"⟩
abbrev cX9_clear : ByteArray := prog_11_method_40_code
abbrev yX9_clear : MethodName := ⟨"OddHoursModel", "clear", "(I)I"⟩
abbrev cX9_mayStand : ByteArray := prog_11_method_41_code
abbrev yX9_mayStand : MethodName := ⟨"OddHoursModel", "mayStand", "(III)Z"⟩
abbrev cX9_line : ByteArray := prog_11_method_42_code
abbrev yX9_line : MethodName := ⟨"OddHoursModel", "line", "(IIII)I"⟩
abbrev cX9_take : ByteArray := prog_11_method_43_code
abbrev yX9_take : MethodName := ⟨"OddHoursModel", "take", "(I)V"⟩
abbrev cX9_isTop : ByteArray := prog_11_method_44_code
abbrev yX9_isTop : MethodName := ⟨"OddHoursModel", "isTop", "(I)Z"⟩
abbrev cX9_fits : ByteArray := prog_11_method_45_code
abbrev yX9_fits : MethodName := ⟨"OddHoursModel", "fits", "(I)Z"⟩
abbrev cX9_laid : ByteArray := prog_11_method_46_code
abbrev yX9_laid : MethodName := ⟨"OddHoursModel", "laid", "(I)Z"⟩
abbrev cX9_became : ByteArray := prog_11_method_47_code
abbrev yX9_became : MethodName := ⟨"OddHoursModel", "became", "(II)Z"⟩
abbrev cX9_mixOf : ByteArray := prog_11_method_48_code
abbrev yX9_mixOf : MethodName := ⟨"OddHoursModel", "mixOf", "()I"⟩
abbrev cX9_mix : ByteArray := prog_11_method_49_code
abbrev yX9_mix : MethodName := ⟨"OddHoursModel", "mix", "(I)I"⟩
abbrev cX9_kind : ByteArray := prog_11_method_50_code
abbrev yX9_kind : MethodName := ⟨"OddHoursModel", "kind", "(I)I"⟩
abbrev cX9_comesTo : ByteArray := prog_11_method_51_code
abbrev yX9_comesTo : MethodName := ⟨"OddHoursModel", "comesTo", "(J)Z"⟩
abbrev cX9_turned : ByteArray := prog_11_method_52_code
abbrev yX9_turned : MethodName := ⟨"OddHoursModel", "turned", "(III)I"⟩
abbrev cX9_does : ByteArray := prog_11_method_53_code
abbrev yX9_does : MethodName := ⟨"OddHoursModel", "does", "(II)Z"⟩
abbrev cX9_runs : ByteArray := prog_11_method_54_code
abbrev yX9_runs : MethodName := ⟨"OddHoursModel", "runs", "(I)Z"⟩
abbrev cX9_run : ByteArray := prog_11_method_55_code
abbrev yX9_run : MethodName := ⟨"OddHoursModel", "run", "(II)I"⟩
abbrev cX9_isLaw : ByteArray := prog_11_method_56_code
abbrev yX9_isLaw : MethodName := ⟨"OddHoursModel", "isLaw", "(II)Z"⟩
abbrev cX9_wallOf : ByteArray := prog_11_method_57_code
abbrev yX9_wallOf : MethodName := ⟨"OddHoursModel", "wallOf", "(II)I"⟩
abbrev cX9_isKept : ByteArray := prog_11_method_58_code
abbrev yX9_isKept : MethodName := ⟨"OddHoursModel", "isKept", "(III)Z"⟩
abbrev cX9_keeps : ByteArray := prog_11_method_59_code
abbrev yX9_keeps : MethodName := ⟨"OddHoursModel", "keeps", "(IIII)I"⟩
abbrev cX9_addOdd : ByteArray := prog_11_method_60_code
abbrev yX9_addOdd : MethodName := ⟨"OddHoursModel", "addOdd", "(III)V"⟩
abbrev cX9_sink : ByteArray := prog_11_method_61_code
abbrev yX9_sink : MethodName := ⟨"OddHoursModel", "sink", "(II)V"⟩
abbrev cX9_findOdds : ByteArray := prog_11_method_62_code
abbrev yX9_findOdds : MethodName := ⟨"OddHoursModel", "findOdds", "(II)V"⟩
abbrev cX9_areOdds : ByteArray := prog_11_method_63_code
abbrev yX9_areOdds : MethodName := ⟨"OddHoursModel", "areOdds", "(II)Z"⟩
abbrev cX9_odds : ByteArray := prog_11_method_64_code
abbrev yX9_odds : MethodName := ⟨"OddHoursModel", "odds", "(II)I"⟩
abbrev cX9_odd : ByteArray := prog_11_method_65_code
abbrev yX9_odd : MethodName := ⟨"OddHoursModel", "odd", "(III)I"⟩
abbrev cX9_isRow : ByteArray := prog_11_method_66_code
abbrev yX9_isRow : MethodName := ⟨"OddHoursModel", "isRow", "(III)Z"⟩
abbrev cX9_firstBroken : ByteArray := prog_11_method_67_code
abbrev yX9_firstBroken : MethodName := ⟨"OddHoursModel", "firstBroken", "(II)I"⟩
abbrev cX9_least : ByteArray := prog_11_method_68_code
abbrev yX9_least : MethodName := ⟨"OddHoursModel", "least", "(IIIII)I"⟩
abbrev cX9_changeLine : ByteArray := prog_11_method_69_code
abbrev yX9_changeLine : MethodName := ⟨"OddHoursModel", "changeLine", "(II)Z"⟩
abbrev cX9_isRight : ByteArray := prog_11_method_70_code
abbrev yX9_isRight : MethodName := ⟨"OddHoursModel", "isRight", "(II)Z"⟩
abbrev cX9_keepMended : ByteArray := prog_11_method_71_code
abbrev yX9_keepMended : MethodName := ⟨"OddHoursModel", "keepMended", "()V"⟩
abbrev cX9_mendsOne : ByteArray := prog_11_method_72_code
abbrev yX9_mendsOne : MethodName := ⟨"OddHoursModel", "mendsOne", "(III)Z"⟩
abbrev cX9_mendsTwo : ByteArray := prog_11_method_73_code
abbrev yX9_mendsTwo : MethodName := ⟨"OddHoursModel", "mendsTwo", "(III)Z"⟩
abbrev cX9_mend : ByteArray := prog_11_method_74_code
abbrev yX9_mend : MethodName := ⟨"OddHoursModel", "mend", "(IIIII)I"⟩
abbrev cX9_mended : ByteArray := prog_11_method_75_code
abbrev yX9_mended : MethodName := ⟨"OddHoursModel", "mended", "(II)I"⟩
abbrev cX9_meetings : ByteArray := prog_11_method_76_code
abbrev yX9_meetings : MethodName := ⟨"OddHoursModel", "meetings", "(IIIII)I"⟩
abbrev cX9_count : ByteArray := prog_11_method_77_code
abbrev yX9_count : MethodName := ⟨"OddHoursModel", "count", "(I)I"⟩
abbrev cJ13_bitCount_95d88 : ByteArray := prog_12_method_50_code
abbrev yJ13_bitCount_95d88 : MethodName := ⟨"java/lang/Long", "bitCount", "(J)I"⟩
abbrev cJ9_floorMod_7cf53 : ByteArray := prog_13_method_50_code
abbrev yJ9_floorMod_7cf53 : MethodName := ⟨"java/lang/Math", "floorMod", "(II)I"⟩
abbrev cJ9_abs_0f7a4 : ByteArray := prog_13_method_59_code
abbrev yJ9_abs_0f7a4 : MethodName := ⟨"java/lang/Math", "abs", "(I)I"⟩
abbrev cJ9_max_7cf53 : ByteArray := prog_13_method_65_code
abbrev yJ9_max_7cf53 : MethodName := ⟨"java/lang/Math", "max", "(II)I"⟩
abbrev cJ9_min_7cf53 : ByteArray := prog_13_method_69_code
abbrev yJ9_min_7cf53 : MethodName := ⟨"java/lang/Math", "min", "(II)I"⟩
def FL (own : String) (index ci k : Nat) : Prop := Cond.fieldLink own index (clT ci k).1 (clT ci k).2.1 (clT ci k).2.2.1 ∈ tb ∧ k < clN ci ∧ ci < 10
def nmOk (y : MethodName) (k : Nat) : Prop := y.cls ≠ "java/lang/invoke/MethodHandle" ∧ y.cls ≠ "java/lang/invoke/VarHandle" ∧ (parseMethodDescriptor y.desc).map (fun d => d.parameters.length) = some k
def MV (y : MethodName) (cc : ByteArray) (maxL : Nat) (rt : Option FieldType) (k : Nat) : Prop := Cond.code y cc maxL rt ∈ tb ∧ Cond.initialized y.cls ∈ tb ∧ Cond.instanceMethod y ∈ tb ∧ Cond.selects y.cls y y ∈ tb ∧ nmOk y k
def MS (y : MethodName) (cc : ByteArray) (maxL : Nat) (rt : Option FieldType) (k : Nat) : Prop := Cond.code y cc maxL rt ∈ tb ∧ Cond.initialized y.cls ∈ tb ∧ Cond.static y ∈ tb ∧ nmOk y k
def MI (y : MethodName) (cc : ByteArray) (maxL : Nat) (k : Nat) : Prop := Cond.code y cc maxL none ∈ tb ∧ Cond.initialized y.cls ∈ tb ∧ Cond.instanceMethod y ∈ tb ∧ y.name = "<init>" ∧ nmOk y k
end
section
/-! ===== the frame: one world for all methods: cells 0 .. n-1 at the addresses ad, holding E ===== -/
theorem tb_good {w : Cond} (h : w ∈ tb) : (w.onTables && w.keeps) = true ∨ ∃ ty, w = .arrayClass ty := good_of_word (List.mem_filter.mp h).2
theorem tb_in {ws : List Cond} (h : ∀ w ∈ ws, w ∈ tb) : GoodIn tb ws := fun w hw => ⟨h w hw, tb_good (h w hw)⟩
abbrev Gl : Type := va_G × (Nat → ClassId) × (Nat → Nat)
def fl (mk : Nat → Bool) (N : Nat) (r : Nat → Option Nat) (i : Nat → Int32) : List Value := (List.range N).map (fun k => if mk k then va_rf (r k) else .int (i k))
theorem fl_len (mk : Nat → Bool) (N : Nat) (r : Nat → Option Nat) (i : Nat → Int32) : (fl mk N r i).length = N := by simp [fl]
theorem fl_int {mk : Nat → Bool} {N : Nat} {r : Nat → Option Nat} {i : Nat → Int32} {k : Nat} {v : Int32} (hk : k < N) (hm : mk k = false) (hv : i k = v) : (fl mk N r i)[k]? = some (.int v) := by
  simp [fl, hk, hm, hv]
theorem fl_ref {mk : Nat → Bool} {N : Nat} {r : Nat → Option Nat} {i : Nat → Int32} {k : Nat} {v : Option Nat} (hk : k < N) (hm : mk k = true) (hv : r k = v) : (fl mk N r i)[k]? = some (va_rf v) := by
  simp [fl, hk, hm, hv]
theorem fl_seti {mk : Nat → Bool} {N : Nat} {r : Nat → Option Nat} {i : Nat → Int32} {k : Nat} {v : Int32} (hm : mk k = false) : (fl mk N r i).set k (.int v) = fl mk N r (va_up i k v) := by
  apply List.ext_getElem?
  intro j
  rw [List.getElem?_set]
  by_cases h : k = j
  · subst h
    by_cases h2 : k < N
    · simp [fl, h2, hm, va_up]
    · simp [fl, h2]
  · rw [if_neg h]
    by_cases h2 : j < N
    · have h3 : ¬ j = k := fun q => h q.symm
      simp [fl, h2, va_up, h3]
    · simp [fl, h2]
theorem fl_setr {mk : Nat → Bool} {N : Nat} {r : Nat → Option Nat} {i : Nat → Int32} {k a : Nat} (hm : mk k = true) : (fl mk N r i).set k (.ref a) = fl mk N (va_up r k (some a)) i := by
  apply List.ext_getElem?
  intro j
  rw [List.getElem?_set]
  by_cases h : k = j
  · subst h
    by_cases h2 : k < N
    · simp [fl, h2, hm, va_up, va_rf]
    · simp [fl, h2]
  · rw [if_neg h]
    by_cases h2 : j < N
    · have h3 : ¬ j = k := fun q => h q.symm
      simp [fl, h2, va_up, h3]
    · simp [fl, h2]
abbrev ob (ci : Nat) (r : Nat → Option Nat) (i : Nat → Int32) : va_E := .inr (ci, fl (clM ci) (clN ci) r i)
abbrev aI (G : Gl) (n : Nat) (f : Nat → Int32) : va_E := .inl (G.2.1 0, n, .inl f)
abbrev aJ (G : Gl) (n : Nat) (f : Nat → Int64) : va_E := .inl (G.2.1 1, n, .inr (.inl f))
abbrev aZ (G : Gl) (n : Nat) (f : Nat → Int32) : va_E := .inl (G.2.1 2, n, .inl f)
abbrev aQ (G : Gl) (k : Nat) (n : Nat) (f : Nat → Option Nat) : va_E := .inl (G.2.1 k, n, .inr (.inr (.inr (.inr f))))
abbrev tyG (G : Gl) : List (ClassId × FieldType) := [(G.2.1 0, .int), (G.2.1 1, .long), (G.2.1 2, .boolean), (G.2.1 3, .object "OddHours$Zone"), (G.2.1 4, .object "OddHours$Program")]
def wl (n : Nat) (ad : Nat → Nat) (E : Nat → va_E) : va_W := (List.range n).map (fun k => (ad k, E k))
theorem wl_at {n : Nat} {ad : Nat → Nat} {E : Nat → va_E} {k : Nat} (h : k < n) : (wl n ad E)[k]? = some (ad k, E k) := by simp [wl, h]
theorem wl_e {n : Nat} {ad : Nat → Nat} {E : Nat → va_E} {k : Nat} {x : va_E} (h : k < n) (he : E k = x) : (wl n ad E)[k]? = some (ad k, x) := by rw [← he]; exact wl_at h
theorem wl_of {n : Nat} {ad : Nat → Nat} {E : Nat → va_E} {k : Nat} {q : Nat × va_E} (h : (wl n ad E)[k]? = some q) : k < n ∧ q = (ad k, E k) := by
  have h1 : k < (wl n ad E).length := (List.getElem?_eq_some_iff.mp h).1
  have h2 : k < n := by simpa [wl] using h1
  rw [wl_at h2] at h
  exact ⟨h2, (Option.some.inj h).symm⟩
theorem wl_set {n : Nat} {ad : Nat → Nat} {E : Nat → va_E} {k : Nat} {x : va_E} : (wl n ad E).set k (ad k, x) = wl n ad (va_up E k x) := by
  apply List.ext_getElem?
  intro j
  rw [List.getElem?_set]
  by_cases h : k = j
  · subst h
    by_cases h2 : k < n
    · simp [wl, h2, va_up]
    · simp [wl, h2]
  · rw [if_neg h]
    by_cases h2 : j < n
    · have h3 : ¬ j = k := fun q => h q.symm
      simp [wl, h2, va_up, h3]
    · simp [wl, h2]
theorem wl_push {n : Nat} {ad : Nat → Nat} {E : Nat → va_E} {q : Nat} {x : va_E} : wl n ad E ++ [(q, x)] = wl (n + 1) (va_up ad n q) (va_up E n x) := by
  unfold wl
  rw [List.range_succ, List.map_append]
  congr 1
  · apply List.map_congr_left
    intro k hk
    have h3 : ¬ k = n := Nat.ne_of_lt (List.mem_range.mp hk)
    simp [va_up, h3]
  · simp [va_up]
theorem wl_D {A : Nat → Prop} {n : Nat} {ad : Nat → Nat} {E E' : Nat → va_E} (h : va_D A (wl n ad E)) : va_D A (wl n ad E') := by
  refine ⟨fun i j p q hp hq hpq => ?_, fun k q hq => ?_⟩
  · obtain ⟨h1, rfl⟩ := wl_of hp
    obtain ⟨h2, rfl⟩ := wl_of hq
    exact h.1 i j _ _ (wl_at h1) (wl_at h2) hpq
  · obtain ⟨h1, rfl⟩ := wl_of hq
    exact h.2 k (ad k, E k) (wl_at h1)
theorem wl_A {n : Nat} {ad : Nat → Nat} {E E' : Nat → va_E} {sz : Nat} : va_A (wl n ad E) sz = va_A (wl n ad E') sz := by
  funext q
  apply propext
  constructor
  · rintro (⟨k, e, h⟩ | h)
    · obtain ⟨h1, h2⟩ := wl_of h
      exact Or.inl ⟨k, E' k, by rw [wl_at h1, show q = ad k from congrArg Prod.fst h2]⟩
    · exact Or.inr h
  · rintro (⟨k, e, h⟩ | h)
    · obtain ⟨h1, h2⟩ := wl_of h
      exact Or.inl ⟨k, E k, by rw [wl_at h1, show q = ad k from congrArg Prod.fst h2]⟩
    · exact Or.inr h
theorem wl_free {A0 : Nat → Prop} {n : Nat} {ad : Nat → Nat} {E : Nat → va_E} {H0 H : Heap} {locs : List Loc} (hD : va_D A0 (wl n ad E)) (hS : va_S A0 H0 H locs) (hA : ∀ q, H0.size ≤ q → A0 q) : ∀ q, va_A (wl n ad E) H.size q → A0 q := by
  rintro q (⟨k, e, h⟩ | h)
  · exact hD.2 k (q, e) h
  · exact hA q (Nat.le_trans hS.1 h)
/-- what stays true of the start: the static arrays, the array classes over objects, the links to nest mates -/
def nwL : List (String × Nat × MethodName × String) := [("OddHours$Calendar", 43, ⟨"OddHours", "rest", "(II)I"⟩, "OddHours"), ("OddHours", 18, ⟨"OddHours$Zones", "<init>", "()V"⟩, "OddHours"), ("OddHours", 29, ⟨"OddHours$Program", "<init>", "()V"⟩, "OddHours"), ("OddHours", 32, ⟨"OddHours$Odds", "<init>", "()V"⟩, "OddHours"), ("OddHours$Mender", 11, ⟨"OddHours$Program", "<init>", "()V"⟩, "OddHours"), ("OddHours$Machine", 76, ⟨"OddHours", "isMoment", "(I)Z"⟩, "OddHours")]
def nwF : List (String × Nat × String × String × String × String) := [("OddHours$Mender", 113, "OddHours", "MOST_X", "[I", "OddHours"), ("OddHours$Mender", 123, "OddHours", "MOST_Y", "[I", "OddHours")]
def stY : Nat → Int32 := fun k => if k = 4 then 1 else if k = 7 then 2 else 0
def stX : Nat → Int32 := fun k => if k = 3 then 1439 else if k = 5 then 9999 else if k = 6 then 999 else if k = 7 then 99 else 0
def stL : Nat → Int32 := fun k => if k = 5 then -9999 else if k = 6 then -999 else if k = 7 then -99 else 0
def Sx (G : Gl) (A : Nat → Prop) (U : State) (H : Heap) : Prop :=
  (va_Z "OddHours" "MOST_Y" "[I" (.ref (G.2.2 0)) A U H ∧ va_T .int (G.2.2 0) 12 (fun k => .int (stY k)) A U H) ∧
  (va_Z "OddHours" "MOST_X" "[I" (.ref (G.2.2 1)) A U H ∧ va_T .int (G.2.2 1) 12 (fun k => .int (stX k)) A U H) ∧
  (va_Z "OddHours" "LEAST_X" "[I" (.ref (G.2.2 2)) A U H ∧ va_T .int (G.2.2 2) 12 (fun k => .int (stL k)) A U H) ∧
  (va_AO "OddHours$Zone" U ∧ va_AO "OddHours$Program" U) ∧
  (∀ q ∈ nwL, va_Nw (.methodLinkNest q.1 q.2.1 q.2.2.1 q.2.2.2) U) ∧ ∀ q ∈ nwF, va_Nw (.fieldLinkNest q.1 q.2.1 q.2.2.1 q.2.2.2.1 q.2.2.2.2.1 q.2.2.2.2.2) U
theorem Sx.same {G : Gl} {A : Nat → Prop} {u U : State} {H : Heap} (h : Sx G A u H) (hv : u.vm = U.vm) : Sx G A U H := by
  obtain ⟨⟨a1, a2⟩, ⟨b1, b2⟩, ⟨c1, c2⟩, ⟨d1, d2⟩, e1, f1⟩ := h
  have ha : u.vm.Alike U.vm := by rw [hv]; exact Vm.Alike.refl _
  exact ⟨⟨a1.moved ha, a2.moved ha⟩, ⟨b1.moved ha, b2.moved ha⟩, ⟨c1.moved ha, c2.moved ha⟩, ⟨d1.moved ha, d2.moved ha⟩, fun q hq => va_Nw.same rfl hv (e1 q hq), fun q hq => va_Nw.same rfl hv (f1 q hq)⟩
theorem Sx.go {G : Gl} {A B : Nat → Prop} {s U : State} {H : Heap} {locs : List Loc} (h : Sx G A s s.heap) (hW : s.WarmedH U.vm) (hS : va_S A s.heap H locs) (hAB : ∀ q, B q → A q) : Sx G B U H := by
  obtain ⟨⟨a1, a2⟩, ⟨b1, b2⟩, ⟨c1, c2⟩, ⟨d1, d2⟩, e1, f1⟩ := h
  have ha : s.vm.Alike U.vm := hW.alike
  exact ⟨⟨((a1.kept hS.2.1).narrow hAB).moved ha, ((a2.kept hS.2.1).narrow hAB).moved ha⟩, ⟨((b1.kept hS.2.1).narrow hAB).moved ha, ((b2.kept hS.2.1).narrow hAB).moved ha⟩, ⟨((c1.kept hS.2.1).narrow hAB).moved ha, ((c2.kept hS.2.1).narrow hAB).moved ha⟩, ⟨d1.moved ha, d2.moved ha⟩, fun q hq => va_Nw.warmM hW (e1 q hq), fun q hq => va_Nw.warmF hW (f1 q hq)⟩
abbrev Mx : Type := Program × Launch × Env × Room × State × MethodId × Array Value × List Frame × Method × Code
abbrev Mx.p (X : Mx) : Program := X.1
abbrev Mx.l (X : Mx) : Launch := X.2.1
abbrev Mx.e (X : Mx) : Env := X.2.2.1
abbrev Mx.R (X : Mx) : Room := X.2.2.2.1
abbrev Mx.s (X : Mx) : State := X.2.2.2.2.1
abbrev Mx.m (X : Mx) : MethodId := X.2.2.2.2.2.1
abbrev Mx.args (X : Mx) : Array Value := X.2.2.2.2.2.2.1
abbrev Mx.below (X : Mx) : List Frame := X.2.2.2.2.2.2.2.1
abbrev Mx.meth (X : Mx) : Method := X.2.2.2.2.2.2.2.2.1
abbrev Mx.c (X : Mx) : Code := X.2.2.2.2.2.2.2.2.2
/-- what holds all through a method's body -/
def Cx (X : Mx) (l : Launch) (G : Gl) (A : Nat → Prop) (own : String) (cc : ByteArray) (nL : Nat) (ret : Option FieldType) (R : Room) : Prop :=
  X.p.tables.exec = Jvm.exec ∧ X.c.code = cc ∧ X.c.maxLocals = nL ∧ X.s.vm.findClass own = some X.m.cls ∧ (∀ w ∈ tb, w.before X.args X.s = true) ∧ va_K G.1 classes (tyG G) X.s ∧ (∀ q, X.s.heap.size ≤ q → A q) ∧ Sx G A X.s X.s.heap ∧ X.meth.locks = false ∧ X.meth.sig.returnType = ret ∧ X.l = l ∧ X.R = R
/-- from here the machine comes to a state with Q -/
def V (X : Mx) (G : Gl) (A : Nat → Prop) (nL : Nat) (Q : State → Prop) (n : Nat) (ad : Nat → Nat) (ce sl : Nat) (E : Nat → va_E) (pc : Nat) (lv : List (Nat × Value)) (st : List Value) : Prop :=
  ∀ (H : Heap) (locs : List Loc) (ls : Array Slot), va_P G.1 classes (wl n ad E) H → va_D A (wl n ad E) → va_S A X.s.heap H locs → lv_has ls nL lv → W X.p X.l X.e X.R X.s X.m X.args X.below X.meth X.c H locs ce sl Q (F0 X.m pc ls st)
def Pre (G : Gl) (n : Nat) (ad : Nat → Nat) (E : Nat → va_E) (sz : Nat) (U : State) : Prop := U.heap.size = sz ∧ va_P G.1 classes (wl n ad E) U.heap ∧ va_K G.1 classes (tyG G) U ∧ va_D (fun _ => True) (wl n ad E) ∧ Sx G (va_A (wl n ad E) sz) U U.heap
def Aft (G : Gl) (A : Nat → Prop) (n : Nat) (ad : Nat → Nat) (E : Nat → va_E) (t : State) : Prop := va_P G.1 classes (wl n ad E) t.heap ∧ va_K G.1 classes (tyG G) t ∧ va_D A (wl n ad E)
abbrev rmx (fr lo ce sl : Nat) : Room := { frames := fr, cells := ce, slots := sl, locals := lo }
/-- contracts: an int (or boolean), nothing, a reference or null; of methods that make nothing -/
def CtI (l : Launch) (G : Gl) (y : MethodName) (cc : ByteArray) (maxL : Nat) (ret : FieldType) (fr lo : Nat) (n : Nat) (ad : Nat → Nat) (E : Nat → va_E) (av : List Value) (post : Int32 → (Nat → va_E) → Prop) : Prop :=
  ∀ sz, Met l y (.code y cc maxL (some ret) :: tb) (rmx fr lo 0 0) (va_Pc av (Pre G n ad E sz)) (va_Qi post (Aft G (va_A (wl n ad E) sz) n ad) (va_A (wl n ad E) sz)) 0 0 (va_A (wl n ad E) sz)
def CtV (l : Launch) (G : Gl) (y : MethodName) (cc : ByteArray) (maxL : Nat) (fr lo : Nat) (n : Nat) (ad : Nat → Nat) (E : Nat → va_E) (av : List Value) (post : (Nat → va_E) → Prop) : Prop :=
  ∀ sz, Met l y (.code y cc maxL none :: tb) (rmx fr lo 0 0) (va_Pc av (Pre G n ad E sz)) (va_Qv post (Aft G (va_A (wl n ad E) sz) n ad) (va_A (wl n ad E) sz)) 0 0 (va_A (wl n ad E) sz)
def CtQ (l : Launch) (G : Gl) (y : MethodName) (cc : ByteArray) (maxL : Nat) (ret : FieldType) (fr lo : Nat) (n : Nat) (ad : Nat → Nat) (E : Nat → va_E) (av : List Value) (post : Option Nat → (Nat → va_E) → Prop) : Prop :=
  ∀ sz, Met l y (.code y cc maxL (some ret) :: tb) (rmx fr lo 0 0) (va_Pc av (Pre G n ad E sz)) (va_Qq post (Aft G (va_A (wl n ad E) sz) n ad) (va_A (wl n ad E) sz)) 0 0 (va_A (wl n ad E) sz)
/-- a maker: k cells of w slots come, at the end of the world -/
def CtN (l : Launch) (G : Gl) (y : MethodName) (cc : ByteArray) (maxL : Nat) (fr lo k w : Nat) (n n' : Nat) (ad : Nat → Nat) (E : Nat → va_E) (av : List Value) (post : (Nat → Nat) × (Nat → va_E) → Prop) : Prop :=
  ∀ sz, Met l y (.code y cc maxL none :: tb) (rmx fr lo k w) (va_Pc av (Pre G n ad E sz)) (va_Qv post (fun u t => Aft G (va_A (wl n ad E) sz) n' u.1 u.2 t) (va_A (wl n ad E) sz)) k w (va_A (wl n ad E) sz)
def CtM (l : Launch) (G : Gl) (y : MethodName) (cc : ByteArray) (maxL : Nat) (ret : FieldType) (fr lo k w : Nat) (n n' : Nat) (ad : Nat → Nat) (E : Nat → va_E) (av : List Value) (post : Int32 → (Nat → Nat) × (Nat → va_E) → Prop) : Prop :=
  ∀ sz, Met l y (.code y cc maxL (some ret) :: tb) (rmx fr lo k w) (va_Pc av (Pre G n ad E sz)) (va_Qi post (fun u t => Aft G (va_A (wl n ad E) sz) n' u.1 u.2 t) (va_A (wl n ad E) sz)) k w (va_A (wl n ad E) sz)
abbrev QI (X : Mx) (G : Gl) (A : Nat → Prop) (n : Nat) (ad : Nat → Nat) (post : Int32 → (Nat → va_E) → Prop) : State → Prop := MQ X.below (va_Qi post (Aft G A n ad) A) X.args X.s 0 0 A
abbrev QV (X : Mx) (G : Gl) (A : Nat → Prop) (n : Nat) (ad : Nat → Nat) (post : (Nat → va_E) → Prop) : State → Prop := MQ X.below (va_Qv post (Aft G A n ad) A) X.args X.s 0 0 A
abbrev QQ (X : Mx) (G : Gl) (A : Nat → Prop) (n : Nat) (ad : Nat → Nat) (post : Option Nat → (Nat → va_E) → Prop) : State → Prop := MQ X.below (va_Qq post (Aft G A n ad) A) X.args X.s 0 0 A
abbrev QN (X : Mx) (G : Gl) (A : Nat → Prop) (n' k w : Nat) (post : (Nat → Nat) × (Nat → va_E) → Prop) : State → Prop := MQ X.below (va_Qv post (fun u t => Aft G A n' u.1 u.2 t) A) X.args X.s k w A
abbrev QM (X : Mx) (G : Gl) (A : Nat → Prop) (n' k w : Nat) (post : Int32 → (Nat → Nat) × (Nat → va_E) → Prop) : State → Prop := MQ X.below (va_Qi post (fun u t => Aft G A n' u.1 u.2 t) A) X.args X.s k w A
theorem Pre.blind {G : Gl} {n : Nat} {ad : Nat → Nat} {E : Nat → va_E} {sz : Nat} {av : List Value} : FrameBlind (va_Pc av (Pre G n ad E sz)) := by
  intro a U g mk h
  obtain ⟨h0, h1, h2, h3, h4, h5⟩ := h
  exact ⟨h0, h1, h2, va_K.moved (u := U) (U := U.calling g mk a) (Vm.Alike.refl U.vm) h3, h4, h5.same rfl⟩
theorem ent {l : Launch} {G : Gl} {y : MethodName} {cc : ByteArray} {maxL : Nat} {ret : Option FieldType} {R : Room} {n : Nat} {ad : Nat → Nat} {E : Nat → va_E} {av : List Value} {sz mc ms : Nat} {Qc : Array Value → State → Outcome → State → Prop} (hy : plainName y.cls = true) (hav : (lg_sl av).length ≤ maxL)
    (body : ∀ (X : Mx) (A : Nat → Prop), A = va_A (wl n ad E) sz → X.s.heap.size = sz → X.meth.name = y.name → Cx X l G A y.cls cc maxL ret R → V X G A maxL (MQ X.below Qc X.args X.s mc ms A) n ad 0 0 E 0 (lv_args 0 av) []) :
    Met l y (.code y cc maxL ret :: tb) R (va_Pc av (Pre G n ad E sz)) Qc mc ms (va_A (wl n ad E) sz) := by
  refine Met.ofW (cc := cc) (maxL := maxL) (ret := ret) hy rfl ?_
  intro p e s m args below meth c s₁ B hml hv
  obtain ⟨rfl, hsz, hP, hK, hD0, hX⟩ := hv
  have hts : ∀ w ∈ tb, w.before av.toArray s = true := fun w hw => atoms_spec (ws := .code y cc maxL ret :: tb) B.pre w (List.mem_cons_of_mem _ hw)
  have hown : s.vm.findClass y.cls = some m.cls := findClass_of_methodNamed B.named
  have hD := hD0.self (sz := sz)
  have hA : ∀ q : Nat, s.heap.size ≤ q → va_A (wl n ad E) sz q := fun q h => Or.inr (by rw [← hsz]; exact h)
  have hl := lv_entry av (n := maxL) hav
  rw [lg_entry_eq]
  exact body (p, l, e, R, s, m, av.toArray, below, meth, c) (va_A (wl n ad E) sz) rfl hsz (name_of_methodNamed B.named B.method).1 ⟨B.exec, B.bytes, hml, hown, hts, hK, hA, hX, B.notSynchronized, B.returns, rfl, rfl⟩ s.heap [] _ hP hD va_S.rf hl
theorem CtI.of {l : Launch} {G : Gl} {y : MethodName} {cc : ByteArray} {maxL : Nat} {ret : FieldType} {fr lo : Nat} {n : Nat} {ad : Nat → Nat} {E : Nat → va_E} {av : List Value} {post : Int32 → (Nat → va_E) → Prop} (hy : plainName y.cls = true) (hav : (lg_sl av).length ≤ maxL)
    (body : ∀ (X : Mx) (A : Nat → Prop), Cx X l G A y.cls cc maxL (some ret) (rmx fr lo 0 0) → V X G A maxL (QI X G A n ad post) n ad 0 0 E 0 (lv_args 0 av) []) : CtI l G y cc maxL ret fr lo n ad E av post :=
  fun _ => ent hy hav fun X A hA _ _ C => by subst hA; exact body X _ C
theorem CtV.of {l : Launch} {G : Gl} {y : MethodName} {cc : ByteArray} {maxL : Nat} {fr lo : Nat} {n : Nat} {ad : Nat → Nat} {E : Nat → va_E} {av : List Value} {post : (Nat → va_E) → Prop} (hy : plainName y.cls = true) (hav : (lg_sl av).length ≤ maxL)
    (body : ∀ (X : Mx) (A : Nat → Prop), Cx X l G A y.cls cc maxL none (rmx fr lo 0 0) → V X G A maxL (QV X G A n ad post) n ad 0 0 E 0 (lv_args 0 av) []) : CtV l G y cc maxL fr lo n ad E av post :=
  fun _ => ent hy hav fun X A hA _ _ C => by subst hA; exact body X _ C
theorem CtQ.of {l : Launch} {G : Gl} {y : MethodName} {cc : ByteArray} {maxL : Nat} {ret : FieldType} {fr lo : Nat} {n : Nat} {ad : Nat → Nat} {E : Nat → va_E} {av : List Value} {post : Option Nat → (Nat → va_E) → Prop} (hy : plainName y.cls = true) (hav : (lg_sl av).length ≤ maxL)
    (body : ∀ (X : Mx) (A : Nat → Prop), Cx X l G A y.cls cc maxL (some ret) (rmx fr lo 0 0) → V X G A maxL (QQ X G A n ad post) n ad 0 0 E 0 (lv_args 0 av) []) : CtQ l G y cc maxL ret fr lo n ad E av post :=
  fun _ => ent hy hav fun X A hA _ _ C => by subst hA; exact body X _ C
theorem CtN.of {l : Launch} {G : Gl} {y : MethodName} {cc : ByteArray} {maxL : Nat} {fr lo k w : Nat} {n n' : Nat} {ad : Nat → Nat} {E : Nat → va_E} {av : List Value} {post : (Nat → Nat) × (Nat → va_E) → Prop} (hy : plainName y.cls = true) (hav : (lg_sl av).length ≤ maxL)
    (body : ∀ (X : Mx) (A : Nat → Prop), X.meth.name = y.name → Cx X l G A y.cls cc maxL none (rmx fr lo k w) → V X G A maxL (QN X G A n' k w post) n ad 0 0 E 0 (lv_args 0 av) []) : CtN l G y cc maxL fr lo k w n n' ad E av post :=
  fun _ => ent hy hav fun X A hA _ hn C => by subst hA; exact body X _ hn C
theorem CtM.of {l : Launch} {G : Gl} {y : MethodName} {cc : ByteArray} {maxL : Nat} {ret : FieldType} {fr lo k w : Nat} {n n' : Nat} {ad : Nat → Nat} {E : Nat → va_E} {av : List Value} {post : Int32 → (Nat → Nat) × (Nat → va_E) → Prop} (hy : plainName y.cls = true) (hav : (lg_sl av).length ≤ maxL)
    (body : ∀ (X : Mx) (A : Nat → Prop), Cx X l G A y.cls cc maxL (some ret) (rmx fr lo k w) → V X G A maxL (QM X G A n' k w post) n ad 0 0 E 0 (lv_args 0 av) []) : CtM l G y cc maxL ret fr lo k w n n' ad E av post :=
  fun _ => ent hy hav fun X A hA _ _ C => by subst hA; exact body X _ C
end
section
section VR
variable {X : Mx} {l : Launch} {G : Gl} {A : Nat → Prop} {own : String} {cc : ByteArray} {nL : Nat} {ret : Option FieldType} {R : Room} {Q : State → Prop} {n : Nat} {ad : Nat → Nat} {ce sl : Nat} {E : Nat → va_E} {pc : Nat} {lv lv' : List (Nat × Value)} {st : List Value}
theorem v_iconst (C : Cx X l G A own cc nL ret R) {a : Int} {v : Int32} (hd : decode cc pc = .ok (.iconst a, 1)) (hv : Int32.ofInt a = v) (k : V X G A nL Q n ad ce sl E (pc + 1) lv (.int v :: st)) : V X G A nL Q n ad ce sl E pc lv st := fun H locs ls hP hD hS hl => lv_iconst C.1 C.2.1 hd hv (k H locs ls hP hD hS hl)
theorem v_bipush (C : Cx X l G A own cc nL ret R) {a : Int} {v : Int32} (hd : decode cc pc = .ok (.bipush a, 2)) (hv : (Int8.ofInt a).toInt32 = v) (k : V X G A nL Q n ad ce sl E (pc + 2) lv (.int v :: st)) : V X G A nL Q n ad ce sl E pc lv st := fun H locs ls hP hD hS hl => lv_bipush C.1 C.2.1 hd hv (k H locs ls hP hD hS hl)
theorem v_sipush (C : Cx X l G A own cc nL ret R) {a : Int} {v : Int32} (hd : decode cc pc = .ok (.sipush a, 3)) (hv : (Int16.ofInt a).toInt32 = v) (k : V X G A nL Q n ad ce sl E (pc + 3) lv (.int v :: st)) : V X G A nL Q n ad ce sl E pc lv st := fun H locs ls hP hD hS hl => lv_sipush C.1 C.2.1 hd hv (k H locs ls hP hD hS hl)
theorem v_lconst (C : Cx X l G A own cc nL ret R) {a : Fin 2} {v : Int64} (hd : decode cc pc = .ok (.lconst a, 1)) (hv : Int64.ofNat (a : Nat) = v) (k : V X G A nL Q n ad ce sl E (pc + 1) lv (.long v :: st)) : V X G A nL Q n ad ce sl E pc lv st := fun H locs ls hP hD hS hl => lv_lconst C.1 C.2.1 hd hv (k H locs ls hP hD hS hl)
theorem v_ldc (C : Cx X l G A own cc nL ret R) {index : Nat} {v : Int32} (hd : decode cc pc = .ok (.ldc index, 2)) (hw : Cond.constant own index v ∈ tb) (k : V X G A nL Q n ad ce sl E (pc + 2) lv (.int v :: st)) : V X G A nL Q n ad ce sl E pc lv st := fun H locs ls hP hD hS hl => lv_ldc C.1 C.2.1 C.2.2.2.1 (C.2.2.2.2.1 _ hw) hd (k H locs ls hP hD hS hl)
theorem v_ldcw (C : Cx X l G A own cc nL ret R) {index : Nat} {v : Int32} (hd : decode cc pc = .ok (.ldc_w index, 3)) (hw : Cond.constant own index v ∈ tb) (k : V X G A nL Q n ad ce sl E (pc + 3) lv (.int v :: st)) : V X G A nL Q n ad ce sl E pc lv st := fun H locs ls hP hD hS hl => lv_ldcw C.1 C.2.1 C.2.2.2.1 (C.2.2.2.2.1 _ hw) hd (k H locs ls hP hD hS hl)
theorem v_ldc2 (C : Cx X l G A own cc nL ret R) {index : Nat} {v : Int64} (hd : decode cc pc = .ok (.ldc2_w index, 3)) (hw : Cond.constantLong own index v ∈ tb) (k : V X G A nL Q n ad ce sl E (pc + 3) lv (.long v :: st)) : V X G A nL Q n ad ce sl E pc lv st := fun H locs ls hP hD hS hl => lv_ldc2 C.1 C.2.1 C.2.2.2.1 (C.2.2.2.2.1 _ hw) hd (k H locs ls hP hD hS hl)
theorem v_iload_n (C : Cx X l G A own cc nL ret R) {q : Fin 4} (j : Nat) {i : Nat} {x : Int32} (hd : decode cc pc = .ok (.iload_n q, 1)) (hi : (q : Nat) = i) (hv : lv[j]? = some (i, .int x)) (k : V X G A nL Q n ad ce sl E (pc + 1) lv (.int x :: st)) : V X G A nL Q n ad ce sl E pc lv st := fun H locs ls hP hD hS hl => lv_iload_n C.1 C.2.1 hd hi (lv_at hl j hv) (k H locs ls hP hD hS hl)
theorem v_iload (C : Cx X l G A own cc nL ret R) (j : Nat) {i : Nat} {x : Int32} (hd : decode cc pc = .ok (.iload i, 2)) (hv : lv[j]? = some (i, .int x)) (k : V X G A nL Q n ad ce sl E (pc + 2) lv (.int x :: st)) : V X G A nL Q n ad ce sl E pc lv st := fun H locs ls hP hD hS hl => lv_iload C.1 C.2.1 hd (lv_at hl j hv) (k H locs ls hP hD hS hl)
theorem v_istore_n (C : Cx X l G A own cc nL ret R) {q : Fin 4} (ks : List Nat) {i : Nat} {x : Int32} (hd : decode cc pc = .ok (.istore_n q, 1)) (hi : (q : Nat) = i) (hn : i < nL) (hv : lv_pick ((i, Value.int x) :: lv.filter (fun q => !(q.1 == i) && !(q.1 + 1 == i && q.2.category == 2))) ks = lv') (k : V X G A nL Q n ad ce sl E (pc + 1) lv' st) : V X G A nL Q n ad ce sl E pc lv (.int x :: st) := fun H locs ls hP hD hS hl => lv_istore_n C.1 C.2.1 hd hi hl hn rfl (fun ls hl => k H locs ls hP hD hS (lv_sub hl ks hv))
theorem v_istore (C : Cx X l G A own cc nL ret R) (ks : List Nat) {i : Nat} {x : Int32} (hd : decode cc pc = .ok (.istore i, 2)) (hn : i < nL) (hv : lv_pick ((i, Value.int x) :: lv.filter (fun q => !(q.1 == i) && !(q.1 + 1 == i && q.2.category == 2))) ks = lv') (k : V X G A nL Q n ad ce sl E (pc + 2) lv' st) : V X G A nL Q n ad ce sl E pc lv (.int x :: st) := fun H locs ls hP hD hS hl => lv_istore C.1 C.2.1 hd hl hn rfl (fun ls hl => k H locs ls hP hD hS (lv_sub hl ks hv))
theorem v_lload_n (C : Cx X l G A own cc nL ret R) {q : Fin 4} (j : Nat) {i : Nat} {x : Int64} (hd : decode cc pc = .ok (.lload_n q, 1)) (hi : (q : Nat) = i) (hv : lv[j]? = some (i, .long x)) (k : V X G A nL Q n ad ce sl E (pc + 1) lv (.long x :: st)) : V X G A nL Q n ad ce sl E pc lv st := fun H locs ls hP hD hS hl => lv_lload_n C.1 C.2.1 hd hi (lv_at hl j hv) (k H locs ls hP hD hS hl)
theorem v_lload (C : Cx X l G A own cc nL ret R) (j : Nat) {i : Nat} {x : Int64} (hd : decode cc pc = .ok (.lload i, 2)) (hv : lv[j]? = some (i, .long x)) (k : V X G A nL Q n ad ce sl E (pc + 2) lv (.long x :: st)) : V X G A nL Q n ad ce sl E pc lv st := fun H locs ls hP hD hS hl => lv_lload C.1 C.2.1 hd (lv_at hl j hv) (k H locs ls hP hD hS hl)
theorem v_lstore_n (C : Cx X l G A own cc nL ret R) {q : Fin 4} (ks : List Nat) {i : Nat} {x : Int64} (hd : decode cc pc = .ok (.lstore_n q, 1)) (hi : (q : Nat) = i) (hn : i + 1 < nL) (hv : lv_pick ((i, Value.long x) :: lv.filter (fun q => !(q.1 == i) && (!(q.1 == i + 1) && !(q.1 + 1 == i && q.2.category == 2)))) ks = lv') (k : V X G A nL Q n ad ce sl E (pc + 1) lv' st) : V X G A nL Q n ad ce sl E pc lv (.long x :: st) := fun H locs ls hP hD hS hl => lv_lstore_n C.1 C.2.1 hd hi hl hn rfl (fun ls hl => k H locs ls hP hD hS (lv_sub hl ks hv))
theorem v_lstore (C : Cx X l G A own cc nL ret R) (ks : List Nat) {i : Nat} {x : Int64} (hd : decode cc pc = .ok (.lstore i, 2)) (hn : i + 1 < nL) (hv : lv_pick ((i, Value.long x) :: lv.filter (fun q => !(q.1 == i) && (!(q.1 == i + 1) && !(q.1 + 1 == i && q.2.category == 2)))) ks = lv') (k : V X G A nL Q n ad ce sl E (pc + 2) lv' st) : V X G A nL Q n ad ce sl E pc lv (.long x :: st) := fun H locs ls hP hD hS hl => lv_lstore C.1 C.2.1 hd hl hn rfl (fun ls hl => k H locs ls hP hD hS (lv_sub hl ks hv))
theorem v_aload_n (C : Cx X l G A own cc nL ret R) {q : Fin 4} (j : Nat) {i : Nat} {x : Nat} (hd : decode cc pc = .ok (.aload_n q, 1)) (hi : (q : Nat) = i) (hv : lv[j]? = some (i, .ref x)) (k : V X G A nL Q n ad ce sl E (pc + 1) lv (.ref x :: st)) : V X G A nL Q n ad ce sl E pc lv st := fun H locs ls hP hD hS hl => lv_aload_n C.1 C.2.1 hd hi (lv_at hl j hv) (k H locs ls hP hD hS hl)
theorem v_aload (C : Cx X l G A own cc nL ret R) (j : Nat) {i : Nat} {x : Nat} (hd : decode cc pc = .ok (.aload i, 2)) (hv : lv[j]? = some (i, .ref x)) (k : V X G A nL Q n ad ce sl E (pc + 2) lv (.ref x :: st)) : V X G A nL Q n ad ce sl E pc lv st := fun H locs ls hP hD hS hl => lv_aload C.1 C.2.1 hd (lv_at hl j hv) (k H locs ls hP hD hS hl)
theorem v_astore_n (C : Cx X l G A own cc nL ret R) {q : Fin 4} (ks : List Nat) {i : Nat} {x : Nat} (hd : decode cc pc = .ok (.astore_n q, 1)) (hi : (q : Nat) = i) (hn : i < nL) (hv : lv_pick ((i, Value.ref x) :: lv.filter (fun q => !(q.1 == i) && !(q.1 + 1 == i && q.2.category == 2))) ks = lv') (k : V X G A nL Q n ad ce sl E (pc + 1) lv' st) : V X G A nL Q n ad ce sl E pc lv (.ref x :: st) := fun H locs ls hP hD hS hl => lv_astore_n C.1 C.2.1 hd hi hl hn rfl (fun ls hl => k H locs ls hP hD hS (lv_sub hl ks hv))
theorem v_astore (C : Cx X l G A own cc nL ret R) (ks : List Nat) {i : Nat} {x : Nat} (hd : decode cc pc = .ok (.astore i, 2)) (hn : i < nL) (hv : lv_pick ((i, Value.ref x) :: lv.filter (fun q => !(q.1 == i) && !(q.1 + 1 == i && q.2.category == 2))) ks = lv') (k : V X G A nL Q n ad ce sl E (pc + 2) lv' st) : V X G A nL Q n ad ce sl E pc lv (.ref x :: st) := fun H locs ls hP hD hS hl => lv_astore C.1 C.2.1 hd hl hn rfl (fun ls hl => k H locs ls hP hD hS (lv_sub hl ks hv))
theorem v_iinc (C : Cx X l G A own cc nL ret R) (j : Nat) (ks : List Nat) {i : Nat} {a : Int} {x v : Int32} (hd : decode cc pc = .ok (.iinc i a, 3)) (hj : lv[j]? = some (i, .int x)) (hx : x + Int32.ofInt a = v) (hn : i < nL) (hv : lv_pick ((i, Value.int v) :: lv.filter (fun q => !(q.1 == i) && !(q.1 + 1 == i && q.2.category == 2))) ks = lv') (k : V X G A nL Q n ad ce sl E (pc + 3) lv' st) : V X G A nL Q n ad ce sl E pc lv st := fun H locs ls hP hD hS hl => lv_iinc C.1 C.2.1 hd hl hj hx hn rfl (fun ls hl => k H locs ls hP hD hS (lv_sub hl ks hv))
theorem v_sub (ks : List Nat) (hv : lv_pick lv ks = lv') (k : V X G A nL Q n ad ce sl E pc lv' st) : V X G A nL Q n ad ce sl E pc lv st := fun H locs ls hP hD hS hl => k H locs ls hP hD hS (lv_sub hl ks hv)
theorem v_iadd (C : Cx X l G A own cc nL ret R) {x y : Int32} (hd : decode cc pc = .ok (.iadd, 1)) (k : V X G A nL Q n ad ce sl E (pc + 1) lv (.int (x + y) :: st)) : V X G A nL Q n ad ce sl E pc lv (.int y :: .int x :: st) := fun H locs ls hP hD hS hl => lv_iadd C.1 C.2.1 hd (k H locs ls hP hD hS hl)
theorem v_isub (C : Cx X l G A own cc nL ret R) {x y : Int32} (hd : decode cc pc = .ok (.isub, 1)) (k : V X G A nL Q n ad ce sl E (pc + 1) lv (.int (x - y) :: st)) : V X G A nL Q n ad ce sl E pc lv (.int y :: .int x :: st) := fun H locs ls hP hD hS hl => lv_isub C.1 C.2.1 hd (k H locs ls hP hD hS hl)
theorem v_imul (C : Cx X l G A own cc nL ret R) {x y : Int32} (hd : decode cc pc = .ok (.imul, 1)) (k : V X G A nL Q n ad ce sl E (pc + 1) lv (.int (x * y) :: st)) : V X G A nL Q n ad ce sl E pc lv (.int y :: .int x :: st) := fun H locs ls hP hD hS hl => lv_imul C.1 C.2.1 hd (k H locs ls hP hD hS hl)
theorem v_iand (C : Cx X l G A own cc nL ret R) {x y : Int32} (hd : decode cc pc = .ok (.iand, 1)) (k : V X G A nL Q n ad ce sl E (pc + 1) lv (.int (x &&& y) :: st)) : V X G A nL Q n ad ce sl E pc lv (.int y :: .int x :: st) := fun H locs ls hP hD hS hl => lv_iand C.1 C.2.1 hd (k H locs ls hP hD hS hl)
theorem v_ixor (C : Cx X l G A own cc nL ret R) {x y : Int32} (hd : decode cc pc = .ok (.ixor, 1)) (k : V X G A nL Q n ad ce sl E (pc + 1) lv (.int (x ^^^ y) :: st)) : V X G A nL Q n ad ce sl E pc lv (.int y :: .int x :: st) := fun H locs ls hP hD hS hl => lv_ixor C.1 C.2.1 hd (k H locs ls hP hD hS hl)
theorem v_ishr (C : Cx X l G A own cc nL ret R) {x y : Int32} (hd : decode cc pc = .ok (.ishr, 1)) (k : V X G A nL Q n ad ce sl E (pc + 1) lv (.int (x >>> (y &&& 31)) :: st)) : V X G A nL Q n ad ce sl E pc lv (.int y :: .int x :: st) := fun H locs ls hP hD hS hl => lv_ishr C.1 C.2.1 hd (k H locs ls hP hD hS hl)
theorem v_idiv (C : Cx X l G A own cc nL ret R) {x y : Int32} (hd : decode cc pc = .ok (.idiv, 1)) (hne : ¬ y = 0) (k : V X G A nL Q n ad ce sl E (pc + 1) lv (.int (x / y) :: st)) : V X G A nL Q n ad ce sl E pc lv (.int y :: .int x :: st) := fun H locs ls hP hD hS hl => lv_idiv C.1 C.2.1 hd hne (k H locs ls hP hD hS hl)
theorem v_irem (C : Cx X l G A own cc nL ret R) {x y : Int32} (hd : decode cc pc = .ok (.irem, 1)) (hne : ¬ y = 0) (k : V X G A nL Q n ad ce sl E (pc + 1) lv (.int (x - x / y * y) :: st)) : V X G A nL Q n ad ce sl E pc lv (.int y :: .int x :: st) := fun H locs ls hP hD hS hl => lv_irem C.1 C.2.1 hd hne (k H locs ls hP hD hS hl)
theorem v_ineg (C : Cx X l G A own cc nL ret R) {x : Int32} (hd : decode cc pc = .ok (.ineg, 1)) (k : V X G A nL Q n ad ce sl E (pc + 1) lv (.int (-x) :: st)) : V X G A nL Q n ad ce sl E pc lv (.int x :: st) := fun H locs ls hP hD hS hl => lv_ineg C.1 C.2.1 hd (k H locs ls hP hD hS hl)
theorem v_ladd (C : Cx X l G A own cc nL ret R) {x y : Int64} (hd : decode cc pc = .ok (.ladd, 1)) (k : V X G A nL Q n ad ce sl E (pc + 1) lv (.long (x + y) :: st)) : V X G A nL Q n ad ce sl E pc lv (.long y :: .long x :: st) := fun H locs ls hP hD hS hl => lv_ladd C.1 C.2.1 hd (k H locs ls hP hD hS hl)
theorem v_lsub (C : Cx X l G A own cc nL ret R) {x y : Int64} (hd : decode cc pc = .ok (.lsub, 1)) (k : V X G A nL Q n ad ce sl E (pc + 1) lv (.long (x - y) :: st)) : V X G A nL Q n ad ce sl E pc lv (.long y :: .long x :: st) := fun H locs ls hP hD hS hl => lv_lsub C.1 C.2.1 hd (k H locs ls hP hD hS hl)
theorem v_lmul (C : Cx X l G A own cc nL ret R) {x y : Int64} (hd : decode cc pc = .ok (.lmul, 1)) (k : V X G A nL Q n ad ce sl E (pc + 1) lv (.long (x * y) :: st)) : V X G A nL Q n ad ce sl E pc lv (.long y :: .long x :: st) := fun H locs ls hP hD hS hl => lv_lmul C.1 C.2.1 hd (k H locs ls hP hD hS hl)
theorem v_land (C : Cx X l G A own cc nL ret R) {x y : Int64} (hd : decode cc pc = .ok (.land, 1)) (k : V X G A nL Q n ad ce sl E (pc + 1) lv (.long (x &&& y) :: st)) : V X G A nL Q n ad ce sl E pc lv (.long y :: .long x :: st) := fun H locs ls hP hD hS hl => lv_land C.1 C.2.1 hd (k H locs ls hP hD hS hl)
theorem v_lor (C : Cx X l G A own cc nL ret R) {x y : Int64} (hd : decode cc pc = .ok (.lor, 1)) (k : V X G A nL Q n ad ce sl E (pc + 1) lv (.long (x ||| y) :: st)) : V X G A nL Q n ad ce sl E pc lv (.long y :: .long x :: st) := fun H locs ls hP hD hS hl => lv_lor C.1 C.2.1 hd (k H locs ls hP hD hS hl)
theorem v_lxor (C : Cx X l G A own cc nL ret R) {x y : Int64} (hd : decode cc pc = .ok (.lxor, 1)) (k : V X G A nL Q n ad ce sl E (pc + 1) lv (.long (x ^^^ y) :: st)) : V X G A nL Q n ad ce sl E pc lv (.long y :: .long x :: st) := fun H locs ls hP hD hS hl => lv_lxor C.1 C.2.1 hd (k H locs ls hP hD hS hl)
theorem v_lneg (C : Cx X l G A own cc nL ret R) {x : Int64} (hd : decode cc pc = .ok (.lneg, 1)) (k : V X G A nL Q n ad ce sl E (pc + 1) lv (.long (-x) :: st)) : V X G A nL Q n ad ce sl E pc lv (.long x :: st) := fun H locs ls hP hD hS hl => lv_lneg C.1 C.2.1 hd (k H locs ls hP hD hS hl)
theorem v_ldiv (C : Cx X l G A own cc nL ret R) {x y : Int64} (hd : decode cc pc = .ok (.ldiv, 1)) (hne : ¬ y = 0) (k : V X G A nL Q n ad ce sl E (pc + 1) lv (.long (x / y) :: st)) : V X G A nL Q n ad ce sl E pc lv (.long y :: .long x :: st) := fun H locs ls hP hD hS hl => lv_ldiv C.1 C.2.1 hd hne (k H locs ls hP hD hS hl)
theorem v_lshl (C : Cx X l G A own cc nL ret R) {x v : Int64} {y : Int32} (hd : decode cc pc = .ok (.lshl, 1)) (hv : x <<< (y.toInt64 &&& 63) = v) (k : V X G A nL Q n ad ce sl E (pc + 1) lv (.long v :: st)) : V X G A nL Q n ad ce sl E pc lv (.int y :: .long x :: st) := fun H locs ls hP hD hS hl => lv_lshl C.1 C.2.1 hd hv (k H locs ls hP hD hS hl)
theorem v_i2l (C : Cx X l G A own cc nL ret R) {x : Int32} {v : Int64} (hd : decode cc pc = .ok (.i2l, 1)) (hv : x.toInt64 = v) (k : V X G A nL Q n ad ce sl E (pc + 1) lv (.long v :: st)) : V X G A nL Q n ad ce sl E pc lv (.int x :: st) := fun H locs ls hP hD hS hl => lv_i2l C.1 C.2.1 hd hv (k H locs ls hP hD hS hl)
theorem v_l2i (C : Cx X l G A own cc nL ret R) {x : Int64} {v : Int32} (hd : decode cc pc = .ok (.l2i, 1)) (hv : x.toInt32 = v) (k : V X G A nL Q n ad ce sl E (pc + 1) lv (.int v :: st)) : V X G A nL Q n ad ce sl E pc lv (.long x :: st) := fun H locs ls hP hD hS hl => lv_l2i C.1 C.2.1 hd hv (k H locs ls hP hD hS hl)
theorem v_lcmp (C : Cx X l G A own cc nL ret R) {x y : Int64} (hd : decode cc pc = .ok (.lcmp, 1)) (k : V X G A nL Q n ad ce sl E (pc + 1) lv (.int (lg_cmp x y) :: st)) : V X G A nL Q n ad ce sl E pc lv (.long y :: .long x :: st) := fun H locs ls hP hD hS hl => W.lcmp C.1 C.2.1 hd (k H locs ls hP hD hS hl)
theorem v_dup (C : Cx X l G A own cc nL ret R) {va : Value} (hd : decode cc pc = .ok (.dup, 1)) (hva : va.category = 1) (k : V X G A nL Q n ad ce sl E (pc + 1) lv (va :: va :: st)) : V X G A nL Q n ad ce sl E pc lv (va :: st) := fun H locs ls hP hD hS hl => lv_dup C.1 C.2.1 hd hva (k H locs ls hP hD hS hl)
theorem v_pop (C : Cx X l G A own cc nL ret R) {va : Value} (hd : decode cc pc = .ok (.pop, 1)) (hva : va.category = 1) (k : V X G A nL Q n ad ce sl E (pc + 1) lv st) : V X G A nL Q n ad ce sl E pc lv (va :: st) := fun H locs ls hP hD hS hl => lv_pop C.1 C.2.1 hd hva (k H locs ls hP hD hS hl)
theorem v_dup2_11 (C : Cx X l G A own cc nL ret R) {va vb : Value} (hd : decode cc pc = .ok (.dup2, 1)) (hva : va.category = 1) (hvb : vb.category = 1) (k : V X G A nL Q n ad ce sl E (pc + 1) lv (va :: vb :: va :: vb :: st)) : V X G A nL Q n ad ce sl E pc lv (va :: vb :: st) := fun H locs ls hP hD hS hl => lv_dup2_11 C.1 C.2.1 hd hva hvb (k H locs ls hP hD hS hl)
theorem v_null (C : Cx X l G A own cc nL ret R) (hd : decode cc pc = .ok (.aconst_null, 1)) (k : V X G A nL Q n ad ce sl E (pc + 1) lv (.null :: st)) : V X G A nL Q n ad ce sl E pc lv st := fun H locs ls hP hD hS hl => lv_null C.1 C.2.1 hd (k H locs ls hP hD hS hl)
theorem v_top {x : Int32} (k : ∀ y : Int32, y = x → V X G A nL Q n ad ce sl E pc lv (.int y :: st)) : V X G A nL Q n ad ce sl E pc lv (.int x :: st) := k x rfl
theorem v_topl {x : Int64} (k : ∀ y : Int64, y = x → V X G A nL Q n ad ce sl E pc lv (.long y :: st)) : V X G A nL Q n ad ce sl E pc lv (.long x :: st) := k x rfl
theorem v_icmp_eq (C : Cx X l G A own cc nL ret R) {x y : Int32} {off : Int} (tgt : Nat) (hd : decode cc pc = .ok (.if_icmp .eq off, 3)) (ht : (pc : Int) + off = (tgt : Int)) (kt : x = y → V X G A nL Q n ad ce sl E tgt lv st) (kf : ¬ x = y → V X G A nL Q n ad ce sl E (pc + 3) lv st) : V X G A nL Q n ad ce sl E pc lv (.int y :: .int x :: st) := fun H locs ls hP hD hS hl => lv_icmp_eq C.1 C.2.1 hd ht (fun h => kt h H locs ls hP hD hS hl) (fun h => kf h H locs ls hP hD hS hl)
theorem v_if_eq (C : Cx X l G A own cc nL ret R) {x : Int32} {off : Int} (tgt : Nat) (hd : decode cc pc = .ok (.ifCond .eq off, 3)) (ht : (pc : Int) + off = (tgt : Int)) (kt : x = 0 → V X G A nL Q n ad ce sl E tgt lv st) (kf : ¬ x = 0 → V X G A nL Q n ad ce sl E (pc + 3) lv st) : V X G A nL Q n ad ce sl E pc lv (.int x :: st) := fun H locs ls hP hD hS hl => lv_if_eq C.1 C.2.1 hd ht (fun h => kt h H locs ls hP hD hS hl) (fun h => kf h H locs ls hP hD hS hl)
theorem v_icmp_ne (C : Cx X l G A own cc nL ret R) {x y : Int32} {off : Int} (tgt : Nat) (hd : decode cc pc = .ok (.if_icmp .ne off, 3)) (ht : (pc : Int) + off = (tgt : Int)) (kt : ¬ x = y → V X G A nL Q n ad ce sl E tgt lv st) (kf : x = y → V X G A nL Q n ad ce sl E (pc + 3) lv st) : V X G A nL Q n ad ce sl E pc lv (.int y :: .int x :: st) := fun H locs ls hP hD hS hl => lv_icmp_ne C.1 C.2.1 hd ht (fun h => kt h H locs ls hP hD hS hl) (fun h => kf h H locs ls hP hD hS hl)
theorem v_if_ne (C : Cx X l G A own cc nL ret R) {x : Int32} {off : Int} (tgt : Nat) (hd : decode cc pc = .ok (.ifCond .ne off, 3)) (ht : (pc : Int) + off = (tgt : Int)) (kt : ¬ x = 0 → V X G A nL Q n ad ce sl E tgt lv st) (kf : x = 0 → V X G A nL Q n ad ce sl E (pc + 3) lv st) : V X G A nL Q n ad ce sl E pc lv (.int x :: st) := fun H locs ls hP hD hS hl => lv_if_ne C.1 C.2.1 hd ht (fun h => kt h H locs ls hP hD hS hl) (fun h => kf h H locs ls hP hD hS hl)
theorem v_icmp_lt (C : Cx X l G A own cc nL ret R) {x y : Int32} {off : Int} (tgt : Nat) (hd : decode cc pc = .ok (.if_icmp .lt off, 3)) (ht : (pc : Int) + off = (tgt : Int)) (kt : x < y → V X G A nL Q n ad ce sl E tgt lv st) (kf : ¬ x < y → V X G A nL Q n ad ce sl E (pc + 3) lv st) : V X G A nL Q n ad ce sl E pc lv (.int y :: .int x :: st) := fun H locs ls hP hD hS hl => lv_icmp_lt C.1 C.2.1 hd ht (fun h => kt h H locs ls hP hD hS hl) (fun h => kf h H locs ls hP hD hS hl)
theorem v_if_lt (C : Cx X l G A own cc nL ret R) {x : Int32} {off : Int} (tgt : Nat) (hd : decode cc pc = .ok (.ifCond .lt off, 3)) (ht : (pc : Int) + off = (tgt : Int)) (kt : x < 0 → V X G A nL Q n ad ce sl E tgt lv st) (kf : ¬ x < 0 → V X G A nL Q n ad ce sl E (pc + 3) lv st) : V X G A nL Q n ad ce sl E pc lv (.int x :: st) := fun H locs ls hP hD hS hl => lv_if_lt C.1 C.2.1 hd ht (fun h => kt h H locs ls hP hD hS hl) (fun h => kf h H locs ls hP hD hS hl)
theorem v_icmp_ge (C : Cx X l G A own cc nL ret R) {x y : Int32} {off : Int} (tgt : Nat) (hd : decode cc pc = .ok (.if_icmp .ge off, 3)) (ht : (pc : Int) + off = (tgt : Int)) (kt : y ≤ x → V X G A nL Q n ad ce sl E tgt lv st) (kf : ¬ y ≤ x → V X G A nL Q n ad ce sl E (pc + 3) lv st) : V X G A nL Q n ad ce sl E pc lv (.int y :: .int x :: st) := fun H locs ls hP hD hS hl => lv_icmp_ge C.1 C.2.1 hd ht (fun h => kt h H locs ls hP hD hS hl) (fun h => kf h H locs ls hP hD hS hl)
theorem v_if_ge (C : Cx X l G A own cc nL ret R) {x : Int32} {off : Int} (tgt : Nat) (hd : decode cc pc = .ok (.ifCond .ge off, 3)) (ht : (pc : Int) + off = (tgt : Int)) (kt : 0 ≤ x → V X G A nL Q n ad ce sl E tgt lv st) (kf : ¬ 0 ≤ x → V X G A nL Q n ad ce sl E (pc + 3) lv st) : V X G A nL Q n ad ce sl E pc lv (.int x :: st) := fun H locs ls hP hD hS hl => lv_if_ge C.1 C.2.1 hd ht (fun h => kt h H locs ls hP hD hS hl) (fun h => kf h H locs ls hP hD hS hl)
theorem v_icmp_gt (C : Cx X l G A own cc nL ret R) {x y : Int32} {off : Int} (tgt : Nat) (hd : decode cc pc = .ok (.if_icmp .gt off, 3)) (ht : (pc : Int) + off = (tgt : Int)) (kt : y < x → V X G A nL Q n ad ce sl E tgt lv st) (kf : ¬ y < x → V X G A nL Q n ad ce sl E (pc + 3) lv st) : V X G A nL Q n ad ce sl E pc lv (.int y :: .int x :: st) := fun H locs ls hP hD hS hl => lv_icmp_gt C.1 C.2.1 hd ht (fun h => kt h H locs ls hP hD hS hl) (fun h => kf h H locs ls hP hD hS hl)
theorem v_if_gt (C : Cx X l G A own cc nL ret R) {x : Int32} {off : Int} (tgt : Nat) (hd : decode cc pc = .ok (.ifCond .gt off, 3)) (ht : (pc : Int) + off = (tgt : Int)) (kt : 0 < x → V X G A nL Q n ad ce sl E tgt lv st) (kf : ¬ 0 < x → V X G A nL Q n ad ce sl E (pc + 3) lv st) : V X G A nL Q n ad ce sl E pc lv (.int x :: st) := fun H locs ls hP hD hS hl => lv_if_gt C.1 C.2.1 hd ht (fun h => kt h H locs ls hP hD hS hl) (fun h => kf h H locs ls hP hD hS hl)
theorem v_icmp_le (C : Cx X l G A own cc nL ret R) {x y : Int32} {off : Int} (tgt : Nat) (hd : decode cc pc = .ok (.if_icmp .le off, 3)) (ht : (pc : Int) + off = (tgt : Int)) (kt : x ≤ y → V X G A nL Q n ad ce sl E tgt lv st) (kf : ¬ x ≤ y → V X G A nL Q n ad ce sl E (pc + 3) lv st) : V X G A nL Q n ad ce sl E pc lv (.int y :: .int x :: st) := fun H locs ls hP hD hS hl => lv_icmp_le C.1 C.2.1 hd ht (fun h => kt h H locs ls hP hD hS hl) (fun h => kf h H locs ls hP hD hS hl)
theorem v_if_le (C : Cx X l G A own cc nL ret R) {x : Int32} {off : Int} (tgt : Nat) (hd : decode cc pc = .ok (.ifCond .le off, 3)) (ht : (pc : Int) + off = (tgt : Int)) (kt : x ≤ 0 → V X G A nL Q n ad ce sl E tgt lv st) (kf : ¬ x ≤ 0 → V X G A nL Q n ad ce sl E (pc + 3) lv st) : V X G A nL Q n ad ce sl E pc lv (.int x :: st) := fun H locs ls hP hD hS hl => lv_if_le C.1 C.2.1 hd ht (fun h => kt h H locs ls hP hD hS hl) (fun h => kf h H locs ls hP hD hS hl)
theorem v_goto (C : Cx X l G A own cc nL ret R) {off : Int} (tgt : Nat) (hd : decode cc pc = .ok (.goto off, 3)) (ht : (pc : Int) + off = (tgt : Int)) (k : V X G A nL Q n ad ce sl E tgt lv st) : V X G A nL Q n ad ce sl E pc lv st := fun H locs ls hP hD hS hl => lv_goto C.1 C.2.1 hd ht (k H locs ls hP hD hS hl)
theorem v_ifnull (C : Cx X l G A own cc nL ret R) {x : Nat} {off : Int} (hd : decode cc pc = .ok (.ifnull off, 3)) (k : V X G A nL Q n ad ce sl E (pc + 3) lv st) : V X G A nL Q n ad ce sl E pc lv (.ref x :: st) := fun H locs ls hP hD hS hl => lv_ifnull C.1 C.2.1 hd (k H locs ls hP hD hS hl)
theorem v_ifnullN (C : Cx X l G A own cc nL ret R) {off : Int} (tgt : Nat) (hd : decode cc pc = .ok (.ifnull off, 3)) (ht : (pc : Int) + off = (tgt : Int)) (k : V X G A nL Q n ad ce sl E tgt lv st) : V X G A nL Q n ad ce sl E pc lv (.null :: st) := fun H locs ls hP hD hS hl => lv_ifnullN C.1 C.2.1 hd ht (k H locs ls hP hD hS hl)
theorem v_ifnonnull (C : Cx X l G A own cc nL ret R) {x : Nat} {off : Int} (tgt : Nat) (hd : decode cc pc = .ok (.ifnonnull off, 3)) (ht : (pc : Int) + off = (tgt : Int)) (k : V X G A nL Q n ad ce sl E tgt lv st) : V X G A nL Q n ad ce sl E pc lv (.ref x :: st) := fun H locs ls hP hD hS hl => lv_ifnonnull C.1 C.2.1 hd ht (k H locs ls hP hD hS hl)
theorem v_ifnonnullN (C : Cx X l G A own cc nL ret R) {off : Int} (hd : decode cc pc = .ok (.ifnonnull off, 3)) (k : V X G A nL Q n ad ce sl E (pc + 3) lv st) : V X G A nL Q n ad ce sl E pc lv (.null :: st) := fun H locs ls hP hD hS hl => lv_ifnonnullN C.1 C.2.1 hd (k H locs ls hP hD hS hl)
theorem v_aload_nN (C : Cx X l G A own cc nL ret R) {q : Fin 4} (j : Nat) {i : Nat} (hd : decode cc pc = .ok (.aload_n q, 1)) (hi : (q : Nat) = i) (hv : lv[j]? = some (i, .null)) (k : V X G A nL Q n ad ce sl E (pc + 1) lv (.null :: st)) : V X G A nL Q n ad ce sl E pc lv st := fun H locs ls hP hD hS hl => lv_aload_nN C.1 C.2.1 hd hi (lv_at hl j hv) (k H locs ls hP hD hS hl)
theorem v_aloadN (C : Cx X l G A own cc nL ret R) (j : Nat) {i : Nat} (hd : decode cc pc = .ok (.aload i, 2)) (hv : lv[j]? = some (i, .null)) (k : V X G A nL Q n ad ce sl E (pc + 2) lv (.null :: st)) : V X G A nL Q n ad ce sl E pc lv st := fun H locs ls hP hD hS hl => lv_aloadN C.1 C.2.1 hd (lv_at hl j hv) (k H locs ls hP hD hS hl)
theorem v_astore_nN (C : Cx X l G A own cc nL ret R) {q : Fin 4} (ks : List Nat) {i : Nat} (hd : decode cc pc = .ok (.astore_n q, 1)) (hi : (q : Nat) = i) (hn : i < nL) (hv : lv_pick ((i, Value.null) :: lv.filter (fun q => !(q.1 == i) && !(q.1 + 1 == i && q.2.category == 2))) ks = lv') (k : V X G A nL Q n ad ce sl E (pc + 1) lv' st) : V X G A nL Q n ad ce sl E pc lv (.null :: st) := fun H locs ls hP hD hS hl => lv_astore_nN C.1 C.2.1 hd hi hl hn rfl (fun ls hl => k H locs ls hP hD hS (lv_sub hl ks hv))
theorem v_astoreN (C : Cx X l G A own cc nL ret R) (ks : List Nat) {i : Nat} (hd : decode cc pc = .ok (.astore i, 2)) (hn : i < nL) (hv : lv_pick ((i, Value.null) :: lv.filter (fun q => !(q.1 == i) && !(q.1 + 1 == i && q.2.category == 2))) ks = lv') (k : V X G A nL Q n ad ce sl E (pc + 2) lv' st) : V X G A nL Q n ad ce sl E pc lv (.null :: st) := fun H locs ls hP hD hS hl => lv_astoreN C.1 C.2.1 hd hl hn rfl (fun ls hl => k H locs ls hP hD hS (lv_sub hl ks hv))
theorem v_tableIn (C : Cx X l G A own cc nL ret R) {dflt lo hi : Int} {offs : Array Int} {len : Nat} {x : Int32} {off : Int} (tgt : Nat) (hd : decode cc pc = .ok (.tableswitch dflt lo hi offs, len)) (h1 : ¬ x.toInt < lo) (h2 : ¬ hi < x.toInt) (ho : offs[(x.toInt - lo).toNat]? = some off) (ht : (pc : Int) + off = (tgt : Int)) (k : V X G A nL Q n ad ce sl E tgt lv st) : V X G A nL Q n ad ce sl E pc lv (.int x :: st) := fun H locs ls hP hD hS hl => lv_tableIn C.1 C.2.1 hd h1 h2 ho ht (k H locs ls hP hD hS hl)
theorem v_tableOut (C : Cx X l G A own cc nL ret R) {dflt lo hi : Int} {offs : Array Int} {len : Nat} {x : Int32} (tgt : Nat) (hd : decode cc pc = .ok (.tableswitch dflt lo hi offs, len)) (h : x.toInt < lo ∨ hi < x.toInt) (ht : (pc : Int) + dflt = (tgt : Int)) (k : V X G A nL Q n ad ce sl E tgt lv st) : V X G A nL Q n ad ce sl E pc lv (.int x :: st) := fun H locs ls hP hD hS hl => lv_tableOut C.1 C.2.1 hd h ht (k H locs ls hP hD hS hl)
theorem v_geti (C : Cx X l G A own cc nL ret R) (b : Nat) {index ci k : Nat} {r : Nat → Option Nat} {i : Nat → Int32} {v : Int32} (hd : decode cc pc = .ok (.getfield index, 3)) (hf : FL own index ci k) (hbn : b < n) (hE : E b = ob ci r i) (hm : clM ci k = false) (hv : i k = v) (kk : V X G A nL Q n ad ce sl E (pc + 3) lv (.int v :: st)) : V X G A nL Q n ad ce sl E pc lv (.ref (ad b) :: st) := fun H locs ls hP hD hS hl =>
  va_get (D := G.1) (C := clR ci) (T := clT ci) (N := clN ci) (ci := ci) C.1 C.2.1 C.2.2.2.2.1 (cl_in hf.2.2) C.2.2.2.1 C.2.2.2.2.2.1 hP b (wl_e hbn hE) (cl_ok hf.2.2) k hf.2.1 (C.2.2.2.2.1 _ hf.1) (fun _ h => h) (fl_int hf.2.1 hm hv) hd (kk H locs ls hP hD hS hl)
theorem v_getr (C : Cx X l G A own cc nL ret R) (b : Nat) {index ci k : Nat} {r : Nat → Option Nat} {i : Nat → Int32} {v : Nat} (hd : decode cc pc = .ok (.getfield index, 3)) (hf : FL own index ci k) (hbn : b < n) (hE : E b = ob ci r i) (hm : clM ci k = true) (hv : r k = some v) (kk : V X G A nL Q n ad ce sl E (pc + 3) lv (.ref v :: st)) : V X G A nL Q n ad ce sl E pc lv (.ref (ad b) :: st) := fun H locs ls hP hD hS hl =>
  va_get (D := G.1) (C := clR ci) (T := clT ci) (N := clN ci) (ci := ci) C.1 C.2.1 C.2.2.2.2.1 (cl_in hf.2.2) C.2.2.2.1 C.2.2.2.2.2.1 hP b (wl_e hbn hE) (cl_ok hf.2.2) k hf.2.1 (C.2.2.2.2.1 _ hf.1) (fun _ h => h) (fl_ref hf.2.1 hm hv) hd (kk H locs ls hP hD hS hl)
theorem v_puti (C : Cx X l G A own cc nL ret R) (b : Nat) {index ci k : Nat} {r : Nat → Option Nat} {i : Nat → Int32} {v : Int32} (hd : decode cc pc = .ok (.putfield index, 3)) (hf : FL own index ci k) (hbn : b < n) (hE : E b = ob ci r i) (hm : clM ci k = false) (hfin : (clT ci k).2.2.2 = false) (hn : narrow (clY ci k) (.int v) = .int v) (hfit : fits (clY ci k) (.int v) = true) (kk : ∀ E1 : Nat → va_E, E1 b = ob ci r (va_up i k v) → (∀ j, j ≠ b → E1 j = E j) → V X G A nL Q n ad ce sl E1 (pc + 3) lv st) : V X G A nL Q n ad ce sl E pc lv (.int v :: .ref (ad b) :: st) := fun H locs ls hP hD hS hl =>
  va_put (D := G.1) (C := clR ci) (T := clT ci) (N := clN ci) (ci := ci) (v := .int v) (ty := clY ci k) C.1 C.2.1 C.2.2.2.2.1 (cl_in hf.2.2) (clY ci) (cl_ty hf.2.2) (cl_nm hf.2.2) C.2.2.2.1 C.2.2.2.2.2.1 hP hD hS b (wl_e hbn hE) (cl_ok hf.2.2) k hf.2.1 (C.2.2.2.2.1 _ hf.1) (fun _ h => h) hfin (cl_ty hf.2.2 k hf.2.1) hn hfit (by rw [fl_len]; exact hf.2.1) hd (fun H1 locs1 hP1 hD1 hS1 => by
    rw [fl_seti hm, wl_set] at hP1 hD1
    exact kk (va_up E b (ob ci r (va_up i k v))) (by simp [va_up]) (fun j hj => by simp [va_up, hj]) H1 locs1 ls hP1 hD1 hS1 hl)
theorem v_putr (C : Cx X l G A own cc nL ret R) (hin : X.meth.name = "<init>") (b : Nat) {index ci k a : Nat} {r : Nat → Option Nat} {i : Nat → Int32} (hd : decode cc pc = .ok (.putfield index, 3)) (hf : FL own index ci k) (hbn : b < n) (hE : E b = ob ci r i) (hm : clM ci k = true) (hfin : (clT ci k).2.2.2 = true) (hown : (clT ci k).1 = own) (hn : narrow (clY ci k) (.ref a) = .ref a) (hfit : fits (clY ci k) (.ref a) = true) (kk : ∀ E1 : Nat → va_E, E1 b = ob ci (va_up r k (some a)) i → (∀ j, j ≠ b → E1 j = E j) → V X G A nL Q n ad ce sl E1 (pc + 3) lv st) : V X G A nL Q n ad ce sl E pc lv (.ref a :: .ref (ad b) :: st) := fun H locs ls hP hD hS hl =>
  va_putF (D := G.1) (C := clR ci) (T := clT ci) (N := clN ci) (ci := ci) (v := .ref a) (ty := clY ci k) C.1 C.2.1 C.2.2.2.2.1 (cl_in hf.2.2) (clY ci) (cl_ty hf.2.2) (cl_nm hf.2.2) C.2.2.2.1 C.2.2.2.2.2.1 hP hD hS b (wl_e hbn hE) (cl_ok hf.2.2) k hf.2.1 (C.2.2.2.2.1 _ hf.1) (fun _ h => h) hfin hin hown (cl_ty hf.2.2 k hf.2.1) hn hfit (by rw [fl_len]; exact hf.2.1) hd (fun H1 locs1 hP1 hD1 hS1 => by
    rw [fl_setr hm, wl_set] at hP1 hD1
    exact kk (va_up E b (ob ci (va_up r k (some a)) i)) (by simp [va_up]) (fun j hj => by simp [va_up, hj]) H1 locs1 ls hP1 hD1 hS1 hl)
theorem v_ald (C : Cx X l G A own cc nL ret R) (b : Nat) {N : Nat} {f : Nat → Int32} {i : Int32} {v : Int32} (hd : decode cc pc = .ok (.iaload, 1)) (hbn : b < n) (hE : E b = aI G N f) (hin : vp_in i N) (hv : f i.toNatClampNeg = v) (k : V X G A nL Q n ad ce sl E (pc + 1) lv (.int v :: st)) : V X G A nL Q n ad ce sl E pc lv (.int i :: .ref (ad b) :: st) := fun H locs ls hP hD hS hl => by subst hv; exact va_iald C.1 C.2.1 C.2.2.2.2.2.1 hP b 0 (wl_e hbn hE) rfl hin hd (k H locs ls hP hD hS hl)
theorem v_jald (C : Cx X l G A own cc nL ret R) (b : Nat) {N : Nat} {f : Nat → Int64} {i : Int32} {v : Int64} (hd : decode cc pc = .ok (.laload, 1)) (hbn : b < n) (hE : E b = aJ G N f) (hin : vp_in i N) (hv : f i.toNatClampNeg = v) (k : V X G A nL Q n ad ce sl E (pc + 1) lv (.long v :: st)) : V X G A nL Q n ad ce sl E pc lv (.int i :: .ref (ad b) :: st) := fun H locs ls hP hD hS hl => by subst hv; exact va_lald C.1 C.2.1 C.2.2.2.2.2.1 hP b 1 (wl_e hbn hE) rfl hin hd (k H locs ls hP hD hS hl)
theorem v_zald (C : Cx X l G A own cc nL ret R) (b : Nat) {N : Nat} {f : Nat → Int32} {i : Int32} {v : Int32} (hd : decode cc pc = .ok (.baload, 1)) (hbn : b < n) (hE : E b = aZ G N f) (hin : vp_in i N) (hv : f i.toNatClampNeg = v) (k : V X G A nL Q n ad ce sl E (pc + 1) lv (.int v :: st)) : V X G A nL Q n ad ce sl E pc lv (.int i :: .ref (ad b) :: st) := fun H locs ls hP hD hS hl => by subst hv; exact va_zald C.1 C.2.1 C.2.2.2.2.2.1 hP b 2 (wl_e hbn hE) rfl hin hd (k H locs ls hP hD hS hl)
theorem v_ast (C : Cx X l G A own cc nL ret R) (b : Nat) {N : Nat} {f : Nat → Int32} {i : Int32} {v : Int32} (hd : decode cc pc = .ok (.iastore, 1)) (hbn : b < n) (hE : E b = aI G N f) (hin : vp_in i N) (kk : ∀ E1 : Nat → va_E, E1 b = aI G N (upd f i.toNatClampNeg v) → (∀ j, j ≠ b → E1 j = E j) → V X G A nL Q n ad ce sl E1 (pc + 1) lv st) : V X G A nL Q n ad ce sl E pc lv (.int v :: .int i :: .ref (ad b) :: st) := fun H locs ls hP hD hS hl => va_iast C.1 C.2.1 C.2.2.2.2.2.1 hP hD hS b 0 (wl_e hbn hE) rfl hin hd (fun H1 locs1 hP1 hD1 hS1 => by
    rw [wl_set] at hP1 hD1
    exact kk (va_up E b (aI G N (upd f i.toNatClampNeg v))) (by simp [va_up]) (fun j hj => by simp [va_up, hj]) H1 locs1 ls hP1 hD1 hS1 hl)
theorem v_jast (C : Cx X l G A own cc nL ret R) (b : Nat) {N : Nat} {f : Nat → Int64} {i : Int32} {v : Int64} (hd : decode cc pc = .ok (.lastore, 1)) (hbn : b < n) (hE : E b = aJ G N f) (hin : vp_in i N) (kk : ∀ E1 : Nat → va_E, E1 b = aJ G N (vp_updL f i.toNatClampNeg v) → (∀ j, j ≠ b → E1 j = E j) → V X G A nL Q n ad ce sl E1 (pc + 1) lv st) : V X G A nL Q n ad ce sl E pc lv (.long v :: .int i :: .ref (ad b) :: st) := fun H locs ls hP hD hS hl => va_last C.1 C.2.1 C.2.2.2.2.2.1 hP hD hS b 1 (wl_e hbn hE) rfl hin hd (fun H1 locs1 hP1 hD1 hS1 => by
    rw [wl_set] at hP1 hD1
    exact kk (va_up E b (aJ G N (vp_updL f i.toNatClampNeg v))) (by simp [va_up]) (fun j hj => by simp [va_up, hj]) H1 locs1 ls hP1 hD1 hS1 hl)
theorem v_alenI (C : Cx X l G A own cc nL ret R) (b : Nat) {N : Nat} {f : Nat → Int32} {v : Int32} (hd : decode cc pc = .ok (.arraylength, 1)) (hbn : b < n) (hE : E b = aI G N f) (hv : Int32.ofNat N = v) (k : V X G A nL Q n ad ce sl E (pc + 1) lv (.int v :: st)) : V X G A nL Q n ad ce sl E pc lv (.ref (ad b) :: st) := fun H locs ls hP hD hS hl => va_alen C.1 C.2.1 C.2.2.2.2.2.1 hP b 0 (wl_e hbn hE) rfl hv hd (k H locs ls hP hD hS hl)
theorem v_alenJ (C : Cx X l G A own cc nL ret R) (b : Nat) {N : Nat} {f : Nat → Int64} {v : Int32} (hd : decode cc pc = .ok (.arraylength, 1)) (hbn : b < n) (hE : E b = aJ G N f) (hv : Int32.ofNat N = v) (k : V X G A nL Q n ad ce sl E (pc + 1) lv (.int v :: st)) : V X G A nL Q n ad ce sl E pc lv (.ref (ad b) :: st) := fun H locs ls hP hD hS hl => va_alen C.1 C.2.1 C.2.2.2.2.2.1 hP b 1 (wl_e hbn hE) rfl hv hd (k H locs ls hP hD hS hl)
theorem v_aldZ (C : Cx X l G A own cc nL ret R) (b : Nat) {N : Nat} {f : Nat → Option Nat} {i : Int32} {v : Option Nat} (hd : decode cc pc = .ok (.aaload, 1)) (hbn : b < n) (hE : E b = aQ G 3 N f) (hin : vp_in i N) (hv : f i.toNatClampNeg = v) (k : V X G A nL Q n ad ce sl E (pc + 1) lv (va_rf v :: st)) : V X G A nL Q n ad ce sl E pc lv (.int i :: .ref (ad b) :: st) := fun H locs ls hP hD hS hl => by subst hv; exact va_aldq C.1 C.2.1 C.2.2.2.2.2.1 hP b 3 (wl_e hbn hE) rfl hin hd (k H locs ls hP hD hS hl)
theorem v_aldP (C : Cx X l G A own cc nL ret R) (b : Nat) {N : Nat} {f : Nat → Option Nat} {i : Int32} {v : Option Nat} (hd : decode cc pc = .ok (.aaload, 1)) (hbn : b < n) (hE : E b = aQ G 4 N f) (hin : vp_in i N) (hv : f i.toNatClampNeg = v) (k : V X G A nL Q n ad ce sl E (pc + 1) lv (va_rf v :: st)) : V X G A nL Q n ad ce sl E pc lv (.int i :: .ref (ad b) :: st) := fun H locs ls hP hD hS hl => by subst hv; exact va_aldq C.1 C.2.1 C.2.2.2.2.2.1 hP b 4 (wl_e hbn hE) rfl hin hd (k H locs ls hP hD hS hl)
theorem v_ret (C : Cx X l G A own cc nL ret R) {rt : FieldType} {v : Int32} {post : Int32 → (Nat → va_E) → Prop} (hd : decode cc pc = .ok (.ireturn, 1)) (hr : ret = some rt) (hn : narrow rt (.int v) = .int v) (hp : post v E) : V X G A nL (QI X G A n ad post) n ad 0 0 E pc lv [.int v] := fun H locs ls hP hD hS hl =>
  W.zret C.1 C.2.1 (C.2.2.2.2.2.2.2.2.2.1.trans hr) hn (fun t ht hW => ⟨⟨v, E, rfl, hp, by rw [ht]; exact hP, va_K.moved hW.alike C.2.2.2.2.2.1, hD⟩, hS.F ht⟩) hS.2.2 hd (hlocks := C.2.2.2.2.2.2.2.2.1)
theorem v_vret (C : Cx X l G A own cc nL ret R) {post : (Nat → va_E) → Prop} (hd : decode cc pc = .ok (.return_, 1)) (hr : ret = none) (hp : post E) : V X G A nL (QV X G A n ad post) n ad 0 0 E pc lv [] := fun H locs ls hP hD hS hl =>
  W.vret C.1 C.2.1 (C.2.2.2.2.2.2.2.2.2.1.trans hr) (fun t ht hW => ⟨⟨E, rfl, hp, by rw [ht]; exact hP, va_K.moved hW.alike C.2.2.2.2.2.1, hD⟩, hS.F ht⟩) hS.2.2 hd (hlocks := C.2.2.2.2.2.2.2.2.1)
theorem v_qret (C : Cx X l G A own cc nL ret R) {rt : String} {v : Option Nat} {post : Option Nat → (Nat → va_E) → Prop} (hd : decode cc pc = .ok (.areturn, 1)) (hr : ret = some (.object rt)) (hp : post v E) : V X G A nL (QQ X G A n ad post) n ad 0 0 E pc lv [va_rf v] := fun H locs ls hP hD hS hl =>
  W.aret C.1 C.2.1 (C.2.2.2.2.2.2.2.2.2.1.trans hr) (Or.inl ⟨_, rfl⟩) (va_rf_or v) (fun t ht hW => ⟨⟨v, E, rfl, hp, by rw [ht]; exact hP, va_K.moved hW.alike C.2.2.2.2.2.1, hD⟩, hS.F ht⟩) hS.2.2 hd (hlocks := C.2.2.2.2.2.2.2.2.1)
theorem v_nret (C : Cx X l G A own cc nL ret R) {n' k w : Nat} {post : (Nat → Nat) × (Nat → va_E) → Prop} (hd : decode cc pc = .ok (.return_, 1)) (hr : ret = none) (hn : n = n') (hk : ce = k) (hw : sl = w) (hp : post (ad, E)) : V X G A nL (QN X G A n' k w post) n ad ce sl E pc lv [] := fun H locs ls hP hD hS hl => by
  subst hn; subst hk; subst hw
  exact W.vret C.1 C.2.1 (C.2.2.2.2.2.2.2.2.2.1.trans hr) (fun t ht hW => ⟨⟨(ad, E), rfl, hp, by rw [ht]; exact hP, va_K.moved hW.alike C.2.2.2.2.2.1, hD⟩, hS.F ht⟩) hS.2.2 hd (hlocks := C.2.2.2.2.2.2.2.2.1)
theorem v_mret (C : Cx X l G A own cc nL ret R) {rt : FieldType} {n' k w : Nat} {v : Int32} {post : Int32 → (Nat → Nat) × (Nat → va_E) → Prop} (hd : decode cc pc = .ok (.ireturn, 1)) (hr : ret = some rt) (hnr : narrow rt (.int v) = .int v) (hn : n = n') (hk : ce = k) (hw : sl = w) (hp : post v (ad, E)) : V X G A nL (QM X G A n' k w post) n ad ce sl E pc lv [.int v] := fun H locs ls hP hD hS hl => by
  subst hn; subst hk; subst hw
  exact W.zret C.1 C.2.1 (C.2.2.2.2.2.2.2.2.2.1.trans hr) hnr (fun t ht hW => ⟨⟨v, (ad, E), rfl, hp, by rw [ht]; exact hP, va_K.moved hW.alike C.2.2.2.2.2.1, hD⟩, hS.F ht⟩) hS.2.2 hd (hlocks := C.2.2.2.2.2.2.2.2.1)
theorem tb_code {y : MethodName} {cc : ByteArray} {maxL : Nat} {rt : Option FieldType} (h : Cond.code y cc maxL rt ∈ tb) : GoodIn tb (Cond.code y cc maxL rt :: tb) := tb_in (List.forall_mem_cons.mpr ⟨h, fun _ hw => hw⟩)
theorem tb_pre {H : Heap} {locs : List Loc} (C : Cx X l G A own cc nL ret R) (hP : va_P G.1 classes (wl n ad E) H) (hD : va_D A (wl n ad E)) (hS : va_S A X.s.heap H locs) : ∀ U : State, U.heap = H → X.s.WarmedH U.vm → Pre G n ad E H.size U := fun U hU hW =>
  ⟨by rw [hU], by rw [hU]; exact hP, va_K.moved hW.alike C.2.2.2.2.2.1, hD.weaken (fun _ _ _ _ => trivial), by rw [hU]; exact C.2.2.2.2.2.2.2.1.go hW hS (wl_free hD hS C.2.2.2.2.2.2.1)⟩
theorem v_cVi (C : Cx X l G A own cc nL ret R) {index : Nat} {y : MethodName} {cy : ByteArray} {maxL fr lo : Nat} {rt : FieldType} {post : Int32 → (Nat → va_E) → Prop} {As rest : List Value} (hd : decode cc pc = .ok (.invokevirtual index, 3)) (hl0 : Cond.methodLink own index y ∈ tb) (hm : MV y cy maxL (some rt) As.length) (b : Nat) {ci : Nat} {r0 : Nat → Option Nat} {i0 : Nat → Int32} (hbn : b < n) (hE : E b = ob ci r0 i0) (hci : ci < 10) (hcy : clR ci = y.cls) (hc : CtI l G y cy maxL rt fr lo n ad E (.ref (ad b) :: As) post) (hR : fr + 1 ≤ R.frames ∧ 8 + (maxL + 11) + lo ≤ R.locals) (hst : st = As.reverse ++ .ref (ad b) :: rest) (hW : (rest.map fun v => v.category).sum ≤ 8) (hf : ce ≤ R.cells ∧ sl ≤ R.slots) (kk : ∀ (r : Int32) (E1 : Nat → va_E), post r E1 → V X G A nL Q n ad ce sl E1 (pc + 3) lv (.int r :: rest)) : V X G A nL Q n ad ce sl E pc lv st := by
  intro H locs ls hP hD hS hl
  subst hst
  have hlx := C.2.2.2.2.2.2.2.2.2.2.1
  have hRx := C.2.2.2.2.2.2.2.2.2.2.2
  rw [← hlx] at hc
  rw [← hRx] at hR hf
  have hFc := wl_free hD hS C.2.2.2.2.2.2.1
  refine va_calli (va_runV (C := y.cls) (As := As) (rest := rest) ⟨C.1, C.2.1, C.2.2.1, C.2.2.2.1, C.2.2.2.2.1⟩ (hc H.size) (cwV As.length C.2.2.2.2.1 (tb_in (fun w hw => by rcases List.mem_append.mp hw with h | h; (simp only [List.mem_cons, List.not_mem_nil, or_false] at h; rcases h with rfl | rfl | rfl | rfl; exact hl0; exact hm.2.2.1; exact hm.2.2.2.1; exact hm.2.1); exact (tb_code hm.1 w h).1)) rfl rfl rfl ⟨rfl, hm.2.2.2.2⟩ hR) ⟨Pre.blind, (by have h := va_recv C.2.2.2.2.2.1 hP (cl_ok hci) (wl_e hbn hE); rw [← hcy]; exact h), fun U hU hW0 => ⟨rfl, tb_pre C hP hD hS U hU hW0⟩⟩ rfl rfl hl.1 rfl (by show 2 * 0 + _ ≤ 8; omega) hd ⟨hf.1, hf.2⟩) hS (fun q _ h => hFc q h) hFc (fun r u t H1 locs1 ht hvm hw hB hz hk hS1 => ?_)
  obtain ⟨hP1, hK1, hD1⟩ := hB
  rw [ht] at hP1
  exact kk r u hw H1 locs1 ls hP1 (hD1.weaken (fun _ _ _ h => hFc _ h)) hS1 hl
theorem v_cVv (C : Cx X l G A own cc nL ret R) {index : Nat} {y : MethodName} {cy : ByteArray} {maxL fr lo : Nat} {post : (Nat → va_E) → Prop} {As rest : List Value} (hd : decode cc pc = .ok (.invokevirtual index, 3)) (hl0 : Cond.methodLink own index y ∈ tb) (hm : MV y cy maxL none As.length) (b : Nat) {ci : Nat} {r0 : Nat → Option Nat} {i0 : Nat → Int32} (hbn : b < n) (hE : E b = ob ci r0 i0) (hci : ci < 10) (hcy : clR ci = y.cls) (hc : CtV l G y cy maxL fr lo n ad E (.ref (ad b) :: As) post) (hR : fr + 1 ≤ R.frames ∧ 8 + (maxL + 11) + lo ≤ R.locals) (hst : st = As.reverse ++ .ref (ad b) :: rest) (hW : (rest.map fun v => v.category).sum ≤ 8) (hf : ce ≤ R.cells ∧ sl ≤ R.slots) (kk : ∀ (E1 : Nat → va_E), post E1 → V X G A nL Q n ad ce sl E1 (pc + 3) lv rest) : V X G A nL Q n ad ce sl E pc lv st := by
  intro H locs ls hP hD hS hl
  subst hst
  have hlx := C.2.2.2.2.2.2.2.2.2.2.1
  have hRx := C.2.2.2.2.2.2.2.2.2.2.2
  rw [← hlx] at hc
  rw [← hRx] at hR hf
  have hFc := wl_free hD hS C.2.2.2.2.2.2.1
  refine va_callv (va_runV (C := y.cls) (As := As) (rest := rest) ⟨C.1, C.2.1, C.2.2.1, C.2.2.2.1, C.2.2.2.2.1⟩ (hc H.size) (cwV As.length C.2.2.2.2.1 (tb_in (fun w hw => by rcases List.mem_append.mp hw with h | h; (simp only [List.mem_cons, List.not_mem_nil, or_false] at h; rcases h with rfl | rfl | rfl | rfl; exact hl0; exact hm.2.2.1; exact hm.2.2.2.1; exact hm.2.1); exact (tb_code hm.1 w h).1)) rfl rfl rfl ⟨rfl, hm.2.2.2.2⟩ hR) ⟨Pre.blind, (by have h := va_recv C.2.2.2.2.2.1 hP (cl_ok hci) (wl_e hbn hE); rw [← hcy]; exact h), fun U hU hW0 => ⟨rfl, tb_pre C hP hD hS U hU hW0⟩⟩ rfl rfl hl.1 rfl (by show 2 * 0 + _ ≤ 8; omega) hd ⟨hf.1, hf.2⟩) hS (fun q _ h => hFc q h) hFc (fun u t H1 locs1 ht hvm hw hB hz hk hS1 => ?_)
  obtain ⟨hP1, hK1, hD1⟩ := hB
  rw [ht] at hP1
  exact kk u hw H1 locs1 ls hP1 (hD1.weaken (fun _ _ _ h => hFc _ h)) hS1 hl
theorem v_cVq (C : Cx X l G A own cc nL ret R) {index : Nat} {y : MethodName} {cy : ByteArray} {maxL fr lo : Nat} {rt : FieldType} {post : Option Nat → (Nat → va_E) → Prop} {As rest : List Value} (hd : decode cc pc = .ok (.invokevirtual index, 3)) (hl0 : Cond.methodLink own index y ∈ tb) (hm : MV y cy maxL (some rt) As.length) (b : Nat) {ci : Nat} {r0 : Nat → Option Nat} {i0 : Nat → Int32} (hbn : b < n) (hE : E b = ob ci r0 i0) (hci : ci < 10) (hcy : clR ci = y.cls) (hc : CtQ l G y cy maxL rt fr lo n ad E (.ref (ad b) :: As) post) (hR : fr + 1 ≤ R.frames ∧ 8 + (maxL + 11) + lo ≤ R.locals) (hst : st = As.reverse ++ .ref (ad b) :: rest) (hW : (rest.map fun v => v.category).sum ≤ 8) (hf : ce ≤ R.cells ∧ sl ≤ R.slots) (kk : ∀ (r : Option Nat) (E1 : Nat → va_E), post r E1 → V X G A nL Q n ad ce sl E1 (pc + 3) lv (va_rf r :: rest)) : V X G A nL Q n ad ce sl E pc lv st := by
  intro H locs ls hP hD hS hl
  subst hst
  have hlx := C.2.2.2.2.2.2.2.2.2.2.1
  have hRx := C.2.2.2.2.2.2.2.2.2.2.2
  rw [← hlx] at hc
  rw [← hRx] at hR hf
  have hFc := wl_free hD hS C.2.2.2.2.2.2.1
  refine va_callq (va_runV (C := y.cls) (As := As) (rest := rest) ⟨C.1, C.2.1, C.2.2.1, C.2.2.2.1, C.2.2.2.2.1⟩ (hc H.size) (cwV As.length C.2.2.2.2.1 (tb_in (fun w hw => by rcases List.mem_append.mp hw with h | h; (simp only [List.mem_cons, List.not_mem_nil, or_false] at h; rcases h with rfl | rfl | rfl | rfl; exact hl0; exact hm.2.2.1; exact hm.2.2.2.1; exact hm.2.1); exact (tb_code hm.1 w h).1)) rfl rfl rfl ⟨rfl, hm.2.2.2.2⟩ hR) ⟨Pre.blind, (by have h := va_recv C.2.2.2.2.2.1 hP (cl_ok hci) (wl_e hbn hE); rw [← hcy]; exact h), fun U hU hW0 => ⟨rfl, tb_pre C hP hD hS U hU hW0⟩⟩ rfl rfl hl.1 rfl (by show 2 * 0 + _ ≤ 8; omega) hd ⟨hf.1, hf.2⟩) hS (fun q _ h => hFc q h) hFc (fun r u t H1 locs1 ht hvm hw hB hz hk hS1 => ?_)
  obtain ⟨hP1, hK1, hD1⟩ := hB
  rw [ht] at hP1
  exact kk r u hw H1 locs1 ls hP1 (hD1.weaken (fun _ _ _ h => hFc _ h)) hS1 hl
theorem v_cSi (C : Cx X l G A own cc nL ret R) {index : Nat} {y : MethodName} {cy : ByteArray} {maxL fr lo : Nat} {rt : FieldType} {post : Int32 → (Nat → va_E) → Prop} {As rest : List Value} (hd : decode cc pc = .ok (.invokestatic index, 3)) (hl0 : Cond.methodLink own index y ∈ tb) (hm : MS y cy maxL (some rt) As.length) (hc : CtI l G y cy maxL rt fr lo n ad E As post) (hR : fr + 1 ≤ R.frames ∧ 8 + (maxL + 11) + lo ≤ R.locals) (hst : st = As.reverse ++ rest) (hW : (rest.map fun v => v.category).sum ≤ 8) (hf : ce ≤ R.cells ∧ sl ≤ R.slots) (kk : ∀ (r : Int32) (E1 : Nat → va_E), post r E1 → V X G A nL Q n ad ce sl E1 (pc + 3) lv (.int r :: rest)) : V X G A nL Q n ad ce sl E pc lv st := by
  intro H locs ls hP hD hS hl
  subst hst
  have hlx := C.2.2.2.2.2.2.2.2.2.2.1
  have hRx := C.2.2.2.2.2.2.2.2.2.2.2
  rw [← hlx] at hc
  rw [← hRx] at hR hf
  have hFc := wl_free hD hS C.2.2.2.2.2.2.1
  refine va_calli (va_runS (As := As) (rest := rest) ⟨C.1, C.2.1, C.2.2.1, C.2.2.2.1, C.2.2.2.2.1⟩ (hc H.size) (va_cwS As.length C.2.2.2.2.1 (tb_in (fun w hw => by rcases List.mem_append.mp hw with h | h; (simp only [List.mem_cons, List.not_mem_nil, or_false] at h; rcases h with rfl | rfl | rfl; exact hl0; exact hm.2.2.1; exact hm.2.1); exact (tb_code hm.1 w h).1)) rfl rfl rfl hm.2.2.2 hR) ⟨Pre.blind, fun U hU hW0 => ⟨rfl, tb_pre C hP hD hS U hU hW0⟩⟩ rfl rfl hl.1 rfl (by show 2 * 0 + _ ≤ 8; omega) hd ⟨hf.1, hf.2⟩) hS (fun q _ h => hFc q h) hFc (fun r u t H1 locs1 ht hvm hw hB hz hk hS1 => ?_)
  obtain ⟨hP1, hK1, hD1⟩ := hB
  rw [ht] at hP1
  exact kk r u hw H1 locs1 ls hP1 (hD1.weaken (fun _ _ _ h => hFc _ h)) hS1 hl
theorem v_cSNi (C : Cx X l G A own cc nL ret R) {index : Nat} {y : MethodName} {cy : ByteArray} {maxL fr lo : Nat} {rt : FieldType} {host : String} {post : Int32 → (Nat → va_E) → Prop} {As rest : List Value} (hd : decode cc pc = .ok (.invokestatic index, 3)) (hl0 : (own, index, y, host) ∈ nwL) (hm : MS y cy maxL (some rt) As.length) (hc : CtI l G y cy maxL rt fr lo n ad E As post) (hR : fr + 1 ≤ R.frames ∧ 8 + (maxL + 11) + lo ≤ R.locals) (hst : st = As.reverse ++ rest) (hW : (rest.map fun v => v.category).sum ≤ 8) (hf : ce ≤ R.cells ∧ sl ≤ R.slots) (kk : ∀ (r : Int32) (E1 : Nat → va_E), post r E1 → V X G A nL Q n ad ce sl E1 (pc + 3) lv (.int r :: rest)) : V X G A nL Q n ad ce sl E pc lv st := by
  intro H locs ls hP hD hS hl
  subst hst
  have hlx := C.2.2.2.2.2.2.2.2.2.2.1
  have hRx := C.2.2.2.2.2.2.2.2.2.2.2
  rw [← hlx] at hc
  rw [← hRx] at hR hf
  have hFc := wl_free hD hS C.2.2.2.2.2.2.1
  refine va_calli (va_runSN (As := As) (rest := rest) ⟨C.1, C.2.1, C.2.2.1, C.2.2.2.1, C.2.2.2.2.1⟩ (hc H.size) ⟨va_cnB As.length C.2.2.2.2.1 (tb_code hm.1) rfl rfl rfl (C.2.2.2.2.2.2.2.1.2.2.2.2.1 _ hl0) (C.2.2.2.2.1 _ hm.2.1) hm.2.2.2 hR, C.2.2.2.2.1 _ hm.2.2.1, trivial⟩ ⟨Pre.blind, fun U hU hW0 => ⟨rfl, tb_pre C hP hD hS U hU hW0⟩⟩ rfl rfl hl.1 rfl (by show 2 * 0 + _ ≤ 8; omega) hd ⟨hf.1, hf.2⟩) hS (fun q _ h => hFc q h) hFc (fun r u t H1 locs1 ht hvm hw hB hz hk hS1 => ?_)
  obtain ⟨hP1, hK1, hD1⟩ := hB
  rw [ht] at hP1
  exact kk r u hw H1 locs1 ls hP1 (hD1.weaken (fun _ _ _ h => hFc _ h)) hS1 hl
end VR
end
