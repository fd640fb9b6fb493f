-- ===== PART A: goes FIRST, ahead of the names: the tables' words, and 'selects' of the private methods out of them =====
/-- a private method of a class that the tables say can be made, by its rows of tables_1 -/
def lw_okq (q : MethodName × Nat) : Prop := (q.1.cls ≠ "java/lang/invoke/MethodHandle" ∧ q.1.cls ≠ "java/lang/invoke/VarHandle") ∧ Cond.instantiable q.1.cls q.2 ∈ tables_1 ∧ Cond.privateMethod q.1 ∈ tables_1 ∧ Cond.instanceMethod q.1 ∈ tables_1
theorem lw_p0 : lw_okq (⟨"OneBreath", "beginText", "(ILjava/lang/String;)V"⟩, 10) := ⟨⟨by decide +kernel, by decide +kernel⟩, List.mem_of_getElem? (i := 21) (by decide +kernel), List.mem_of_getElem? (i := 316) (by decide +kernel), List.mem_of_getElem? (i := 317) (by decide +kernel)⟩
theorem lw_p1 : lw_okq (⟨"OneBreath", "readTape", "(I)I"⟩, 10) := ⟨⟨by decide +kernel, by decide +kernel⟩, List.mem_of_getElem? (i := 21) (by decide +kernel), List.mem_of_getElem? (i := 372) (by decide +kernel), List.mem_of_getElem? (i := 373) (by decide +kernel)⟩
theorem lw_p2 : lw_okq (⟨"OneBreath$Reader", "readLevel", "(II)Z"⟩, 5) := ⟨⟨by decide +kernel, by decide +kernel⟩, List.mem_of_getElem? (i := 182) (by decide +kernel), List.mem_of_getElem? (i := 399) (by decide +kernel), List.mem_of_getElem? (i := 400) (by decide +kernel)⟩
theorem lw_p3 : lw_okq (⟨"OneBreath$Reader", "readUnit", "(I)Z"⟩, 5) := ⟨⟨by decide +kernel, by decide +kernel⟩, List.mem_of_getElem? (i := 182) (by decide +kernel), List.mem_of_getElem? (i := 403) (by decide +kernel), List.mem_of_getElem? (i := 404) (by decide +kernel)⟩
theorem lw_p4 : lw_okq (⟨"OneBreath$Reader", "next", "()I"⟩, 5) := ⟨⟨by decide +kernel, by decide +kernel⟩, List.mem_of_getElem? (i := 182) (by decide +kernel), List.mem_of_getElem? (i := 407) (by decide +kernel), List.mem_of_getElem? (i := 408) (by decide +kernel)⟩
theorem lw_p5 : lw_okq (⟨"OneBreath$Reader", "readNumber", "()V"⟩, 5) := ⟨⟨by decide +kernel, by decide +kernel⟩, List.mem_of_getElem? (i := 182) (by decide +kernel), List.mem_of_getElem? (i := 414) (by decide +kernel), List.mem_of_getElem? (i := 415) (by decide +kernel)⟩
theorem lw_p6 : lw_okq (⟨"OneBreath$Law", "add", "(I)V"⟩, 4) := ⟨⟨by decide +kernel, by decide +kernel⟩, List.mem_of_getElem? (i := 37) (by decide +kernel), List.mem_of_getElem? (i := 422) (by decide +kernel), List.mem_of_getElem? (i := 423) (by decide +kernel)⟩
theorem lw_p7 : lw_okq (⟨"OneBreath$Reader", "readNot", "(I)Z"⟩, 5) := ⟨⟨by decide +kernel, by decide +kernel⟩, List.mem_of_getElem? (i := 182) (by decide +kernel), List.mem_of_getElem? (i := 426) (by decide +kernel), List.mem_of_getElem? (i := 427) (by decide +kernel)⟩
theorem lw_p8 : lw_okq (⟨"OneBreath$Reader", "readBraced", "(I)Z"⟩, 5) := ⟨⟨by decide +kernel, by decide +kernel⟩, List.mem_of_getElem? (i := 182) (by decide +kernel), List.mem_of_getElem? (i := 434) (by decide +kernel), List.mem_of_getElem? (i := 435) (by decide +kernel)⟩
theorem lw_p9 : lw_okq (⟨"OneBreath", "error", "(I)I"⟩, 10) := ⟨⟨by decide +kernel, by decide +kernel⟩, List.mem_of_getElem? (i := 21) (by decide +kernel), List.mem_of_getElem? (i := 545) (by decide +kernel), List.mem_of_getElem? (i := 546) (by decide +kernel)⟩
theorem lw_p10 : lw_okq (⟨"OneBreath", "isBell", "(I)Z"⟩, 10) := ⟨⟨by decide +kernel, by decide +kernel⟩, List.mem_of_getElem? (i := 21) (by decide +kernel), List.mem_of_getElem? (i := 574) (by decide +kernel), List.mem_of_getElem? (i := 575) (by decide +kernel)⟩
theorem lw_p11 : lw_okq (⟨"OneBreath", "isEar", "(I)Z"⟩, 10) := ⟨⟨by decide +kernel, by decide +kernel⟩, List.mem_of_getElem? (i := 21) (by decide +kernel), List.mem_of_getElem? (i := 651) (by decide +kernel), List.mem_of_getElem? (i := 652) (by decide +kernel)⟩
theorem lw_p12 : lw_okq (⟨"OneBreath$Hearing", "listenTo", "(II)V"⟩, 4) := ⟨⟨by decide +kernel, by decide +kernel⟩, List.mem_of_getElem? (i := 209) (by decide +kernel), List.mem_of_getElem? (i := 689) (by decide +kernel), List.mem_of_getElem? (i := 690) (by decide +kernel)⟩
theorem lw_p13 : lw_okq (⟨"OneBreath$Hearing", "addHourly", "(III)V"⟩, 4) := ⟨⟨by decide +kernel, by decide +kernel⟩, List.mem_of_getElem? (i := 209) (by decide +kernel), List.mem_of_getElem? (i := 767) (by decide +kernel), List.mem_of_getElem? (i := 768) (by decide +kernel)⟩
theorem lw_p14 : lw_okq (⟨"OneBreath$Slate", "insert", "(I)V"⟩, 5) := ⟨⟨by decide +kernel, by decide +kernel⟩, List.mem_of_getElem? (i := 230) (by decide +kernel), List.mem_of_getElem? (i := 797) (by decide +kernel), List.mem_of_getElem? (i := 798) (by decide +kernel)⟩
theorem lw_p15 : lw_okq (⟨"OneBreath$Trials", "isSilenced", "(I)Z"⟩, 5) := ⟨⟨by decide +kernel, by decide +kernel⟩, List.mem_of_getElem? (i := 252) (by decide +kernel), List.mem_of_getElem? (i := 847) (by decide +kernel), List.mem_of_getElem? (i := 848) (by decide +kernel)⟩
def lw_privs_1 : List (MethodName × Nat) := [(⟨"OneBreath", "beginText", "(ILjava/lang/String;)V"⟩, 10), (⟨"OneBreath", "readTape", "(I)I"⟩, 10), (⟨"OneBreath$Reader", "readLevel", "(II)Z"⟩, 5), (⟨"OneBreath$Reader", "readUnit", "(I)Z"⟩, 5), (⟨"OneBreath$Reader", "next", "()I"⟩, 5), (⟨"OneBreath$Reader", "readNumber", "()V"⟩, 5), (⟨"OneBreath$Law", "add", "(I)V"⟩, 4), (⟨"OneBreath$Reader", "readNot", "(I)Z"⟩, 5), (⟨"OneBreath$Reader", "readBraced", "(I)Z"⟩, 5), (⟨"OneBreath", "error", "(I)I"⟩, 10), (⟨"OneBreath", "isBell", "(I)Z"⟩, 10), (⟨"OneBreath", "isEar", "(I)Z"⟩, 10), (⟨"OneBreath$Hearing", "listenTo", "(II)V"⟩, 4), (⟨"OneBreath$Hearing", "addHourly", "(III)V"⟩, 4), (⟨"OneBreath$Slate", "insert", "(I)V"⟩, 5), (⟨"OneBreath$Trials", "isSilenced", "(I)Z"⟩, 5)]
theorem lw_r1 : ∀ q ∈ lw_privs_1, lw_okq q := List.forall_mem_cons.mpr ⟨lw_p0, List.forall_mem_cons.mpr ⟨lw_p1, List.forall_mem_cons.mpr ⟨lw_p2, List.forall_mem_cons.mpr ⟨lw_p3, List.forall_mem_cons.mpr ⟨lw_p4, List.forall_mem_cons.mpr ⟨lw_p5, List.forall_mem_cons.mpr ⟨lw_p6, List.forall_mem_cons.mpr ⟨lw_p7, List.forall_mem_cons.mpr ⟨lw_p8, List.forall_mem_cons.mpr ⟨lw_p9, List.forall_mem_cons.mpr ⟨lw_p10, List.forall_mem_cons.mpr ⟨lw_p11, List.forall_mem_cons.mpr ⟨lw_p12, List.forall_mem_cons.mpr ⟨lw_p13, List.forall_mem_cons.mpr ⟨lw_p14, List.forall_mem_cons.mpr ⟨lw_p15, fun _ h => absurd h List.not_mem_nil⟩⟩⟩⟩⟩⟩⟩⟩⟩⟩⟩⟩⟩⟩⟩⟩
theorem lw_p16 : lw_okq (⟨"OneBreath$Trials", "markShifts", "(III)V"⟩, 5) := ⟨⟨by decide +kernel, by decide +kernel⟩, List.mem_of_getElem? (i := 252) (by decide +kernel), List.mem_of_getElem? (i := 865) (by decide +kernel), List.mem_of_getElem? (i := 866) (by decide +kernel)⟩
theorem lw_p17 : lw_okq (⟨"OneBreath$Trials", "clashesFrom", "(II)Z"⟩, 5) := ⟨⟨by decide +kernel, by decide +kernel⟩, List.mem_of_getElem? (i := 252) (by decide +kernel), List.mem_of_getElem? (i := 894) (by decide +kernel), List.mem_of_getElem? (i := 895) (by decide +kernel)⟩
theorem lw_p18 : lw_okq (⟨"OneBreath$Trials", "isHeardAtBad", "(III)Z"⟩, 5) := ⟨⟨by decide +kernel, by decide +kernel⟩, List.mem_of_getElem? (i := 252) (by decide +kernel), List.mem_of_getElem? (i := 916) (by decide +kernel), List.mem_of_getElem? (i := 917) (by decide +kernel)⟩
theorem lw_p19 : lw_okq (⟨"OneBreath$Valley", "draw", "()I"⟩, 16) := ⟨⟨by decide +kernel, by decide +kernel⟩, List.mem_of_getElem? (i := 29) (by decide +kernel), List.mem_of_getElem? (i := 933) (by decide +kernel), List.mem_of_getElem? (i := 934) (by decide +kernel)⟩
theorem lw_p20 : lw_okq (⟨"OneBreath$Voices", "own", "(III)I"⟩, 5) := ⟨⟨by decide +kernel, by decide +kernel⟩, List.mem_of_getElem? (i := 274) (by decide +kernel), List.mem_of_getElem? (i := 964) (by decide +kernel), List.mem_of_getElem? (i := 965) (by decide +kernel)⟩
theorem lw_p21 : lw_okq (⟨"OneBreath$Voices", "run", "(III)I"⟩, 5) := ⟨⟨by decide +kernel, by decide +kernel⟩, List.mem_of_getElem? (i := 274) (by decide +kernel), List.mem_of_getElem? (i := 974) (by decide +kernel), List.mem_of_getElem? (i := 975) (by decide +kernel)⟩
theorem lw_p22 : lw_okq (⟨"OneBreath$Voices", "above", "(IIII)I"⟩, 5) := ⟨⟨by decide +kernel, by decide +kernel⟩, List.mem_of_getElem? (i := 274) (by decide +kernel), List.mem_of_getElem? (i := 978) (by decide +kernel), List.mem_of_getElem? (i := 979) (by decide +kernel)⟩
theorem lw_p23 : lw_okq (⟨"OneBreath", "clashesAsTold", "(I)Z"⟩, 10) := ⟨⟨by decide +kernel, by decide +kernel⟩, List.mem_of_getElem? (i := 21) (by decide +kernel), List.mem_of_getElem? (i := 1049) (by decide +kernel), List.mem_of_getElem? (i := 1050) (by decide +kernel)⟩
theorem lw_p24 : lw_okq (⟨"OneBreathModel", "finds", "(I)I"⟩, 28) := ⟨⟨by decide +kernel, by decide +kernel⟩, List.mem_of_getElem? (i := 1066) (by decide +kernel), List.mem_of_getElem? (i := 1166) (by decide +kernel), List.mem_of_getElem? (i := 1167) (by decide +kernel)⟩
theorem lw_p25 : lw_okq (⟨"OneBreathModel", "worked", "(III)I"⟩, 28) := ⟨⟨by decide +kernel, by decide +kernel⟩, List.mem_of_getElem? (i := 1066) (by decide +kernel), List.mem_of_getElem? (i := 1176) (by decide +kernel), List.mem_of_getElem? (i := 1177) (by decide +kernel)⟩
theorem lw_p26 : lw_okq (⟨"OneBreathModel", "either", "()I"⟩, 28) := ⟨⟨by decide +kernel, by decide +kernel⟩, List.mem_of_getElem? (i := 1066) (by decide +kernel), List.mem_of_getElem? (i := 1180) (by decide +kernel), List.mem_of_getElem? (i := 1181) (by decide +kernel)⟩
theorem lw_p27 : lw_okq (⟨"OneBreathModel", "both", "()I"⟩, 28) := ⟨⟨by decide +kernel, by decide +kernel⟩, List.mem_of_getElem? (i := 1066) (by decide +kernel), List.mem_of_getElem? (i := 1184) (by decide +kernel), List.mem_of_getElem? (i := 1185) (by decide +kernel)⟩
theorem lw_p28 : lw_okq (⟨"OneBreathModel", "compared", "()I"⟩, 28) := ⟨⟨by decide +kernel, by decide +kernel⟩, List.mem_of_getElem? (i := 1066) (by decide +kernel), List.mem_of_getElem? (i := 1188) (by decide +kernel), List.mem_of_getElem? (i := 1189) (by decide +kernel)⟩
theorem lw_p29 : lw_okq (⟨"OneBreathModel", "sum", "()I"⟩, 28) := ⟨⟨by decide +kernel, by decide +kernel⟩, List.mem_of_getElem? (i := 1066) (by decide +kernel), List.mem_of_getElem? (i := 1192) (by decide +kernel), List.mem_of_getElem? (i := 1193) (by decide +kernel)⟩
theorem lw_p30 : lw_okq (⟨"OneBreathModel", "product", "()I"⟩, 28) := ⟨⟨by decide +kernel, by decide +kernel⟩, List.mem_of_getElem? (i := 1066) (by decide +kernel), List.mem_of_getElem? (i := 1196) (by decide +kernel), List.mem_of_getElem? (i := 1197) (by decide +kernel)⟩
theorem lw_p31 : lw_okq (⟨"OneBreathModel", "unit", "()I"⟩, 28) := ⟨⟨by decide +kernel, by decide +kernel⟩, List.mem_of_getElem? (i := 1066) (by decide +kernel), List.mem_of_getElem? (i := 1200) (by decide +kernel), List.mem_of_getElem? (i := 1201) (by decide +kernel)⟩
def lw_privs_2 : List (MethodName × Nat) := [(⟨"OneBreath$Trials", "markShifts", "(III)V"⟩, 5), (⟨"OneBreath$Trials", "clashesFrom", "(II)Z"⟩, 5), (⟨"OneBreath$Trials", "isHeardAtBad", "(III)Z"⟩, 5), (⟨"OneBreath$Valley", "draw", "()I"⟩, 16), (⟨"OneBreath$Voices", "own", "(III)I"⟩, 5), (⟨"OneBreath$Voices", "run", "(III)I"⟩, 5), (⟨"OneBreath$Voices", "above", "(IIII)I"⟩, 5), (⟨"OneBreath", "clashesAsTold", "(I)Z"⟩, 10), (⟨"OneBreathModel", "finds", "(I)I"⟩, 28), (⟨"OneBreathModel", "worked", "(III)I"⟩, 28), (⟨"OneBreathModel", "either", "()I"⟩, 28), (⟨"OneBreathModel", "both", "()I"⟩, 28), (⟨"OneBreathModel", "compared", "()I"⟩, 28), (⟨"OneBreathModel", "sum", "()I"⟩, 28), (⟨"OneBreathModel", "product", "()I"⟩, 28), (⟨"OneBreathModel", "unit", "()I"⟩, 28)]
theorem lw_r2 : ∀ q ∈ lw_privs_2, lw_okq q := List.forall_mem_cons.mpr ⟨lw_p16, List.forall_mem_cons.mpr ⟨lw_p17, List.forall_mem_cons.mpr ⟨lw_p18, List.forall_mem_cons.mpr ⟨lw_p19, List.forall_mem_cons.mpr ⟨lw_p20, List.forall_mem_cons.mpr ⟨lw_p21, List.forall_mem_cons.mpr ⟨lw_p22, List.forall_mem_cons.mpr ⟨lw_p23, List.forall_mem_cons.mpr ⟨lw_p24, List.forall_mem_cons.mpr ⟨lw_p25, List.forall_mem_cons.mpr ⟨lw_p26, List.forall_mem_cons.mpr ⟨lw_p27, List.forall_mem_cons.mpr ⟨lw_p28, List.forall_mem_cons.mpr ⟨lw_p29, List.forall_mem_cons.mpr ⟨lw_p30, List.forall_mem_cons.mpr ⟨lw_p31, fun _ h => absurd h List.not_mem_nil⟩⟩⟩⟩⟩⟩⟩⟩⟩⟩⟩⟩⟩⟩⟩⟩
theorem lw_p32 : lw_okq (⟨"OneBreathModel", "here", "()I"⟩, 28) := ⟨⟨by decide +kernel, by decide +kernel⟩, List.mem_of_getElem? (i := 1066) (by decide +kernel), List.mem_of_getElem? (i := 1204) (by decide +kernel), List.mem_of_getElem? (i := 1205) (by decide +kernel)⟩
theorem lw_p33 : lw_okq (⟨"OneBreathModel", "wrong", "()I"⟩, 28) := ⟨⟨by decide +kernel, by decide +kernel⟩, List.mem_of_getElem? (i := 1066) (by decide +kernel), List.mem_of_getElem? (i := 1208) (by decide +kernel), List.mem_of_getElem? (i := 1209) (by decide +kernel)⟩
theorem lw_p34 : lw_okq (⟨"OneBreathModel", "takes", "(I)Z"⟩, 28) := ⟨⟨by decide +kernel, by decide +kernel⟩, List.mem_of_getElem? (i := 1066) (by decide +kernel), List.mem_of_getElem? (i := 1212) (by decide +kernel), List.mem_of_getElem? (i := 1213) (by decide +kernel)⟩
theorem lw_p35 : lw_okq (⟨"OneBreathModel", "nameOf", "(I)I"⟩, 28) := ⟨⟨by decide +kernel, by decide +kernel⟩, List.mem_of_getElem? (i := 1066) (by decide +kernel), List.mem_of_getElem? (i := 1216) (by decide +kernel), List.mem_of_getElem? (i := 1217) (by decide +kernel)⟩
theorem lw_p36 : lw_okq (⟨"OneBreathModel", "carries", "(IIIII)I"⟩, 28) := ⟨⟨by decide +kernel, by decide +kernel⟩, List.mem_of_getElem? (i := 1066) (by decide +kernel), List.mem_of_getElem? (i := 1226) (by decide +kernel), List.mem_of_getElem? (i := 1227) (by decide +kernel)⟩
theorem lw_p37 : lw_okq (⟨"OneBreathModel", "grazes", "(III)I"⟩, 28) := ⟨⟨by decide +kernel, by decide +kernel⟩, List.mem_of_getElem? (i := 1066) (by decide +kernel), List.mem_of_getElem? (i := 1230) (by decide +kernel), List.mem_of_getElem? (i := 1231) (by decide +kernel)⟩
theorem lw_p38 : lw_okq (⟨"OneBreathModel", "lays", "(IIIII)V"⟩, 28) := ⟨⟨by decide +kernel, by decide +kernel⟩, List.mem_of_getElem? (i := 1066) (by decide +kernel), List.mem_of_getElem? (i := 1255) (by decide +kernel), List.mem_of_getElem? (i := 1256) (by decide +kernel)⟩
theorem lw_p39 : lw_okq (⟨"OneBreathModel", "becomes", "(III)V"⟩, 28) := ⟨⟨by decide +kernel, by decide +kernel⟩, List.mem_of_getElem? (i := 1066) (by decide +kernel), List.mem_of_getElem? (i := 1259) (by decide +kernel), List.mem_of_getElem? (i := 1260) (by decide +kernel)⟩
theorem lw_p40 : lw_okq (⟨"OneBreathModel", "isBell", "(I)Z"⟩, 28) := ⟨⟨by decide +kernel, by decide +kernel⟩, List.mem_of_getElem? (i := 1066) (by decide +kernel), List.mem_of_getElem? (i := 1267) (by decide +kernel), List.mem_of_getElem? (i := 1268) (by decide +kernel)⟩
theorem lw_p41 : lw_okq (⟨"OneBreathModel", "of", "(II)I"⟩, 28) := ⟨⟨by decide +kernel, by decide +kernel⟩, List.mem_of_getElem? (i := 1066) (by decide +kernel), List.mem_of_getElem? (i := 1272) (by decide +kernel), List.mem_of_getElem? (i := 1273) (by decide +kernel)⟩
theorem lw_p42 : lw_okq (⟨"OneBreathModel", "isStruck", "(II)Z"⟩, 28) := ⟨⟨by decide +kernel, by decide +kernel⟩, List.mem_of_getElem? (i := 1066) (by decide +kernel), List.mem_of_getElem? (i := 1298) (by decide +kernel), List.mem_of_getElem? (i := 1299) (by decide +kernel)⟩
theorem lw_p43 : lw_okq (⟨"OneBreathModel", "isEar", "(I)Z"⟩, 28) := ⟨⟨by decide +kernel, by decide +kernel⟩, List.mem_of_getElem? (i := 1066) (by decide +kernel), List.mem_of_getElem? (i := 1319) (by decide +kernel), List.mem_of_getElem? (i := 1320) (by decide +kernel)⟩
theorem lw_p44 : lw_okq (⟨"OneBreathModel", "farOf", "(II)I"⟩, 28) := ⟨⟨by decide +kernel, by decide +kernel⟩, List.mem_of_getElem? (i := 1066) (by decide +kernel), List.mem_of_getElem? (i := 1324) (by decide +kernel), List.mem_of_getElem? (i := 1325) (by decide +kernel)⟩
theorem lw_p45 : lw_okq (⟨"OneBreathModel", "hidOf", "(II)I"⟩, 28) := ⟨⟨by decide +kernel, by decide +kernel⟩, List.mem_of_getElem? (i := 1066) (by decide +kernel), List.mem_of_getElem? (i := 1331) (by decide +kernel), List.mem_of_getElem? (i := 1332) (by decide +kernel)⟩
theorem lw_p46 : lw_okq (⟨"OneBreathModel", "wayOf", "(II)I"⟩, 28) := ⟨⟨by decide +kernel, by decide +kernel⟩, List.mem_of_getElem? (i := 1066) (by decide +kernel), List.mem_of_getElem? (i := 1335) (by decide +kernel), List.mem_of_getElem? (i := 1336) (by decide +kernel)⟩
theorem lw_p47 : lw_okq (⟨"OneBreathModel", "windOf", "(II)I"⟩, 28) := ⟨⟨by decide +kernel, by decide +kernel⟩, List.mem_of_getElem? (i := 1066) (by decide +kernel), List.mem_of_getElem? (i := 1339) (by decide +kernel), List.mem_of_getElem? (i := 1340) (by decide +kernel)⟩
def lw_privs_3 : List (MethodName × Nat) := [(⟨"OneBreathModel", "here", "()I"⟩, 28), (⟨"OneBreathModel", "wrong", "()I"⟩, 28), (⟨"OneBreathModel", "takes", "(I)Z"⟩, 28), (⟨"OneBreathModel", "nameOf", "(I)I"⟩, 28), (⟨"OneBreathModel", "carries", "(IIIII)I"⟩, 28), (⟨"OneBreathModel", "grazes", "(III)I"⟩, 28), (⟨"OneBreathModel", "lays", "(IIIII)V"⟩, 28), (⟨"OneBreathModel", "becomes", "(III)V"⟩, 28), (⟨"OneBreathModel", "isBell", "(I)Z"⟩, 28), (⟨"OneBreathModel", "of", "(II)I"⟩, 28), (⟨"OneBreathModel", "isStruck", "(II)Z"⟩, 28), (⟨"OneBreathModel", "isEar", "(I)Z"⟩, 28), (⟨"OneBreathModel", "farOf", "(II)I"⟩, 28), (⟨"OneBreathModel", "hidOf", "(II)I"⟩, 28), (⟨"OneBreathModel", "wayOf", "(II)I"⟩, 28), (⟨"OneBreathModel", "windOf", "(II)I"⟩, 28)]
theorem lw_r3 : ∀ q ∈ lw_privs_3, lw_okq q := List.forall_mem_cons.mpr ⟨lw_p32, List.forall_mem_cons.mpr ⟨lw_p33, List.forall_mem_cons.mpr ⟨lw_p34, List.forall_mem_cons.mpr ⟨lw_p35, List.forall_mem_cons.mpr ⟨lw_p36, List.forall_mem_cons.mpr ⟨lw_p37, List.forall_mem_cons.mpr ⟨lw_p38, List.forall_mem_cons.mpr ⟨lw_p39, List.forall_mem_cons.mpr ⟨lw_p40, List.forall_mem_cons.mpr ⟨lw_p41, List.forall_mem_cons.mpr ⟨lw_p42, List.forall_mem_cons.mpr ⟨lw_p43, List.forall_mem_cons.mpr ⟨lw_p44, List.forall_mem_cons.mpr ⟨lw_p45, List.forall_mem_cons.mpr ⟨lw_p46, List.forall_mem_cons.mpr ⟨lw_p47, fun _ h => absurd h List.not_mem_nil⟩⟩⟩⟩⟩⟩⟩⟩⟩⟩⟩⟩⟩⟩⟩⟩
theorem lw_p48 : lw_okq (⟨"OneBreathModel", "strengthOf", "(II)I"⟩, 28) := ⟨⟨by decide +kernel, by decide +kernel⟩, List.mem_of_getElem? (i := 1066) (by decide +kernel), List.mem_of_getElem? (i := 1344) (by decide +kernel), List.mem_of_getElem? (i := 1345) (by decide +kernel)⟩
theorem lw_p49 : lw_okq (⟨"OneBreathModel", "isHeard", "(III)Z"⟩, 28) := ⟨⟨by decide +kernel, by decide +kernel⟩, List.mem_of_getElem? (i := 1066) (by decide +kernel), List.mem_of_getElem? (i := 1352) (by decide +kernel), List.mem_of_getElem? (i := 1353) (by decide +kernel)⟩
theorem lw_p50 : lw_okq (⟨"OneBreathModel", "clashesAt", "(I)I"⟩, 28) := ⟨⟨by decide +kernel, by decide +kernel⟩, List.mem_of_getElem? (i := 1066) (by decide +kernel), List.mem_of_getElem? (i := 1360) (by decide +kernel), List.mem_of_getElem? (i := 1361) (by decide +kernel)⟩
theorem lw_p51 : lw_okq (⟨"OneBreathModel", "hearsAll", "(I)V"⟩, 28) := ⟨⟨by decide +kernel, by decide +kernel⟩, List.mem_of_getElem? (i := 1066) (by decide +kernel), List.mem_of_getElem? (i := 1364) (by decide +kernel), List.mem_of_getElem? (i := 1365) (by decide +kernel)⟩
theorem lw_p52 : lw_okq (⟨"OneBreathModel", "hears", "(II)V"⟩, 28) := ⟨⟨by decide +kernel, by decide +kernel⟩, List.mem_of_getElem? (i := 1066) (by decide +kernel), List.mem_of_getElem? (i := 1368) (by decide +kernel), List.mem_of_getElem? (i := 1369) (by decide +kernel)⟩
theorem lw_p53 : lw_okq (⟨"OneBreathModel", "clashesOfOne", "(II)I"⟩, 28) := ⟨⟨by decide +kernel, by decide +kernel⟩, List.mem_of_getElem? (i := 1066) (by decide +kernel), List.mem_of_getElem? (i := 1372) (by decide +kernel), List.mem_of_getElem? (i := 1373) (by decide +kernel)⟩
theorem lw_p54 : lw_okq (⟨"OneBreathModel", "clashesOf", "(III)I"⟩, 28) := ⟨⟨by decide +kernel, by decide +kernel⟩, List.mem_of_getElem? (i := 1066) (by decide +kernel), List.mem_of_getElem? (i := 1376) (by decide +kernel), List.mem_of_getElem? (i := 1377) (by decide +kernel)⟩
theorem lw_p55 : lw_okq (⟨"OneBreathModel", "isClash", "(IIII)Z"⟩, 28) := ⟨⟨by decide +kernel, by decide +kernel⟩, List.mem_of_getElem? (i := 1066) (by decide +kernel), List.mem_of_getElem? (i := 1380) (by decide +kernel), List.mem_of_getElem? (i := 1381) (by decide +kernel)⟩
theorem lw_p56 : lw_okq (⟨"OneBreathModel", "firstClash", "()I"⟩, 28) := ⟨⟨by decide +kernel, by decide +kernel⟩, List.mem_of_getElem? (i := 1066) (by decide +kernel), List.mem_of_getElem? (i := 1384) (by decide +kernel), List.mem_of_getElem? (i := 1385) (by decide +kernel)⟩
theorem lw_p57 : lw_okq (⟨"OneBreathModel", "apartOf", "(II)I"⟩, 28) := ⟨⟨by decide +kernel, by decide +kernel⟩, List.mem_of_getElem? (i := 1066) (by decide +kernel), List.mem_of_getElem? (i := 1401) (by decide +kernel), List.mem_of_getElem? (i := 1402) (by decide +kernel)⟩
theorem lw_p58 : lw_okq (⟨"OneBreathModel", "findOrder", "(I)V"⟩, 28) := ⟨⟨by decide +kernel, by decide +kernel⟩, List.mem_of_getElem? (i := 1066) (by decide +kernel), List.mem_of_getElem? (i := 1409) (by decide +kernel), List.mem_of_getElem? (i := 1410) (by decide +kernel)⟩
theorem lw_p59 : lw_okq (⟨"OneBreathModel", "isAhead", "(II)Z"⟩, 28) := ⟨⟨by decide +kernel, by decide +kernel⟩, List.mem_of_getElem? (i := 1066) (by decide +kernel), List.mem_of_getElem? (i := 1413) (by decide +kernel), List.mem_of_getElem? (i := 1414) (by decide +kernel)⟩
theorem lw_p60 : lw_okq (⟨"OneBreathModel", "findSlates", "(I)Z"⟩, 28) := ⟨⟨by decide +kernel, by decide +kernel⟩, List.mem_of_getElem? (i := 1066) (by decide +kernel), List.mem_of_getElem? (i := 1417) (by decide +kernel), List.mem_of_getElem? (i := 1418) (by decide +kernel)⟩
theorem lw_p61 : lw_okq (⟨"OneBreathModel", "isStill", "(I)Z"⟩, 28) := ⟨⟨by decide +kernel, by decide +kernel⟩, List.mem_of_getElem? (i := 1066) (by decide +kernel), List.mem_of_getElem? (i := 1433) (by decide +kernel), List.mem_of_getElem? (i := 1434) (by decide +kernel)⟩
theorem lw_p62 : lw_okq (⟨"OneBreathModel", "ranks", "(I)I"⟩, 28) := ⟨⟨by decide +kernel, by decide +kernel⟩, List.mem_of_getElem? (i := 1066) (by decide +kernel), List.mem_of_getElem? (i := 1437) (by decide +kernel), List.mem_of_getElem? (i := 1438) (by decide +kernel)⟩
theorem lw_p63 : lw_okq (⟨"OneBreathModel", "loudAt", "(II)I"⟩, 28) := ⟨⟨by decide +kernel, by decide +kernel⟩, List.mem_of_getElem? (i := 1066) (by decide +kernel), List.mem_of_getElem? (i := 1460) (by decide +kernel), List.mem_of_getElem? (i := 1461) (by decide +kernel)⟩
def lw_privs_4 : List (MethodName × Nat) := [(⟨"OneBreathModel", "strengthOf", "(II)I"⟩, 28), (⟨"OneBreathModel", "isHeard", "(III)Z"⟩, 28), (⟨"OneBreathModel", "clashesAt", "(I)I"⟩, 28), (⟨"OneBreathModel", "hearsAll", "(I)V"⟩, 28), (⟨"OneBreathModel", "hears", "(II)V"⟩, 28), (⟨"OneBreathModel", "clashesOfOne", "(II)I"⟩, 28), (⟨"OneBreathModel", "clashesOf", "(III)I"⟩, 28), (⟨"OneBreathModel", "isClash", "(IIII)Z"⟩, 28), (⟨"OneBreathModel", "firstClash", "()I"⟩, 28), (⟨"OneBreathModel", "apartOf", "(II)I"⟩, 28), (⟨"OneBreathModel", "findOrder", "(I)V"⟩, 28), (⟨"OneBreathModel", "isAhead", "(II)Z"⟩, 28), (⟨"OneBreathModel", "findSlates", "(I)Z"⟩, 28), (⟨"OneBreathModel", "isStill", "(I)Z"⟩, 28), (⟨"OneBreathModel", "ranks", "(I)I"⟩, 28), (⟨"OneBreathModel", "loudAt", "(II)I"⟩, 28)]
theorem lw_r4 : ∀ q ∈ lw_privs_4, lw_okq q := List.forall_mem_cons.mpr ⟨lw_p48, List.forall_mem_cons.mpr ⟨lw_p49, List.forall_mem_cons.mpr ⟨lw_p50, List.forall_mem_cons.mpr ⟨lw_p51, List.forall_mem_cons.mpr ⟨lw_p52, List.forall_mem_cons.mpr ⟨lw_p53, List.forall_mem_cons.mpr ⟨lw_p54, List.forall_mem_cons.mpr ⟨lw_p55, List.forall_mem_cons.mpr ⟨lw_p56, List.forall_mem_cons.mpr ⟨lw_p57, List.forall_mem_cons.mpr ⟨lw_p58, List.forall_mem_cons.mpr ⟨lw_p59, List.forall_mem_cons.mpr ⟨lw_p60, List.forall_mem_cons.mpr ⟨lw_p61, List.forall_mem_cons.mpr ⟨lw_p62, List.forall_mem_cons.mpr ⟨lw_p63, fun _ h => absurd h List.not_mem_nil⟩⟩⟩⟩⟩⟩⟩⟩⟩⟩⟩⟩⟩⟩⟩⟩
theorem lw_p64 : lw_okq (⟨"OneBreathModel", "goesBy", "()V"⟩, 28) := ⟨⟨by decide +kernel, by decide +kernel⟩, List.mem_of_getElem? (i := 1066) (by decide +kernel), List.mem_of_getElem? (i := 1473) (by decide +kernel), List.mem_of_getElem? (i := 1474) (by decide +kernel)⟩
theorem lw_p65 : lw_okq (⟨"OneBreathModel", "own", "()I"⟩, 28) := ⟨⟨by decide +kernel, by decide +kernel⟩, List.mem_of_getElem? (i := 1066) (by decide +kernel), List.mem_of_getElem? (i := 1493) (by decide +kernel), List.mem_of_getElem? (i := 1494) (by decide +kernel)⟩
theorem lw_p66 : lw_okq (⟨"OneBreathModel", "rings", "(II)I"⟩, 28) := ⟨⟨by decide +kernel, by decide +kernel⟩, List.mem_of_getElem? (i := 1066) (by decide +kernel), List.mem_of_getElem? (i := 1497) (by decide +kernel), List.mem_of_getElem? (i := 1498) (by decide +kernel)⟩
theorem lw_p67 : lw_okq (⟨"OneBreathModel", "ran", "(I)V"⟩, 28) := ⟨⟨by decide +kernel, by decide +kernel⟩, List.mem_of_getElem? (i := 1066) (by decide +kernel), List.mem_of_getElem? (i := 1501) (by decide +kernel), List.mem_of_getElem? (i := 1502) (by decide +kernel)⟩
theorem lw_p68 : lw_okq (⟨"OneBreathModel", "swings", "(II)I"⟩, 28) := ⟨⟨by decide +kernel, by decide +kernel⟩, List.mem_of_getElem? (i := 1066) (by decide +kernel), List.mem_of_getElem? (i := 1508) (by decide +kernel), List.mem_of_getElem? (i := 1509) (by decide +kernel)⟩
theorem lw_p69 : lw_okq (⟨"OneBreathModel", "hums", "(II)I"⟩, 28) := ⟨⟨by decide +kernel, by decide +kernel⟩, List.mem_of_getElem? (i := 1066) (by decide +kernel), List.mem_of_getElem? (i := 1512) (by decide +kernel), List.mem_of_getElem? (i := 1513) (by decide +kernel)⟩
theorem lw_p70 : lw_okq (⟨"OneBreathModel", "tells", "(II)I"⟩, 28) := ⟨⟨by decide +kernel, by decide +kernel⟩, List.mem_of_getElem? (i := 1066) (by decide +kernel), List.mem_of_getElem? (i := 1516) (by decide +kernel), List.mem_of_getElem? (i := 1517) (by decide +kernel)⟩
theorem lw_p71 : lw_okq (⟨"OneBreathModel", "wrong", "(I)I"⟩, 28) := ⟨⟨by decide +kernel, by decide +kernel⟩, List.mem_of_getElem? (i := 1066) (by decide +kernel), List.mem_of_getElem? (i := 1552) (by decide +kernel), List.mem_of_getElem? (i := 1553) (by decide +kernel)⟩
theorem lw_p72 : lw_okq (⟨"OneBreathModel", "clashesAhead", "(I)Z"⟩, 28) := ⟨⟨by decide +kernel, by decide +kernel⟩, List.mem_of_getElem? (i := 1066) (by decide +kernel), List.mem_of_getElem? (i := 1556) (by decide +kernel), List.mem_of_getElem? (i := 1557) (by decide +kernel)⟩
theorem lw_p73 : lw_okq (⟨"OneBreathModel", "manySilent", "()I"⟩, 28) := ⟨⟨by decide +kernel, by decide +kernel⟩, List.mem_of_getElem? (i := 1066) (by decide +kernel), List.mem_of_getElem? (i := 1564) (by decide +kernel), List.mem_of_getElem? (i := 1565) (by decide +kernel)⟩
def lw_privs_5 : List (MethodName × Nat) := [(⟨"OneBreathModel", "goesBy", "()V"⟩, 28), (⟨"OneBreathModel", "own", "()I"⟩, 28), (⟨"OneBreathModel", "rings", "(II)I"⟩, 28), (⟨"OneBreathModel", "ran", "(I)V"⟩, 28), (⟨"OneBreathModel", "swings", "(II)I"⟩, 28), (⟨"OneBreathModel", "hums", "(II)I"⟩, 28), (⟨"OneBreathModel", "tells", "(II)I"⟩, 28), (⟨"OneBreathModel", "wrong", "(I)I"⟩, 28), (⟨"OneBreathModel", "clashesAhead", "(I)Z"⟩, 28), (⟨"OneBreathModel", "manySilent", "()I"⟩, 28)]
theorem lw_r5 : ∀ q ∈ lw_privs_5, lw_okq q := List.forall_mem_cons.mpr ⟨lw_p64, List.forall_mem_cons.mpr ⟨lw_p65, List.forall_mem_cons.mpr ⟨lw_p66, List.forall_mem_cons.mpr ⟨lw_p67, List.forall_mem_cons.mpr ⟨lw_p68, List.forall_mem_cons.mpr ⟨lw_p69, List.forall_mem_cons.mpr ⟨lw_p70, List.forall_mem_cons.mpr ⟨lw_p71, List.forall_mem_cons.mpr ⟨lw_p72, List.forall_mem_cons.mpr ⟨lw_p73, fun _ h => absurd h List.not_mem_nil⟩⟩⟩⟩⟩⟩⟩⟩⟩⟩
def lw_privs : List (MethodName × Nat) := lw_privs_1 ++ (lw_privs_2 ++ (lw_privs_3 ++ (lw_privs_4 ++ (lw_privs_5))))
def lw_tbl : List Cond := k2_sels lw_privs ++ tables_1
theorem lw_privs_ok : ∀ q ∈ lw_privs, lw_okq q := by
  show ∀ q ∈ lw_privs_1 ++ (lw_privs_2 ++ (lw_privs_3 ++ (lw_privs_4 ++ (lw_privs_5)))), lw_okq q
  exact List.forall_mem_append.mpr ⟨lw_r1, List.forall_mem_append.mpr ⟨lw_r2, List.forall_mem_append.mpr ⟨lw_r3, List.forall_mem_append.mpr ⟨lw_r4, lw_r5⟩⟩⟩⟩
def va_AOA (ty : FieldType) (U : State) : Prop := (Cond.arrayOver (.array ty)).before #[] U = true
theorem va_AOA.use {ty : FieldType} {A : Array Value} {U : State} (h : va_AOA ty U) : (Cond.arrayOver (.array ty)).before A U = true := h

/-! ===== BEGIN words of one list among another's, by their places ===== -/
theorem goodIn_r {big : List Cond} (ws : List Cond) (ps : List Nat) (hp : ws = ps.filterMap (fun i => big[i]?)) (h : ws.all goodWord = true) : GoodIn big ws := by
  intro w hw
  have h1 := List.all_eq_true.mp h w hw
  rw [hp] at hw
  obtain ⟨i, -, hi⟩ := List.mem_filterMap.mp hw
  have hm : w ∈ big := by first | exact List.mem_of_getElem? hi | exact List.getElem?_mem hi
  exact ⟨hm, good_of_word h1⟩
theorem goodIn_app {big a b : List Cond} (ha : GoodIn big a) (hb : GoodIn big b) : GoodIn big (a ++ b) := fun w h => (List.mem_append.mp h).elim (ha w) (hb w)
theorem goodIn_ca {big a b : List Cond} {c : Cond} (ha : GoodIn big (c :: a)) (hb : GoodIn big b) : GoodIn big (c :: (a ++ b)) := fun w h => (List.mem_cons.mp h).elim (fun e => ha w (List.mem_cons.mpr (Or.inl e))) (fun h => (List.mem_append.mp h).elim (fun h => ha w (List.mem_cons.mpr (Or.inr h))) (hb w))
theorem goodIn_sub {big ws : List Cond} (hm : ∀ w ∈ ws, w ∈ big) (h : ws.all goodWord = true) : GoodIn big ws := fun w hw => ⟨hm w hw, good_of_word (List.all_eq_true.mp h w hw)⟩
/-! ===== END ===== -/

/-! ===== BEGIN new T[n][m]: the outer array a place, the inner ones among the pooled ===== -/
/-- f, but v at every address of l -/
def vr_up {α : Type} (f : Nat → α) (l : List Nat) (v : α) : Nat → α := fun a => if a ∈ l then v else f a
theorem vr_up_in {α : Type} {f : Nat → α} {l : List Nat} {v : α} {a : Nat} (h : a ∈ l) : vr_up f l v a = v := if_pos h
theorem vr_up_ne {α : Type} {f : Nat → α} {l : List Nat} {v : α} {a : Nat} (h : a ∉ l) : vr_up f l v a = f a := if_neg h
theorem vr_rows {L l : List Nat} {f : Nat → va_E} {e : va_E} (h : ∀ a, a ∈ l → a ∉ L) : va_pl L f ++ l.map (fun a => (a, e)) = va_pl (L ++ l) (vr_up f l e) := by
  unfold va_pl
  rw [List.map_append]
  congr 1
  · apply List.map_congr_left
    intro a ha
    rw [vr_up_ne (fun q => h a q ha)]
  · apply List.map_congr_left
    intro a ha
    rw [vr_up_in ha]
theorem vr_lay {X rows : va_W} {x : Nat × va_E} {pl : va_W} {D : va_G} {cl : List vw_C} {H : Heap} (hP : va_P D cl (((X ++ pl) ++ [x]) ++ rows) H) : va_P D cl ((X ++ [x]) ++ (pl ++ rows)) H := by
  rw [List.append_assoc (X ++ pl)] at hP
  have h := va_P.swap hP
  rw [← List.append_assoc X] at h
  have h2 := va_P.swap h
  rw [List.append_assoc (X ++ [x])] at h2
  exact h2
theorem vr_layD {X rows : va_W} {x : Nat × va_E} {pl : va_W} {A : Nat → Prop} (hD : va_D A (((X ++ pl) ++ [x]) ++ rows)) : va_D A ((X ++ [x]) ++ (pl ++ rows)) := by
  rw [List.append_assoc (X ++ pl)] at hD
  have h := va_D.swap hD
  rw [← List.append_assoc X] at h
  have h2 := va_D.swap h
  rw [List.append_assoc (X ++ [x])] at h2
  exact h2
theorem vr_outer (c : ClassId) (N h0 : Nat) : ∀ i : Nat, Jvm.Free.Multi.outerC c N h0 i = arrV c N (fun j => va_rf (if j < i then some (h0 + 1 + j) else none))
  | 0 => by
    show ({ cls := c, slots := Array.replicate N .null, vm := .none } : Cell) = _
    rw [arrV_new]
    refine congrArg (arrV c N) (funext fun j => ?_)
    simp [va_rf]
  | i + 1 => by
    show (Jvm.Free.Multi.outerC c N h0 i).setSlot i (.ref (h0 + 1 + i)) = _
    rw [vr_outer c N h0 i, arrV_store]
    refine congrArg (arrV c N) (funext fun j => ?_)
    by_cases e : j = i
    · subst e
      simp [updV, va_rf]
    · by_cases h : j < i
      · simp [updV, e, h, Nat.lt_succ_of_lt h]
      · simp [updV, e, h, show ¬ j < i + 1 by omega]
section VGM
variable {p : Program} {l : Launch} {e : Env} {R : Room} {s : State} {m : MethodId} {args : Array Value} {below : List Frame} {meth : Method} {c : Code} {H : Heap} {locs : List Loc} {cells slots : Nat} {Q : State → Prop}
variable {cc : ByteArray} {pc : Nat} {ls : Array Slot} {rest : List Value} {D : va_G} {cl : List vw_C} {A : Nat → Prop} {a : Nat} {tys : List (ClassId × FieldType)} {ws : va_W} {H0 : Heap}
theorem va_mna {X : va_W} {L : List Nat} {f : Nat → va_E} {cc : ByteArray} (hexec : p.tables.exec = Jvm.exec) (hb : c.code = cc) {own : String} {index : Nat} {ty : FieldType} {cy : ClassId} (hown : s.vm.findClass own = some m.cls) (hclink : (Cond.classLink own index ("[" ++ (FieldType.array ty).toString)).before args s = true) (hover : va_AOA ty s) (harr : (Cond.arrayClass ty).before args s = true) (hcy : s.vm.findClass (FieldType.array ty).toString = some cy)
    (hK : va_K D cl tys s) (hP : va_P D cl (X ++ va_pl L f) H) (hD : va_D A (X ++ va_pl L f)) (hS : va_S A H0 H locs) (hA : ∀ q, H0.size ≤ q → A q) {n k : Int32} {N' K' : Nat} {z : vp_A} (hn : ¬ n < 0) (hk : ¬ k < 0) (hN : n.toNatClampNeg = N') (hM : k.toNatClampNeg = K')
    (hb1 : N' * 4 ≤ 536870912) (hb2 : K' * componentBytes ty ≤ 536870912) (hb3 : K' ≤ 536870912) (hdf : fits ty (defaultValue ty) = true) (hdd : (defaultValue ty).isDefault = true) (hcells : cells + (1 + N') ≤ R.cells) (hslots : slots + (N' + N' * K') ≤ R.slots) (hz : ∀ c : ClassId, Jvm.Free.Multi.innerC c K' (defaultValue ty) = vp_cell c z) (hdg : decode cc pc = .ok (.multianewarray index 2, 4))
    (kk : ∀ (q : Nat) (r : Nat → Nat) (cA : ClassId) (H1 : Heap), (∀ i j : Nat, i < N' → j < N' → r i = r j → i = j) → (∀ i : Nat, i < N' → r i ∉ L) → va_K D cl (tys ++ [(cA, .array ty)]) s →
      va_P D cl ((X ++ [(q, .inl (cA, N', .inr (.inr (.inr (.inr (fun i => if i < N' then some (r i) else none))))))]) ++ va_pl (L ++ (List.range N').map r) (vr_up f ((List.range N').map r) (.inl (cy, z)))) H1 → va_D A ((X ++ [(q, .inl (cA, N', .inr (.inr (.inr (.inr (fun i => if i < N' then some (r i) else none))))))]) ++ va_pl (L ++ (List.range N').map r) (vr_up f ((List.range N').map r) (.inl (cy, z)))) → va_S A H0 H1 locs →
      W p l e R s m args below meth c H1 locs (cells + 1 + N') (slots + N' + N' * K') Q (F0 m (pc + 4) ls (.ref q :: rest))) : W p l e R s m args below meth c H locs cells slots Q (F0 m pc ls (.int k :: .int n :: rest)) := by
  subst hN
  subst hM
  intro T hT Xs
  obtain ⟨vm₁, cA, comp, -, fA, fC, hO, -, X', step⟩ := Xs.multianewarray2F hexec hown hclink (va_AOA.use hover) harr (g := F0 m pc ls (.int k :: .int n :: rest)) rfl (by rw [hb]; exact hdg) rfl hn hk hb1 hb2 hb3 hdf hdd hcells hslots
  have ec : some cy = some comp := hcy.symm.trans fC
  cases ec
  generalize hF : Jvm.Free.Multi.fill (T.setVm vm₁) cA cy n.toNatClampNeg k.toNatClampNeg (defaultValue ty) n.toNatClampNeg = F at X' step
  have hTh : (T.setVm vm₁).heap = H := hT
  obtain ⟨f1, f2, -, -⟩ := Jvm.Free.Multi.fill_facts (T.setVm vm₁) cA cy n.toNatClampNeg k.toNatClampNeg (defaultValue ty) n.toNatClampNeg
  rw [hF, hTh] at f1 f2
  have hold : ∀ x : Nat, x < H.size → F.heap[x]? = H[x]? := fun x hx => by
    have := Jvm.Free.Multi.fill_old (T.setVm vm₁) cA cy n.toNatClampNeg k.toNatClampNeg (defaultValue ty) (a := x) (by rw [hTh]; exact hx) n.toNatClampNeg
    rw [hF, hTh] at this
    exact this
  have hrow : ∀ j : Nat, j < n.toNatClampNeg → F.heap[H.size + 1 + j]? = some (vp_cell cy z) := fun j hj => by
    have := Jvm.Free.Multi.fill_inner (T.setVm vm₁) cA cy n.toNatClampNeg k.toNatClampNeg (defaultValue ty) n.toNatClampNeg j hj
    rw [hF, hTh, hz] at this
    exact this
  have hout : Jvm.Free.Multi.outerC cA n.toNatClampNeg H.size n.toNatClampNeg = vp_cell cA (n.toNatClampNeg, .inr (.inr (.inr (.inr (fun i => if i < n.toNatClampNeg then some (H.size + 1 + i) else none))))) := by
    rw [vp_cell_q]
    exact vr_outer cA n.toNatClampNeg H.size n.toNatClampNeg
  rw [hout] at f2
  have hlt : ∀ a, a ∈ L → a < H.size := fun a ha => by
    obtain ⟨k9, hk9⟩ := va_pl_get (X := X) (f := f) ha
    exact (hP k9 _ hk9).lt
  have hnl : ∀ i : Nat, i < n.toNatClampNeg → H.size + 1 + i ∉ L := fun i _ h => by
    have := hlt _ h
    omega
  have hnm : ∀ a, a ∈ (List.range n.toNatClampNeg).map (fun i => H.size + 1 + i) → a ∉ L := fun a ha h => by
    obtain ⟨i, -, rfl⟩ := List.mem_map.mp ha
    have := hlt _ h
    omega
  have hP0 : va_P D cl (X ++ va_pl L f) F.heap := hP.kept (fun k9 x hx => hold x.1 ((hP k9 x hx).lt))
  have hP1 : va_P D cl ((X ++ va_pl L f) ++ [(H.size, .inl (cA, n.toNatClampNeg, .inr (.inr (.inr (.inr (fun i => if i < n.toNatClampNeg then some (H.size + 1 + i) else none))))))]) F.heap := hP0.app (fun k9 x hx => by
    have h0 : k9 < 1 := (List.getElem?_eq_some_iff.mp hx).1
    rw [show k9 = 0 by omega] at hx
    cases hx
    exact f2)
  have hP2 : va_P D cl (((X ++ va_pl L f) ++ [(H.size, .inl (cA, n.toNatClampNeg, .inr (.inr (.inr (.inr (fun i => if i < n.toNatClampNeg then some (H.size + 1 + i) else none))))))]) ++ ((List.range n.toNatClampNeg).map (fun i => H.size + 1 + i)).map (fun a => (a, .inl (cy, z)))) F.heap := hP1.app (fun k9 x hx => by
    obtain ⟨a, ha, rfl⟩ := List.mem_map.mp (List.mem_of_getElem? hx)
    obtain ⟨i, hi, rfl⟩ := List.mem_map.mp ha
    exact hrow i (List.mem_range.mp hi))
  have hD2 : va_D A (((X ++ va_pl L f) ++ [(H.size, .inl (cA, n.toNatClampNeg, .inr (.inr (.inr (.inr (fun i => if i < n.toNatClampNeg then some (H.size + 1 + i) else none))))))]) ++ ((List.range n.toNatClampNeg).map (fun i => H.size + 1 + i)).map (fun a => (a, .inl (cy, z)))) := by
    have hD1 := hD.push (e := .inl (cA, n.toNatClampNeg, .inr (.inr (.inr (.inr (fun i => if i < n.toNatClampNeg then some (H.size + 1 + i) else none)))))) hP rfl (hA _ hS.1)
    generalize hW1 : (X ++ va_pl L f) ++ [(H.size, .inl (cA, n.toNatClampNeg, .inr (.inr (.inr (.inr (fun i => if i < n.toNatClampNeg then some (H.size + 1 + i) else none))))))] = W1 at hD1 hP1 ⊢
    have hle : ∀ (k9 : Nat) (x : Nat × va_E), W1[k9]? = some x → x.1 ≤ H.size := fun k9 x hx => by
      rw [← hW1] at hx
      by_cases hl : k9 < (X ++ va_pl L f).length
      · rw [List.getElem?_append_left hl] at hx
        exact Nat.le_of_lt ((hP k9 x hx).lt)
      · rw [List.getElem?_append_right (by omega)] at hx
        have h0 : k9 - (X ++ va_pl L f).length < 1 := (List.getElem?_eq_some_iff.mp hx).1
        rw [show k9 - (X ++ va_pl L f).length = 0 by omega] at hx
        cases hx
        exact Nat.le_refl _
    have hr : ∀ (k9 : Nat) (x : Nat × va_E), (((List.range n.toNatClampNeg).map (fun i => H.size + 1 + i)).map (fun a => ((a, .inl (cy, z)) : Nat × va_E)))[k9]? = some x → x.1 = H.size + 1 + k9 := fun k9 x hx => by
      rw [List.getElem?_map, List.getElem?_map] at hx
      by_cases h9 : k9 < n.toNatClampNeg
      · rw [List.getElem?_range h9] at hx
        cases hx
        rfl
      · have hn0 : (List.range n.toNatClampNeg)[k9]? = none := List.getElem?_eq_none (by rw [List.length_range]; omega)
        rw [hn0] at hx
        cases hx
    refine ⟨fun i j x y hi hj hxy => ?_, fun k9 x hx => ?_⟩
    · by_cases h1 : i < W1.length <;> by_cases h2 : j < W1.length
      · rw [List.getElem?_append_left h1] at hi
        rw [List.getElem?_append_left h2] at hj
        exact hD1.1 i j x y hi hj hxy
      · rw [List.getElem?_append_left h1] at hi
        rw [List.getElem?_append_right (by omega)] at hj
        have := hle _ _ hi
        have := hr _ _ hj
        omega
      · rw [List.getElem?_append_right (by omega)] at hi
        rw [List.getElem?_append_left h2] at hj
        have := hle _ _ hj
        have := hr _ _ hi
        omega
      · rw [List.getElem?_append_right (by omega)] at hi hj
        have := hr _ _ hi
        have := hr _ _ hj
        omega
    · by_cases h1 : k9 < W1.length
      · rw [List.getElem?_append_left h1] at hx
        exact hD1.2 k9 x hx
      · rw [List.getElem?_append_right (by omega)] at hx
        have := hr _ _ hx
        exact hA _ (by have := hS.1; omega)
  have hAr : ArrOfT s cA (.array ty) := fun N9 z9 => by
    obtain ⟨-, k9, hk9, cm9, hkk9⟩ := (hO 0 0 0).1
    exact ⟨(fun q hq => by cases hq), k9, hk9, cm9, hkk9⟩
  have hK2 : va_K D cl (tys ++ [(cA, .array ty)]) s := ⟨hK.1, fun k9 x hx => by
    by_cases hl : k9 < tys.length
    · rw [List.getElem?_append_left hl] at hx
      exact hK.2 k9 x hx
    · rw [List.getElem?_append_right (by omega)] at hx
      have h0 : k9 - tys.length < 1 := (List.getElem?_eq_some_iff.mp hx).1
      rw [show k9 - tys.length = 0 by omega] at hx
      cases hx
      exact ⟨hAr, fA⟩⟩
  obtain ⟨t, a1, b1⟩ := kk H.size (fun i => H.size + 1 + i) cA F.heap (fun i j _ _ h => by have h9 : H.size + 1 + i = H.size + 1 + j := h; omega) hnl hK2 (by rw [← vr_rows hnm]; exact vr_lay hP2) (by rw [← vr_rows hnm]; exact vr_layD hD2) ⟨by rw [f1]; have := hS.1; omega, fun x h1 h2 => (hold x (Nat.lt_of_lt_of_le h1 hS.1)).trans (hS.2.1 x h1 h2), hS.2.2⟩ F rfl X'
  refine ⟨t, step t ?_, b1⟩
  have e : T.heap.size = H.size := by rw [hT]
  rw [e]
  exact a1
end VGM
/-! ===== END ===== -/

def RX0 : String := "OneBreath$Bell"
def TX0 : u_T := fun k => match k with
  | 0 => ("OneBreath$Bell", "kind", "I", false)
  | 1 => ("OneBreath$Bell", "m", "I", false)
  | 2 => ("OneBreath$Bell", "spot", "I", false)
  | 3 => ("OneBreath$Bell", "loud", "I", false)
  | 4 => ("OneBreath$Bell", "offset", "I", false)
  | 5 => ("OneBreath$Bell", "rank", "I", false)
  | _ => ("OneBreath$Bell", "silent", "I", false)
def tyX0 : Nat → FieldType := fun k => match k with
  | 0 => .int
  | 1 => .int
  | 2 => .int
  | 3 => .int
  | 4 => .int
  | 5 => .int
  | _ => .int
abbrev wsX00 : List Cond := u_ws RX0 TX0 7
theorem nmX0 : ∀ a, a < 7 → ∀ b, b < 7 → a ≠ b → (TX0 a).2.1 ≠ (TX0 b).2.1 := by decide +kernel
theorem tyX0_ok : ∀ k, k < 7 → parseFieldDescriptor (TX0 k).2.2.1 = some (tyX0 k) := by decide +kernel
abbrev cX0_init : ByteArray := prog_2_method_1_code
def yX0_init : MethodName := ⟨RX0, "<init>", "()V"⟩
abbrev cX0_mayBecome : ByteArray := prog_2_method_2_code
def yX0_mayBecome : MethodName := ⟨RX0, "mayBecome", "(II)Z"⟩
abbrev cX0_begin : ByteArray := prog_2_method_3_code
def yX0_begin : MethodName := ⟨RX0, "begin", "(IIII)V"⟩
abbrev cX0_become : ByteArray := prog_2_method_4_code
def yX0_become : MethodName := ⟨RX0, "become", "(LOneBreath$Bell;)V"⟩
abbrev cX0_part : ByteArray := prog_2_method_5_code
def yX0_part : MethodName := ⟨RX0, "part", "(I)I"⟩
abbrev cX0_changePart : ByteArray := prog_2_method_6_code
def yX0_changePart : MethodName := ⟨RX0, "changePart", "(II)V"⟩
abbrev cX0_isOf : ByteArray := prog_2_method_7_code
def yX0_isOf : MethodName := ⟨RX0, "isOf", "(I)Z"⟩
abbrev cX0_ringsAt : ByteArray := prog_2_method_8_code
def yX0_ringsAt : MethodName := ⟨RX0, "ringsAt", "(I)Z"⟩
def RX1 : String := "OneBreath$Hearing"
def TX1 : u_T := fun k => match k with
  | 0 => ("OneBreath$Hearing", "valley", "LOneBreath$Valley;", true)
  | 1 => ("OneBreath$Hearing", "ways", "[[I", true)
  | 2 => ("OneBreath$Hearing", "heardBits", "[I", true)
  | _ => ("OneBreath$Hearing", "hourly", "[I", true)
def tyX1 : Nat → FieldType := fun k => match k with
  | 0 => .object "OneBreath$Valley"
  | 1 => .array (.array .int)
  | 2 => .array .int
  | _ => .array .int
abbrev wsX10 : List Cond := u_ws RX1 TX1 4
theorem nmX1 : ∀ a, a < 4 → ∀ b, b < 4 → a ≠ b → (TX1 a).2.1 ≠ (TX1 b).2.1 := by decide +kernel
theorem tyX1_ok : ∀ k, k < 4 → parseFieldDescriptor (TX1 k).2.2.1 = some (tyX1 k) := by decide +kernel
abbrev cX1_init : ByteArray := prog_3_method_1_code
def yX1_init : MethodName := ⟨RX1, "<init>", "(LOneBreath$Valley;)V"⟩
abbrev cX1_listen : ByteArray := prog_3_method_2_code
def yX1_listen : MethodName := ⟨RX1, "listen", "(II)V"⟩
abbrev cX1_heardAt : ByteArray := prog_3_method_3_code
def yX1_heardAt : MethodName := ⟨RX1, "heardAt", "(I)I"⟩
abbrev cX1_earsOfClash : ByteArray := prog_3_method_4_code
def yX1_earsOfClash : MethodName := ⟨RX1, "earsOfClash", "(IIII)I"⟩
abbrev cX1_earsOfClash_ : ByteArray := prog_3_method_5_code
def yX1_earsOfClash_ : MethodName := ⟨RX1, "earsOfClash", "(II)I"⟩
abbrev cX1_clashCount : ByteArray := prog_3_method_6_code
def yX1_clashCount : MethodName := ⟨RX1, "clashCount", "()I"⟩
abbrev cX1_clashCountOf : ByteArray := prog_3_method_7_code
def yX1_clashCountOf : MethodName := ⟨RX1, "clashCountOf", "(I)I"⟩
abbrev cX1_firstClash : ByteArray := prog_3_method_8_code
def yX1_firstClash : MethodName := ⟨RX1, "firstClash", "()I"⟩
abbrev cX1_quietestHour : ByteArray := prog_3_method_9_code
def yX1_quietestHour : MethodName := ⟨RX1, "quietestHour", "()I"⟩
abbrev cX1_clashCountAt : ByteArray := prog_3_method_10_code
def yX1_clashCountAt : MethodName := ⟨RX1, "clashCountAt", "(I)I"⟩
abbrev cX1_gap : ByteArray := prog_3_method_11_code
def yX1_gap : MethodName := ⟨RX1, "gap", "(II)I"⟩
abbrev cX1_isNear : ByteArray := prog_3_method_12_code
def yX1_isNear : MethodName := ⟨RX1, "isNear", "(III)Z"⟩
abbrev cX1_secondOf : ByteArray := prog_3_method_13_code
def yX1_secondOf : MethodName := ⟨RX1, "secondOf", "(II)I"⟩
abbrev cX1_listenTo : ByteArray := prog_3_method_14_code
def yX1_listenTo : MethodName := ⟨RX1, "listenTo", "(II)V"⟩
abbrev cX1_addHourly : ByteArray := prog_3_method_15_code
def yX1_addHourly : MethodName := ⟨RX1, "addHourly", "(III)V"⟩
def RX2 : String := "OneBreath$Law"
def TX2 : u_T := fun k => match k with
  | 0 => ("OneBreath$Law", "steps", "[I", true)
  | 1 => ("OneBreath$Law", "size", "I", false)
  | 2 => ("OneBreath$Law", "names", "[I", true)
  | _ => ("OneBreath$Law", "stack", "[I", true)
def tyX2 : Nat → FieldType := fun k => match k with
  | 0 => .array .int
  | 1 => .int
  | 2 => .array .int
  | _ => .array .int
abbrev wsX20 : List Cond := u_ws RX2 TX2 4
theorem nmX2 : ∀ a, a < 4 → ∀ b, b < 4 → a ≠ b → (TX2 a).2.1 ≠ (TX2 b).2.1 := by decide +kernel
theorem tyX2_ok : ∀ k, k < 4 → parseFieldDescriptor (TX2 k).2.2.1 = some (tyX2 k) := by decide +kernel
abbrev cX2_init : ByteArray := prog_4_method_1_code
def yX2_init : MethodName := ⟨RX2, "<init>", "()V"⟩
abbrev cX2_clear : ByteArray := prog_4_method_2_code
def yX2_clear : MethodName := ⟨RX2, "clear", "()V"⟩
abbrev cX2_become : ByteArray := prog_4_method_3_code
def yX2_become : MethodName := ⟨RX2, "become", "(LOneBreath$Law;)V"⟩
abbrev cX2_addNumber : ByteArray := prog_4_method_4_code
def yX2_addNumber : MethodName := ⟨RX2, "addNumber", "(I)V"⟩
abbrev cX2_addName : ByteArray := prog_4_method_5_code
def yX2_addName : MethodName := ⟨RX2, "addName", "(I)V"⟩
abbrev cX2_addSign : ByteArray := prog_4_method_6_code
def yX2_addSign : MethodName := ⟨RX2, "addSign", "(I)V"⟩
abbrev cX2_value : ByteArray := prog_4_method_7_code
def yX2_value : MethodName := ⟨RX2, "value", "(IIIII)I"⟩
abbrev cX2_add : ByteArray := prog_4_method_8_code
def yX2_add : MethodName := ⟨RX2, "add", "(I)V"⟩
abbrev cX2_join : ByteArray := prog_4_method_9_code
def yX2_join : MethodName := ⟨RX2, "join", "(III)I"⟩
def RX3 : String := "OneBreath$Reader"
def TX3 : u_T := fun k => match k with
  | 0 => ("OneBreath$Reader", "draft", "LOneBreath$Law;", true)
  | 1 => ("OneBreath$Reader", "bytes", "[I", true)
  | 2 => ("OneBreath$Reader", "size", "I", false)
  | 3 => ("OneBreath$Reader", "at", "I", false)
  | _ => ("OneBreath$Reader", "names", "Ljava/lang/String;", false)
def tyX3 : Nat → FieldType := fun k => match k with
  | 0 => .object "OneBreath$Law"
  | 1 => .array .int
  | 2 => .int
  | 3 => .int
  | _ => .object "java/lang/String"
abbrev wsX30 : List Cond := u_ws RX3 TX3 5
theorem nmX3 : ∀ a, a < 5 → ∀ b, b < 5 → a ≠ b → (TX3 a).2.1 ≠ (TX3 b).2.1 := by decide +kernel
theorem tyX3_ok : ∀ k, k < 5 → parseFieldDescriptor (TX3 k).2.2.1 = some (tyX3 k) := by decide +kernel
abbrev cX3_init : ByteArray := prog_5_method_1_code
def yX3_init : MethodName := ⟨RX3, "<init>", "()V"⟩
abbrev cX3_read : ByteArray := prog_5_method_2_code
def yX3_read : MethodName := ⟨RX3, "read", "([IILjava/lang/String;)I"⟩
abbrev cX3_readLevel : ByteArray := prog_5_method_3_code
def yX3_readLevel : MethodName := ⟨RX3, "readLevel", "(II)Z"⟩
abbrev cX3_readUnit : ByteArray := prog_5_method_4_code
def yX3_readUnit : MethodName := ⟨RX3, "readUnit", "(I)Z"⟩
abbrev cX3_readNot : ByteArray := prog_5_method_5_code
def yX3_readNot : MethodName := ⟨RX3, "readNot", "(I)Z"⟩
abbrev cX3_readBraced : ByteArray := prog_5_method_6_code
def yX3_readBraced : MethodName := ⟨RX3, "readBraced", "(I)Z"⟩
abbrev cX3_readNumber : ByteArray := prog_5_method_7_code
def yX3_readNumber : MethodName := ⟨RX3, "readNumber", "()V"⟩
abbrev cX3_next : ByteArray := prog_5_method_8_code
def yX3_next : MethodName := ⟨RX3, "next", "()I"⟩
abbrev cX3_isDigit : ByteArray := prog_5_method_9_code
def yX3_isDigit : MethodName := ⟨RX3, "isDigit", "(I)Z"⟩
abbrev cX3_levelOf : ByteArray := prog_5_method_10_code
def yX3_levelOf : MethodName := ⟨RX3, "levelOf", "(I)I"⟩
def RX4 : String := "OneBreath$Sheets"
def TX4 : u_T := fun k => match k with
  | 0 => ("OneBreath$Sheets", "numbers", "[[I", true)
  | 1 => ("OneBreath$Sheets", "bits", "[I", true)
  | _ => ("OneBreath$Sheets", "sizes", "[I", true)
def tyX4 : Nat → FieldType := fun k => match k with
  | 0 => .array (.array .int)
  | 1 => .array .int
  | _ => .array .int
abbrev wsX40 : List Cond := u_ws RX4 TX4 3
theorem nmX4 : ∀ a, a < 3 → ∀ b, b < 3 → a ≠ b → (TX4 a).2.1 ≠ (TX4 b).2.1 := by decide +kernel
theorem tyX4_ok : ∀ k, k < 3 → parseFieldDescriptor (TX4 k).2.2.1 = some (tyX4 k) := by decide +kernel
abbrev cX4_init : ByteArray := prog_6_method_1_code
def yX4_init : MethodName := ⟨RX4, "<init>", "()V"⟩
abbrev cX4_canBe : ByteArray := prog_6_method_2_code
def yX4_canBe : MethodName := ⟨RX4, "canBe", "(I)Z"⟩
abbrev cX4_canHave : ByteArray := prog_6_method_3_code
def yX4_canHave : MethodName := ⟨RX4, "canHave", "(I)Z"⟩
abbrev cX4_begin : ByteArray := prog_6_method_4_code
def yX4_begin : MethodName := ⟨RX4, "begin", "(III)V"⟩
abbrev cX4_isMissing : ByteArray := prog_6_method_5_code
def yX4_isMissing : MethodName := ⟨RX4, "isMissing", "(I)Z"⟩
abbrev cX4_areAlike : ByteArray := prog_6_method_6_code
def yX4_areAlike : MethodName := ⟨RX4, "areAlike", "(II)Z"⟩
abbrev cX4_sizeOf : ByteArray := prog_6_method_7_code
def yX4_sizeOf : MethodName := ⟨RX4, "sizeOf", "(I)I"⟩
abbrev cX4_number : ByteArray := prog_6_method_8_code
def yX4_number : MethodName := ⟨RX4, "number", "(II)I"⟩
abbrev cX4_stand : ByteArray := prog_6_method_9_code
def yX4_stand : MethodName := ⟨RX4, "stand", "(III)Z"⟩
abbrev cX4_write : ByteArray := prog_6_method_10_code
def yX4_write : MethodName := ⟨RX4, "write", "(III)V"⟩
abbrev cX4_carry : ByteArray := prog_6_method_11_code
def yX4_carry : MethodName := ⟨RX4, "carry", "(IIIII)V"⟩
def RX5 : String := "OneBreath$Slate"
def TX5 : u_T := fun k => match k with
  | 0 => ("OneBreath$Slate", "valley", "LOneBreath$Valley;", true)
  | 1 => ("OneBreath$Slate", "hearing", "LOneBreath$Hearing;", true)
  | 2 => ("OneBreath$Slate", "order", "[I", true)
  | 3 => ("OneBreath$Slate", "size", "I", false)
  | _ => ("OneBreath$Slate", "offsets", "[I", true)
def tyX5 : Nat → FieldType := fun k => match k with
  | 0 => .object "OneBreath$Valley"
  | 1 => .object "OneBreath$Hearing"
  | 2 => .array .int
  | 3 => .int
  | _ => .array .int
abbrev wsX50 : List Cond := u_ws RX5 TX5 5
theorem nmX5 : ∀ a, a < 5 → ∀ b, b < 5 → a ≠ b → (TX5 a).2.1 ≠ (TX5 b).2.1 := by decide +kernel
theorem tyX5_ok : ∀ k, k < 5 → parseFieldDescriptor (TX5 k).2.2.1 = some (tyX5 k) := by decide +kernel
abbrev cX5_init : ByteArray := prog_7_method_1_code
def yX5_init : MethodName := ⟨RX5, "<init>", "(LOneBreath$Valley;LOneBreath$Hearing;)V"⟩
abbrev cX5_offsetOf : ByteArray := prog_7_method_2_code
def yX5_offsetOf : MethodName := ⟨RX5, "offsetOf", "(I)I"⟩
abbrev cX5_lineUp : ByteArray := prog_7_method_3_code
def yX5_lineUp : MethodName := ⟨RX5, "lineUp", "(I)V"⟩
abbrev cX5_goEarly : ByteArray := prog_7_method_4_code
def yX5_goEarly : MethodName := ⟨RX5, "goEarly", "(I)V"⟩
abbrev cX5_goLate : ByteArray := prog_7_method_5_code
def yX5_goLate : MethodName := ⟨RX5, "goLate", "(I)V"⟩
abbrev cX5_latestBehind : ByteArray := prog_7_method_6_code
def yX5_latestBehind : MethodName := ⟨RX5, "latestBehind", "()I"⟩
abbrev cX5_takeOver : ByteArray := prog_7_method_7_code
def yX5_takeOver : MethodName := ⟨RX5, "takeOver", "()I"⟩
abbrev cX5_insert : ByteArray := prog_7_method_8_code
def yX5_insert : MethodName := ⟨RX5, "insert", "(I)V"⟩
def RX6 : String := "OneBreath$Trials"
def TX6 : u_T := fun k => match k with
  | 0 => ("OneBreath$Trials", "valley", "LOneBreath$Valley;", true)
  | 1 => ("OneBreath$Trials", "hearing", "LOneBreath$Hearing;", true)
  | 2 => ("OneBreath$Trials", "enemies", "[I", true)
  | 3 => ("OneBreath$Trials", "badEars", "[I", true)
  | _ => ("OneBreath$Trials", "badWinds", "[I", true)
def tyX6 : Nat → FieldType := fun k => match k with
  | 0 => .object "OneBreath$Valley"
  | 1 => .object "OneBreath$Hearing"
  | 2 => .array .int
  | 3 => .array .int
  | _ => .array .int
abbrev wsX60 : List Cond := u_ws RX6 TX6 5
theorem nmX6 : ∀ a, a < 5 → ∀ b, b < 5 → a ≠ b → (TX6 a).2.1 ≠ (TX6 b).2.1 := by decide +kernel
theorem tyX6_ok : ∀ k, k < 5 → parseFieldDescriptor (TX6 k).2.2.1 = some (tyX6 k) := by decide +kernel
abbrev cX6_init : ByteArray := prog_8_method_1_code
def yX6_init : MethodName := ⟨RX6, "<init>", "(LOneBreath$Valley;LOneBreath$Hearing;)V"⟩
abbrev cX6_cheapestSilence : ByteArray := prog_8_method_2_code
def yX6_cheapestSilence : MethodName := ⟨RX6, "cheapestSilence", "()I"⟩
abbrev cX6_tryShifts : ByteArray := prog_8_method_3_code
def yX6_tryShifts : MethodName := ⟨RX6, "tryShifts", "(II)V"⟩
abbrev cX6_windsAgainst : ByteArray := prog_8_method_4_code
def yX6_windsAgainst : MethodName := ⟨RX6, "windsAgainst", "(I)I"⟩
abbrev cX6_bestShift : ByteArray := prog_8_method_5_code
def yX6_bestShift : MethodName := ⟨RX6, "bestShift", "()I"⟩
abbrev cX6_clashingSpots : ByteArray := prog_8_method_6_code
def yX6_clashingSpots : MethodName := ⟨RX6, "clashingSpots", "(III)I"⟩
abbrev cX6_loudestAt : ByteArray := prog_8_method_7_code
def yX6_loudestAt : MethodName := ⟨RX6, "loudestAt", "(I)I"⟩
abbrev cX6_isSilenced : ByteArray := prog_8_method_8_code
def yX6_isSilenced : MethodName := ⟨RX6, "isSilenced", "(I)Z"⟩
abbrev cX6_markShifts : ByteArray := prog_8_method_9_code
def yX6_markShifts : MethodName := ⟨RX6, "markShifts", "(III)V"⟩
abbrev cX6_clashesFrom : ByteArray := prog_8_method_10_code
def yX6_clashesFrom : MethodName := ⟨RX6, "clashesFrom", "(II)Z"⟩
abbrev cX6_isHeardAtBad : ByteArray := prog_8_method_11_code
def yX6_isHeardAtBad : MethodName := ⟨RX6, "isHeardAtBad", "(III)Z"⟩
def RX7 : String := "OneBreath$Valley"
def TX7 : u_T := fun k => match k with
  | 0 => ("OneBreath$Valley", "hillsBelow", "[I", true)
  | 1 => ("OneBreath$Valley", "bells", "[LOneBreath$Bell;", true)
  | 2 => ("OneBreath$Valley", "bellCount", "I", false)
  | 3 => ("OneBreath$Valley", "earSpots", "[I", true)
  | 4 => ("OneBreath$Valley", "earCount", "I", false)
  | 5 => ("OneBreath$Valley", "wind", "I", false)
  | 6 => ("OneBreath$Valley", "breath", "I", false)
  | 7 => ("OneBreath$Valley", "bound", "I", false)
  | 8 => ("OneBreath$Valley", "tape", "[I", true)
  | 9 => ("OneBreath$Valley", "tapeSize", "I", false)
  | 10 => ("OneBreath$Valley", "carries", "LOneBreath$Law;", true)
  | 11 => ("OneBreath$Valley", "grazes", "LOneBreath$Law;", true)
  | 12 => ("OneBreath$Valley", "z", "I", false)
  | 13 => ("OneBreath$Valley", "waiting", "[I", true)
  | 14 => ("OneBreath$Valley", "waitCount", "I", false)
  | _ => ("OneBreath$Valley", "spotsBefore", "[I", true)
def tyX7 : Nat → FieldType := fun k => match k with
  | 0 => .array .int
  | 1 => .array (.object "OneBreath$Bell")
  | 2 => .int
  | 3 => .array .int
  | 4 => .int
  | 5 => .int
  | 6 => .int
  | 7 => .int
  | 8 => .array .int
  | 9 => .int
  | 10 => .object "OneBreath$Law"
  | 11 => .object "OneBreath$Law"
  | 12 => .int
  | 13 => .array .int
  | 14 => .int
  | _ => .array .int
abbrev wsX70 : List Cond := u_ws RX7 TX7 16
theorem nmX7 : ∀ a, a < 16 → ∀ b, b < 16 → a ≠ b → (TX7 a).2.1 ≠ (TX7 b).2.1 := by decide +kernel
theorem tyX7_ok : ∀ k, k < 16 → parseFieldDescriptor (TX7 k).2.2.1 = some (tyX7 k) := by decide +kernel
abbrev cX7_init : ByteArray := prog_9_method_1_code
def yX7_init : MethodName := ⟨RX7, "<init>", "()V"⟩
abbrev cX7_become : ByteArray := prog_9_method_2_code
def yX7_become : MethodName := ⟨RX7, "become", "(LOneBreath$Valley;)V"⟩
abbrev cX7_raise : ByteArray := prog_9_method_3_code
def yX7_raise : MethodName := ⟨RX7, "raise", "(II)I"⟩
abbrev cX7_hidBetween : ByteArray := prog_9_method_4_code
def yX7_hidBetween : MethodName := ⟨RX7, "hidBetween", "(II)I"⟩
abbrev cX7_strength : ByteArray := prog_9_method_5_code
def yX7_strength : MethodName := ⟨RX7, "strength", "(IIIII)I"⟩
abbrev cX7_addEar : ByteArray := prog_9_method_6_code
def yX7_addEar : MethodName := ⟨RX7, "addEar", "(I)V"⟩
abbrev cX7_addByte : ByteArray := prog_9_method_7_code
def yX7_addByte : MethodName := ⟨RX7, "addByte", "(I)V"⟩
abbrev cX7_silentCount : ByteArray := prog_9_method_8_code
def yX7_silentCount : MethodName := ⟨RX7, "silentCount", "()I"⟩
abbrev cX7_ranksOf : ByteArray := prog_9_method_9_code
def yX7_ranksOf : MethodName := ⟨RX7, "ranksOf", "(I)I"⟩
abbrev cX7_spotsTogether : ByteArray := prog_9_method_10_code
def yX7_spotsTogether : MethodName := ⟨RX7, "spotsTogether", "()I"⟩
abbrev cX7_grazedSpot : ByteArray := prog_9_method_11_code
def yX7_grazedSpot : MethodName := ⟨RX7, "grazedSpot", "(III)I"⟩
abbrev cX7_goDays : ByteArray := prog_9_method_12_code
def yX7_goDays : MethodName := ⟨RX7, "goDays", "(I)V"⟩
abbrev cX7_spotAhead : ByteArray := prog_9_method_13_code
def yX7_spotAhead : MethodName := ⟨RX7, "spotAhead", "(II)I"⟩
abbrev cX7_draw : ByteArray := prog_9_method_14_code
def yX7_draw : MethodName := ⟨RX7, "draw", "()I"⟩
def RX8 : String := "OneBreath$Voices"
def TX8 : u_T := fun k => match k with
  | 0 => ("OneBreath$Voices", "bodies", "[I", true)
  | 1 => ("OneBreath$Voices", "begun", "I", false)
  | 2 => ("OneBreath$Voices", "kind", "I", false)
  | 3 => ("OneBreath$Voices", "n", "I", false)
  | _ => ("OneBreath$Voices", "m", "I", false)
def tyX8 : Nat → FieldType := fun k => match k with
  | 0 => .array .int
  | 1 => .int
  | 2 => .int
  | 3 => .int
  | _ => .int
abbrev wsX80 : List Cond := u_ws RX8 TX8 5
theorem nmX8 : ∀ a, a < 5 → ∀ b, b < 5 → a ≠ b → (TX8 a).2.1 ≠ (TX8 b).2.1 := by decide +kernel
theorem tyX8_ok : ∀ k, k < 5 → parseFieldDescriptor (TX8 k).2.2.1 = some (tyX8 k) := by decide +kernel
abbrev cX8_init : ByteArray := prog_10_method_1_code
def yX8_init : MethodName := ⟨RX8, "<init>", "()V"⟩
abbrev cX8_speak : ByteArray := prog_10_method_2_code
def yX8_speak : MethodName := ⟨RX8, "speak", "(LOneBreath$Bell;III)I"⟩
abbrev cX8_own : ByteArray := prog_10_method_3_code
def yX8_own : MethodName := ⟨RX8, "own", "(III)I"⟩
abbrev cX8_above : ByteArray := prog_10_method_4_code
def yX8_above : MethodName := ⟨RX8, "above", "(IIII)I"⟩
abbrev cX8_bodyOf : ByteArray := prog_10_method_5_code
def yX8_bodyOf : MethodName := ⟨RX8, "bodyOf", "(II)I"⟩
abbrev cX8_run : ByteArray := prog_10_method_6_code
def yX8_run : MethodName := ⟨RX8, "run", "(III)I"⟩
def RX9 : String := "OneBreath"
def TX9 : u_T := fun k => match k with
  | 0 => ("OneBreath", "now", "LOneBreath$Valley;", true)
  | 1 => ("OneBreath", "kept", "LOneBreath$Valley;", true)
  | 2 => ("OneBreath", "reader", "LOneBreath$Reader;", true)
  | 3 => ("OneBreath", "hearing", "LOneBreath$Hearing;", true)
  | 4 => ("OneBreath", "slates", "LOneBreath$Slate;", true)
  | 5 => ("OneBreath", "trials", "LOneBreath$Trials;", true)
  | 6 => ("OneBreath", "voices", "LOneBreath$Voices;", true)
  | 7 => ("OneBreath", "sheets", "LOneBreath$Sheets;", true)
  | 8 => ("OneBreath", "errors", "[I", true)
  | _ => ("OneBreath", "images", "I", false)
def tyX9 : Nat → FieldType := fun k => match k with
  | 0 => .object "OneBreath$Valley"
  | 1 => .object "OneBreath$Valley"
  | 2 => .object "OneBreath$Reader"
  | 3 => .object "OneBreath$Hearing"
  | 4 => .object "OneBreath$Slate"
  | 5 => .object "OneBreath$Trials"
  | 6 => .object "OneBreath$Voices"
  | 7 => .object "OneBreath$Sheets"
  | 8 => .array .int
  | _ => .int
abbrev wsX90 : List Cond := u_ws RX9 TX9 10
theorem nmX9 : ∀ a, a < 10 → ∀ b, b < 10 → a ≠ b → (TX9 a).2.1 ≠ (TX9 b).2.1 := by decide +kernel
theorem tyX9_ok : ∀ k, k < 10 → parseFieldDescriptor (TX9 k).2.2.1 = some (tyX9 k) := by decide +kernel
abbrev cX9_init : ByteArray := prog_1_method_1_code
def yX9_init : MethodName := ⟨RX9, "<init>", "()V"⟩
abbrev cX9_hill : ByteArray := prog_1_method_2_code
def yX9_hill : MethodName := ⟨RX9, "hill", "(II)I"⟩
abbrev cX9_set : ByteArray := prog_1_method_3_code
def yX9_set : MethodName := ⟨RX9, "set", "(II)I"⟩
abbrev cX9_bell : ByteArray := prog_1_method_4_code
def yX9_bell : MethodName := ⟨RX9, "bell", "(III)I"⟩
abbrev cX9_ofBell : ByteArray := prog_1_method_5_code
def yX9_ofBell : MethodName := ⟨RX9, "ofBell", "(II)I"⟩
abbrev cX9_change : ByteArray := prog_1_method_6_code
def yX9_change : MethodName := ⟨RX9, "change", "(III)I"⟩
abbrev cX9_as : ByteArray := prog_1_method_7_code
def yX9_as : MethodName := ⟨RX9, "as", "(II)I"⟩
abbrev cX9_strikes : ByteArray := prog_1_method_8_code
def yX9_strikes : MethodName := ⟨RX9, "strikes", "(II)I"⟩
abbrev cX9_ear : ByteArray := prog_1_method_9_code
def yX9_ear : MethodName := ⟨RX9, "ear", "(I)I"⟩
abbrev cX9_ears : ByteArray := prog_1_method_10_code
def yX9_ears : MethodName := ⟨RX9, "ears", "(I)I"⟩
abbrev cX9_way : ByteArray := prog_1_method_11_code
def yX9_way : MethodName := ⟨RX9, "way", "(III)I"⟩
abbrev cX9_heard : ByteArray := prog_1_method_12_code
def yX9_heard : MethodName := ⟨RX9, "heard", "(II)I"⟩
abbrev cX9_feed : ByteArray := prog_1_method_13_code
def yX9_feed : MethodName := ⟨RX9, "feed", "(JI)I"⟩
abbrev cX9_text : ByteArray := prog_1_method_14_code
def yX9_text : MethodName := ⟨RX9, "text", "(I)I"⟩
abbrev cX9_law : ByteArray := prog_1_method_15_code
def yX9_law : MethodName := ⟨RX9, "law", "(IIIII)I"⟩
abbrev cX9_clashes : ByteArray := prog_1_method_16_code
def yX9_clashes : MethodName := ⟨RX9, "clashes", "(II)I"⟩
abbrev cX9_clash : ByteArray := prog_1_method_17_code
def yX9_clash : MethodName := ⟨RX9, "clash", "(II)I"⟩
abbrev cX9_quiet : ByteArray := prog_1_method_18_code
def yX9_quiet : MethodName := ⟨RX9, "quiet", "(I)I"⟩
abbrev cX9_apart : ByteArray := prog_1_method_19_code
def yX9_apart : MethodName := ⟨RX9, "apart", "(III)I"⟩
abbrev cX9_slate : ByteArray := prog_1_method_20_code
def yX9_slate : MethodName := ⟨RX9, "slate", "(III)I"⟩
abbrev cX9_least : ByteArray := prog_1_method_21_code
def yX9_least : MethodName := ⟨RX9, "least", "(I)I"⟩
abbrev cX9_hang : ByteArray := prog_1_method_22_code
def yX9_hang : MethodName := ⟨RX9, "hang", "(I)I"⟩
abbrev cX9_silence : ByteArray := prog_1_method_23_code
def yX9_silence : MethodName := ⟨RX9, "silence", "(II)I"⟩
abbrev cX9_winds : ByteArray := prog_1_method_24_code
def yX9_winds : MethodName := ⟨RX9, "winds", "(I)I"⟩
abbrev cX9_holds : ByteArray := prog_1_method_25_code
def yX9_holds : MethodName := ⟨RX9, "holds", "(III)I"⟩
abbrev cX9_chance : ByteArray := prog_1_method_26_code
def yX9_chance : MethodName := ⟨RX9, "chance", "(III)I"⟩
abbrev cX9_hangs : ByteArray := prog_1_method_27_code
def yX9_hangs : MethodName := ⟨RX9, "hangs", "(II)I"⟩
abbrev cX9_place : ByteArray := prog_1_method_28_code
def yX9_place : MethodName := ⟨RX9, "place", "(II)I"⟩
abbrev cX9_days : ByteArray := prog_1_method_29_code
def yX9_days : MethodName := ⟨RX9, "days", "(I)I"⟩
abbrev cX9_then : ByteArray := prog_1_method_30_code
def yX9_then : MethodName := ⟨RX9, "then", "(II)I"⟩
abbrev cX9_seed : ByteArray := prog_1_method_31_code
def yX9_seed : MethodName := ⟨RX9, "seed", "(I)I"⟩
abbrev cX9_voice : ByteArray := prog_1_method_32_code
def yX9_voice : MethodName := ⟨RX9, "voice", "(III)I"⟩
abbrev cX9_trace : ByteArray := prog_1_method_33_code
def yX9_trace : MethodName := ⟨RX9, "trace", "(I)I"⟩
abbrev cX9_sheet : ByteArray := prog_1_method_34_code
def yX9_sheet : MethodName := ⟨RX9, "sheet", "(III)I"⟩
abbrev cX9_put : ByteArray := prog_1_method_35_code
def yX9_put : MethodName := ⟨RX9, "put", "(III)I"⟩
abbrev cX9_move : ByteArray := prog_1_method_36_code
def yX9_move : MethodName := ⟨RX9, "move", "(IIIII)I"⟩
abbrev cX9_image : ByteArray := prog_1_method_37_code
def yX9_image : MethodName := ⟨RX9, "image", "()I"⟩
abbrev cX9_restore : ByteArray := prog_1_method_38_code
def yX9_restore : MethodName := ⟨RX9, "restore", "()I"⟩
abbrev cX9_tell : ByteArray := prog_1_method_39_code
def yX9_tell : MethodName := ⟨RX9, "tell", "(I)I"⟩
abbrev cX9_check : ByteArray := prog_1_method_40_code
def yX9_check : MethodName := ⟨RX9, "check", "(I)I"⟩
abbrev cX9_count : ByteArray := prog_1_method_41_code
def yX9_count : MethodName := ⟨RX9, "count", "(I)I"⟩
abbrev cX9_told : ByteArray := prog_1_method_42_code
def yX9_told : MethodName := ⟨RX9, "told", "(I)I"⟩
abbrev cX9_error : ByteArray := prog_1_method_43_code
def yX9_error : MethodName := ⟨RX9, "error", "(I)I"⟩
abbrev cX9_isBell : ByteArray := prog_1_method_44_code
def yX9_isBell : MethodName := ⟨RX9, "isBell", "(I)Z"⟩
abbrev cX9_isEar : ByteArray := prog_1_method_45_code
def yX9_isEar : MethodName := ⟨RX9, "isEar", "(I)Z"⟩
abbrev cX9_isSpot : ByteArray := prog_1_method_46_code
def yX9_isSpot : MethodName := ⟨RX9, "isSpot", "(I)Z"⟩
abbrev cX9_isHour : ByteArray := prog_1_method_47_code
def yX9_isHour : MethodName := ⟨RX9, "isHour", "(I)Z"⟩
abbrev cX9_isUse : ByteArray := prog_1_method_48_code
def yX9_isUse : MethodName := ⟨RX9, "isUse", "(I)Z"⟩
abbrev cX9_isEither : ByteArray := prog_1_method_49_code
def yX9_isEither : MethodName := ⟨RX9, "isEither", "(I)Z"⟩
abbrev cX9_canBeSet : ByteArray := prog_1_method_50_code
def yX9_canBeSet : MethodName := ⟨RX9, "canBeSet", "(II)Z"⟩
abbrev cX9_heldWithin : ByteArray := prog_1_method_51_code
def yX9_heldWithin : MethodName := ⟨RX9, "heldWithin", "(III)I"⟩
abbrev cX9_wayBetween : ByteArray := prog_1_method_52_code
def yX9_wayBetween : MethodName := ⟨RX9, "wayBetween", "(III)I"⟩
abbrev cX9_commonDivisor : ByteArray := prog_1_method_53_code
def yX9_commonDivisor : MethodName := ⟨RX9, "commonDivisor", "(II)I"⟩
abbrev cX9_clashesAsTold : ByteArray := prog_1_method_54_code
def yX9_clashesAsTold : MethodName := ⟨RX9, "clashesAsTold", "(I)Z"⟩
abbrev cX9_readTape : ByteArray := prog_1_method_55_code
def yX9_readTape : MethodName := ⟨RX9, "readTape", "(I)I"⟩
abbrev cX9_beginText : ByteArray := prog_1_method_56_code
def yX9_beginText : MethodName := ⟨RX9, "beginText", "(ILjava/lang/String;)V"⟩
def RX10 : String := "OneBreathModel"
def TX10 : u_T := fun k => match k with
  | 0 => ("OneBreathModel", "d", "[I", true)
  | 1 => ("OneBreathModel", "e", "[I", true)
  | 2 => ("OneBreathModel", "kept", "[I", true)
  | 3 => ("OneBreathModel", "images", "I", false)
  | 4 => ("OneBreathModel", "found", "[I", true)
  | 5 => ("OneBreathModel", "base", "I", false)
  | 6 => ("OneBreathModel", "at", "I", false)
  | 7 => ("OneBreathModel", "size", "I", false)
  | 8 => ("OneBreathModel", "fault", "I", false)
  | 9 => ("OneBreathModel", "opened", "I", false)
  | 10 => ("OneBreathModel", "isGraze", "Z", false)
  | 11 => ("OneBreathModel", "names", "[I", true)
  | 12 => ("OneBreathModel", "ways", "[I", true)
  | 13 => ("OneBreathModel", "isThere", "[Z", true)
  | 14 => ("OneBreathModel", "order", "[I", true)
  | 15 => ("OneBreathModel", "ordered", "I", false)
  | 16 => ("OneBreathModel", "apartBy", "[I", true)
  | 17 => ("OneBreathModel", "low", "[I", true)
  | 18 => ("OneBreathModel", "high", "[I", true)
  | 19 => ("OneBreathModel", "against", "[I", true)
  | 20 => ("OneBreathModel", "hits", "[I", true)
  | 21 => ("OneBreathModel", "traced", "[I", true)
  | 22 => ("OneBreathModel", "traceMany", "I", false)
  | 23 => ("OneBreathModel", "who", "I", false)
  | 24 => ("OneBreathModel", "bitsOf", "[I", true)
  | 25 => ("OneBreathModel", "sizeOf", "[I", true)
  | 26 => ("OneBreathModel", "number", "[I", true)
  | _ => ("OneBreathModel", "lifted", "[I", true)
def tyX10 : Nat → FieldType := fun k => match k with
  | 0 => .array .int
  | 1 => .array .int
  | 2 => .array .int
  | 3 => .int
  | 4 => .array .int
  | 5 => .int
  | 6 => .int
  | 7 => .int
  | 8 => .int
  | 9 => .int
  | 10 => .boolean
  | 11 => .array .int
  | 12 => .array .int
  | 13 => .array .boolean
  | 14 => .array .int
  | 15 => .int
  | 16 => .array .int
  | 17 => .array .int
  | 18 => .array .int
  | 19 => .array .int
  | 20 => .array .int
  | 21 => .array .int
  | 22 => .int
  | 23 => .int
  | 24 => .array .int
  | 25 => .array .int
  | 26 => .array .int
  | _ => .array .int
abbrev wsX100 : List Cond := u_ws RX10 TX10 28
theorem nmX10 : ∀ a, a < 28 → ∀ b, b < 28 → a ≠ b → (TX10 a).2.1 ≠ (TX10 b).2.1 := by decide +kernel
theorem tyX10_ok : ∀ k, k < 28 → parseFieldDescriptor (TX10 k).2.2.1 = some (tyX10 k) := by decide +kernel
abbrev cX10_init : ByteArray := prog_12_method_1_code
def yX10_init : MethodName := ⟨RX10, "<init>", "()V"⟩
abbrev cX10_finds : ByteArray := prog_12_method_3_code
def yX10_finds : MethodName := ⟨RX10, "finds", "(I)I"⟩
abbrev cX10_in : ByteArray := prog_12_method_4_code
def yX10_in : MethodName := ⟨RX10, "in", "(JJJ)Z"⟩
abbrev cX10_held : ByteArray := prog_12_method_5_code
def yX10_held : MethodName := ⟨RX10, "held", "(III)I"⟩
abbrev cX10_size : ByteArray := prog_12_method_6_code
def yX10_size : MethodName := ⟨RX10, "size", "(I)I"⟩
abbrev cX10_copies : ByteArray := prog_12_method_7_code
def yX10_copies : MethodName := ⟨RX10, "copies", "([I[I)V"⟩
abbrev cX10_isBell : ByteArray := prog_12_method_8_code
def yX10_isBell : MethodName := ⟨RX10, "isBell", "(I)Z"⟩
abbrev cX10_isEar : ByteArray := prog_12_method_9_code
def yX10_isEar : MethodName := ⟨RX10, "isEar", "(I)Z"⟩
abbrev cX10_isHour : ByteArray := prog_12_method_10_code
def yX10_isHour : MethodName := ⟨RX10, "isHour", "(I)Z"⟩
abbrev cX10_of : ByteArray := prog_12_method_11_code
def yX10_of : MethodName := ⟨RX10, "of", "(II)I"⟩
abbrev cX10_becomes : ByteArray := prog_12_method_12_code
def yX10_becomes : MethodName := ⟨RX10, "becomes", "(III)V"⟩
abbrev cX10_here : ByteArray := prog_12_method_13_code
def yX10_here : MethodName := ⟨RX10, "here", "()I"⟩
abbrev cX10_wrong : ByteArray := prog_12_method_14_code
def yX10_wrong : MethodName := ⟨RX10, "wrong", "()I"⟩
abbrev cX10_takes : ByteArray := prog_12_method_15_code
def yX10_takes : MethodName := ⟨RX10, "takes", "(I)Z"⟩
abbrev cX10_nameOf : ByteArray := prog_12_method_16_code
def yX10_nameOf : MethodName := ⟨RX10, "nameOf", "(I)I"⟩
abbrev cX10_either : ByteArray := prog_12_method_17_code
def yX10_either : MethodName := ⟨RX10, "either", "()I"⟩
abbrev cX10_both : ByteArray := prog_12_method_18_code
def yX10_both : MethodName := ⟨RX10, "both", "()I"⟩
abbrev cX10_compared : ByteArray := prog_12_method_19_code
def yX10_compared : MethodName := ⟨RX10, "compared", "()I"⟩
abbrev cX10_sum : ByteArray := prog_12_method_20_code
def yX10_sum : MethodName := ⟨RX10, "sum", "()I"⟩
abbrev cX10_product : ByteArray := prog_12_method_21_code
def yX10_product : MethodName := ⟨RX10, "product", "()I"⟩
abbrev cX10_unit : ByteArray := prog_12_method_22_code
def yX10_unit : MethodName := ⟨RX10, "unit", "()I"⟩
abbrev cX10_worked : ByteArray := prog_12_method_23_code
def yX10_worked : MethodName := ⟨RX10, "worked", "(III)I"⟩
abbrev cX10_feed : ByteArray := prog_12_method_24_code
def yX10_feed : MethodName := ⟨RX10, "feed", "(JI)I"⟩
abbrev cX10_text : ByteArray := prog_12_method_25_code
def yX10_text : MethodName := ⟨RX10, "text", "(I)I"⟩
abbrev cX10_carries : ByteArray := prog_12_method_26_code
def yX10_carries : MethodName := ⟨RX10, "carries", "(IIIII)I"⟩
abbrev cX10_grazes : ByteArray := prog_12_method_27_code
def yX10_grazes : MethodName := ⟨RX10, "grazes", "(III)I"⟩
abbrev cX10_law : ByteArray := prog_12_method_28_code
def yX10_law : MethodName := ⟨RX10, "law", "(IIIII)I"⟩
abbrev cX10_hill : ByteArray := prog_12_method_29_code
def yX10_hill : MethodName := ⟨RX10, "hill", "(II)I"⟩
abbrev cX10_set : ByteArray := prog_12_method_30_code
def yX10_set : MethodName := ⟨RX10, "set", "(II)I"⟩
abbrev cX10_lays : ByteArray := prog_12_method_31_code
def yX10_lays : MethodName := ⟨RX10, "lays", "(IIIII)V"⟩
abbrev cX10_bell : ByteArray := prog_12_method_32_code
def yX10_bell : MethodName := ⟨RX10, "bell", "(III)I"⟩
abbrev cX10_ofBell : ByteArray := prog_12_method_33_code
def yX10_ofBell : MethodName := ⟨RX10, "ofBell", "(II)I"⟩
abbrev cX10_change : ByteArray := prog_12_method_34_code
def yX10_change : MethodName := ⟨RX10, "change", "(III)I"⟩
abbrev cX10_isOf : ByteArray := prog_12_method_35_code
def yX10_isOf : MethodName := ⟨RX10, "isOf", "(II)Z"⟩
abbrev cX10_as : ByteArray := prog_12_method_36_code
def yX10_as : MethodName := ⟨RX10, "as", "(II)I"⟩
abbrev cX10_isStruck : ByteArray := prog_12_method_37_code
def yX10_isStruck : MethodName := ⟨RX10, "isStruck", "(II)Z"⟩
abbrev cX10_strikes : ByteArray := prog_12_method_38_code
def yX10_strikes : MethodName := ⟨RX10, "strikes", "(II)I"⟩
abbrev cX10_ear : ByteArray := prog_12_method_39_code
def yX10_ear : MethodName := ⟨RX10, "ear", "(I)I"⟩
abbrev cX10_ears : ByteArray := prog_12_method_40_code
def yX10_ears : MethodName := ⟨RX10, "ears", "(I)I"⟩
abbrev cX10_farOf : ByteArray := prog_12_method_41_code
def yX10_farOf : MethodName := ⟨RX10, "farOf", "(II)I"⟩
abbrev cX10_hidOf : ByteArray := prog_12_method_42_code
def yX10_hidOf : MethodName := ⟨RX10, "hidOf", "(II)I"⟩
abbrev cX10_windOf : ByteArray := prog_12_method_43_code
def yX10_windOf : MethodName := ⟨RX10, "windOf", "(II)I"⟩
abbrev cX10_wayOf : ByteArray := prog_12_method_44_code
def yX10_wayOf : MethodName := ⟨RX10, "wayOf", "(II)I"⟩
abbrev cX10_strengthOf : ByteArray := prog_12_method_45_code
def yX10_strengthOf : MethodName := ⟨RX10, "strengthOf", "(II)I"⟩
abbrev cX10_way : ByteArray := prog_12_method_46_code
def yX10_way : MethodName := ⟨RX10, "way", "(III)I"⟩
abbrev cX10_isHeard : ByteArray := prog_12_method_47_code
def yX10_isHeard : MethodName := ⟨RX10, "isHeard", "(III)Z"⟩
abbrev cX10_heard : ByteArray := prog_12_method_48_code
def yX10_heard : MethodName := ⟨RX10, "heard", "(II)I"⟩
abbrev cX10_hears : ByteArray := prog_12_method_49_code
def yX10_hears : MethodName := ⟨RX10, "hears", "(II)V"⟩
abbrev cX10_hearsAll : ByteArray := prog_12_method_50_code
def yX10_hearsAll : MethodName := ⟨RX10, "hearsAll", "(I)V"⟩
abbrev cX10_isClash : ByteArray := prog_12_method_51_code
def yX10_isClash : MethodName := ⟨RX10, "isClash", "(IIII)Z"⟩
abbrev cX10_clashesOf : ByteArray := prog_12_method_52_code
def yX10_clashesOf : MethodName := ⟨RX10, "clashesOf", "(III)I"⟩
abbrev cX10_clashesOfOne : ByteArray := prog_12_method_53_code
def yX10_clashesOfOne : MethodName := ⟨RX10, "clashesOfOne", "(II)I"⟩
abbrev cX10_clashesAt : ByteArray := prog_12_method_54_code
def yX10_clashesAt : MethodName := ⟨RX10, "clashesAt", "(I)I"⟩
abbrev cX10_firstClash : ByteArray := prog_12_method_55_code
def yX10_firstClash : MethodName := ⟨RX10, "firstClash", "()I"⟩
abbrev cX10_clashes : ByteArray := prog_12_method_56_code
def yX10_clashes : MethodName := ⟨RX10, "clashes", "(II)I"⟩
abbrev cX10_clash : ByteArray := prog_12_method_57_code
def yX10_clash : MethodName := ⟨RX10, "clash", "(II)I"⟩
abbrev cX10_quiet : ByteArray := prog_12_method_58_code
def yX10_quiet : MethodName := ⟨RX10, "quiet", "(I)I"⟩
abbrev cX10_apartOf : ByteArray := prog_12_method_59_code
def yX10_apartOf : MethodName := ⟨RX10, "apartOf", "(II)I"⟩
abbrev cX10_apart : ByteArray := prog_12_method_60_code
def yX10_apart : MethodName := ⟨RX10, "apart", "(III)I"⟩
abbrev cX10_isAhead : ByteArray := prog_12_method_61_code
def yX10_isAhead : MethodName := ⟨RX10, "isAhead", "(II)Z"⟩
abbrev cX10_findOrder : ByteArray := prog_12_method_62_code
def yX10_findOrder : MethodName := ⟨RX10, "findOrder", "(I)V"⟩
abbrev cX10_findSlates : ByteArray := prog_12_method_63_code
def yX10_findSlates : MethodName := ⟨RX10, "findSlates", "(I)Z"⟩
abbrev cX10_slate : ByteArray := prog_12_method_64_code
def yX10_slate : MethodName := ⟨RX10, "slate", "(III)I"⟩
abbrev cX10_least : ByteArray := prog_12_method_65_code
def yX10_least : MethodName := ⟨RX10, "least", "(I)I"⟩
abbrev cX10_hang : ByteArray := prog_12_method_66_code
def yX10_hang : MethodName := ⟨RX10, "hang", "(I)I"⟩
abbrev cX10_isStill : ByteArray := prog_12_method_67_code
def yX10_isStill : MethodName := ⟨RX10, "isStill", "(I)Z"⟩
abbrev cX10_ranks : ByteArray := prog_12_method_68_code
def yX10_ranks : MethodName := ⟨RX10, "ranks", "(I)I"⟩
abbrev cX10_silence : ByteArray := prog_12_method_69_code
def yX10_silence : MethodName := ⟨RX10, "silence", "(II)I"⟩
abbrev cX10_winds : ByteArray := prog_12_method_70_code
def yX10_winds : MethodName := ⟨RX10, "winds", "(I)I"⟩
abbrev cX10_holds : ByteArray := prog_12_method_71_code
def yX10_holds : MethodName := ⟨RX10, "holds", "(III)I"⟩
abbrev cX10_common : ByteArray := prog_12_method_72_code
def yX10_common : MethodName := ⟨RX10, "common", "(JJ)J"⟩
abbrev cX10_chance : ByteArray := prog_12_method_73_code
def yX10_chance : MethodName := ⟨RX10, "chance", "(III)I"⟩
abbrev cX10_loudAt : ByteArray := prog_12_method_74_code
def yX10_loudAt : MethodName := ⟨RX10, "loudAt", "(II)I"⟩
abbrev cX10_hangs : ByteArray := prog_12_method_75_code
def yX10_hangs : MethodName := ⟨RX10, "hangs", "(II)I"⟩
abbrev cX10_place : ByteArray := prog_12_method_76_code
def yX10_place : MethodName := ⟨RX10, "place", "(II)I"⟩
abbrev cX10_goesBy : ByteArray := prog_12_method_77_code
def yX10_goesBy : MethodName := ⟨RX10, "goesBy", "()V"⟩
abbrev cX10_days : ByteArray := prog_12_method_78_code
def yX10_days : MethodName := ⟨RX10, "days", "(I)I"⟩
abbrev cX10_then : ByteArray := prog_12_method_79_code
def yX10_then : MethodName := ⟨RX10, "then", "(II)I"⟩
abbrev cX10_seed : ByteArray := prog_12_method_80_code
def yX10_seed : MethodName := ⟨RX10, "seed", "(I)I"⟩
abbrev cX10_ran : ByteArray := prog_12_method_81_code
def yX10_ran : MethodName := ⟨RX10, "ran", "(I)V"⟩
abbrev cX10_above : ByteArray := prog_12_method_82_code
def yX10_above : MethodName := ⟨RX10, "above", "(I)I"⟩
abbrev cX10_own : ByteArray := prog_12_method_83_code
def yX10_own : MethodName := ⟨RX10, "own", "()I"⟩
abbrev cX10_rings : ByteArray := prog_12_method_84_code
def yX10_rings : MethodName := ⟨RX10, "rings", "(II)I"⟩
abbrev cX10_swings : ByteArray := prog_12_method_85_code
def yX10_swings : MethodName := ⟨RX10, "swings", "(II)I"⟩
abbrev cX10_hums : ByteArray := prog_12_method_86_code
def yX10_hums : MethodName := ⟨RX10, "hums", "(II)I"⟩
abbrev cX10_tells : ByteArray := prog_12_method_87_code
def yX10_tells : MethodName := ⟨RX10, "tells", "(II)I"⟩
abbrev cX10_voice : ByteArray := prog_12_method_88_code
def yX10_voice : MethodName := ⟨RX10, "voice", "(III)I"⟩
abbrev cX10_trace : ByteArray := prog_12_method_89_code
def yX10_trace : MethodName := ⟨RX10, "trace", "(I)I"⟩
abbrev cX10_isSheet : ByteArray := prog_12_method_90_code
def yX10_isSheet : MethodName := ⟨RX10, "isSheet", "(I)Z"⟩
abbrev cX10_sheet : ByteArray := prog_12_method_91_code
def yX10_sheet : MethodName := ⟨RX10, "sheet", "(III)I"⟩
abbrev cX10_put : ByteArray := prog_12_method_92_code
def yX10_put : MethodName := ⟨RX10, "put", "(III)I"⟩
abbrev cX10_move : ByteArray := prog_12_method_93_code
def yX10_move : MethodName := ⟨RX10, "move", "(IIIII)I"⟩
abbrev cX10_image : ByteArray := prog_12_method_94_code
def yX10_image : MethodName := ⟨RX10, "image", "()I"⟩
abbrev cX10_restore : ByteArray := prog_12_method_95_code
def yX10_restore : MethodName := ⟨RX10, "restore", "()I"⟩
abbrev cX10_tell : ByteArray := prog_12_method_96_code
def yX10_tell : MethodName := ⟨RX10, "tell", "(I)I"⟩
abbrev cX10_clashesAhead : ByteArray := prog_12_method_97_code
def yX10_clashesAhead : MethodName := ⟨RX10, "clashesAhead", "(I)Z"⟩
abbrev cX10_wrong_ : ByteArray := prog_12_method_98_code
def yX10_wrong_ : MethodName := ⟨RX10, "wrong", "(I)I"⟩
abbrev cX10_check : ByteArray := prog_12_method_99_code
def yX10_check : MethodName := ⟨RX10, "check", "(I)I"⟩
abbrev cX10_manySilent : ByteArray := prog_12_method_100_code
def yX10_manySilent : MethodName := ⟨RX10, "manySilent", "()I"⟩
abbrev cX10_count : ByteArray := prog_12_method_101_code
def yX10_count : MethodName := ⟨RX10, "count", "(I)I"⟩
abbrev cX10_told : ByteArray := prog_12_method_102_code
def yX10_told : MethodName := ⟨RX10, "told", "(I)I"⟩
def RJ11 : String := "java/lang/Character"
def TJ11 : u_T := fun k => match k with
  | _ => ("", "", "", false)
def tyJ11 : Nat → FieldType := fun k => match k with
  | _ => .int
abbrev wsJ110 : List Cond := u_ws RJ11 TJ11 0
theorem nmJ11 : ∀ a, a < 0 → ∀ b, b < 0 → a ≠ b → (TJ11 a).2.1 ≠ (TJ11 b).2.1 := by decide +kernel
theorem tyJ11_ok : ∀ k, k < 0 → parseFieldDescriptor (TJ11 k).2.2.1 = some (tyJ11 k) := by decide +kernel
abbrev cJ11_isValidCodePoint_9a6ad : ByteArray := prog_13_method_11_code
def yJ11_isValidCodePoint_9a6ad : MethodName := ⟨RJ11, "isValidCodePoint", "(I)Z"⟩
abbrev cJ11_highSurrogate_5068e : ByteArray := prog_13_method_28_code
def yJ11_highSurrogate_5068e : MethodName := ⟨RJ11, "highSurrogate", "(I)C"⟩
abbrev cJ11_lowSurrogate_5068e : ByteArray := prog_13_method_29_code
def yJ11_lowSurrogate_5068e : MethodName := ⟨RJ11, "lowSurrogate", "(I)C"⟩
def RJ6 : String := "java/lang/Integer"
def TJ6 : u_T := fun k => match k with
  | _ => ("", "", "", false)
def tyJ6 : Nat → FieldType := fun k => match k with
  | _ => .int
abbrev wsJ60 : List Cond := u_ws RJ6 TJ6 0
theorem nmJ6 : ∀ a, a < 0 → ∀ b, b < 0 → a ≠ b → (TJ6 a).2.1 ≠ (TJ6 b).2.1 := by decide +kernel
theorem tyJ6_ok : ∀ k, k < 0 → parseFieldDescriptor (TJ6 k).2.2.1 = some (tyJ6 k) := by decide +kernel
abbrev cJ6_bitCount_0f7a4 : ByteArray := prog_14_method_49_code
def yJ6_bitCount_0f7a4 : MethodName := ⟨RJ6, "bitCount", "(I)I"⟩
def RJ9 : String := "java/lang/Math"
def TJ9 : u_T := fun k => match k with
  | _ => ("", "", "", false)
def tyJ9 : Nat → FieldType := fun k => match k with
  | _ => .int
abbrev wsJ90 : List Cond := u_ws RJ9 TJ9 0
theorem nmJ9 : ∀ a, a < 0 → ∀ b, b < 0 → a ≠ b → (TJ9 a).2.1 ≠ (TJ9 b).2.1 := by decide +kernel
theorem tyJ9_ok : ∀ k, k < 0 → parseFieldDescriptor (TJ9 k).2.2.1 = some (tyJ9 k) := by decide +kernel
abbrev cJ9_abs_0f7a4 : ByteArray := prog_15_method_59_code
def yJ9_abs_0f7a4 : MethodName := ⟨RJ9, "abs", "(I)I"⟩
abbrev cJ9_max_7cf53 : ByteArray := prog_15_method_65_code
def yJ9_max_7cf53 : MethodName := ⟨RJ9, "max", "(II)I"⟩
abbrev cJ9_min_7cf53 : ByteArray := prog_15_method_69_code
def yJ9_min_7cf53 : MethodName := ⟨RJ9, "min", "(II)I"⟩
def RJ0 : String := "java/lang/String"
def TJ0 : u_T := fun k => match k with
  | _ => ("", "", "", false)
def tyJ0 : Nat → FieldType := fun k => match k with
  | _ => .int
abbrev wsJ00 : List Cond := u_ws RJ0 TJ0 0
theorem nmJ0 : ∀ a, a < 0 → ∀ b, b < 0 → a ≠ b → (TJ0 a).2.1 ≠ (TJ0 b).2.1 := by decide +kernel
theorem tyJ0_ok : ∀ k, k < 0 → parseFieldDescriptor (TJ0 k).2.2.1 = some (tyJ0 k) := by decide +kernel
abbrev cJ0_length_8abf5 : ByteArray := prog_16_method_54_code
def yJ0_length_8abf5 : MethodName := ⟨RJ0, "length", "()I"⟩
abbrev cJ0_charAt_5068e : ByteArray := prog_16_method_56_code
def yJ0_charAt_5068e : MethodName := ⟨RJ0, "charAt", "(I)C"⟩
abbrev cJ0_indexOf_0f7a4 : ByteArray := prog_16_method_79_code
def yJ0_indexOf_0f7a4 : MethodName := ⟨RJ0, "indexOf", "(I)I"⟩
abbrev cJ0_indexOf_7cf53 : ByteArray := prog_16_method_80_code
def yJ0_indexOf_7cf53 : MethodName := ⟨RJ0, "indexOf", "(II)I"⟩
abbrev cJ0_coder_7d493 : ByteArray := prog_16_method_152_code
def yJ0_coder_7d493 : MethodName := ⟨RJ0, "coder", "()B"⟩
abbrev cJ0_isLatin1_aae02 : ByteArray := prog_16_method_154_code
def yJ0_isLatin1_aae02 : MethodName := ⟨RJ0, "isLatin1", "()Z"⟩
abbrev cJ0_checkIndex_df160 : ByteArray := prog_16_method_155_code
def yJ0_checkIndex_df160 : MethodName := ⟨RJ0, "checkIndex", "(II)V"⟩
abbrev cJ0_checkBoundsBeginEnd_23922 : ByteArray := prog_16_method_158_code
def yJ0_checkBoundsBeginEnd_23922 : MethodName := ⟨RJ0, "checkBoundsBeginEnd", "(III)V"⟩
def RJ1 : String := "java/lang/StringLatin1"
def TJ1 : u_T := fun k => match k with
  | _ => ("", "", "", false)
def tyJ1 : Nat → FieldType := fun k => match k with
  | _ => .int
abbrev wsJ10 : List Cond := u_ws RJ1 TJ1 0
theorem nmJ1 : ∀ a, a < 0 → ∀ b, b < 0 → a ≠ b → (TJ1 a).2.1 ≠ (TJ1 b).2.1 := by decide +kernel
theorem tyJ1_ok : ∀ k, k < 0 → parseFieldDescriptor (TJ1 k).2.2.1 = some (tyJ1 k) := by decide +kernel
abbrev cJ1_charAt_3b067 : ByteArray := prog_17_method_2_code
def yJ1_charAt_3b067 : MethodName := ⟨RJ1, "charAt", "([BI)C"⟩
abbrev cJ1_canEncode_9a6ad : ByteArray := prog_17_method_4_code
def yJ1_canEncode_9a6ad : MethodName := ⟨RJ1, "canEncode", "(I)Z"⟩
abbrev cJ1_indexOf_4cfef : ByteArray := prog_17_method_22_code
def yJ1_indexOf_4cfef : MethodName := ⟨RJ1, "indexOf", "([BIII)I"⟩
abbrev cJ1_indexOfChar_4cfef : ByteArray := prog_17_method_23_code
def yJ1_indexOfChar_4cfef : MethodName := ⟨RJ1, "indexOfChar", "([BIII)I"⟩
def RJ2 : String := "java/lang/StringUTF16"
def TJ2 : u_T := fun k => match k with
  | _ => ("", "", "", false)
def tyJ2 : Nat → FieldType := fun k => match k with
  | _ => .int
abbrev wsJ20 : List Cond := u_ws RJ2 TJ2 0
theorem nmJ2 : ∀ a, a < 0 → ∀ b, b < 0 → a ≠ b → (TJ2 a).2.1 ≠ (TJ2 b).2.1 := by decide +kernel
theorem tyJ2_ok : ∀ k, k < 0 → parseFieldDescriptor (TJ2 k).2.2.1 = some (tyJ2 k) := by decide +kernel
abbrev cJ2_getChar_3b067 : ByteArray := prog_18_method_5_code
def yJ2_getChar_3b067 : MethodName := ⟨RJ2, "getChar", "([BI)C"⟩
abbrev cJ2_length_9d52b : ByteArray := prog_18_method_6_code
def yJ2_length_9d52b : MethodName := ⟨RJ2, "length", "([B)I"⟩
abbrev cJ2_indexOf_4cfef : ByteArray := prog_18_method_40_code
def yJ2_indexOf_4cfef : MethodName := ⟨RJ2, "indexOf", "([BIII)I"⟩
abbrev cJ2_indexOfChar_4cfef : ByteArray := prog_18_method_47_code
def yJ2_indexOfChar_4cfef : MethodName := ⟨RJ2, "indexOfChar", "([BIII)I"⟩
abbrev cJ2_indexOfCharUnsafe_4cfef : ByteArray := prog_18_method_48_code
def yJ2_indexOfCharUnsafe_4cfef : MethodName := ⟨RJ2, "indexOfCharUnsafe", "([BIII)I"⟩
abbrev cJ2_indexOfSupplementary_4cfef : ByteArray := prog_18_method_49_code
def yJ2_indexOfSupplementary_4cfef : MethodName := ⟨RJ2, "indexOfSupplementary", "([BIII)I"⟩
abbrev cJ2_charAt_3b067 : ByteArray := prog_18_method_83_code
def yJ2_charAt_3b067 : MethodName := ⟨RJ2, "charAt", "([BI)C"⟩
abbrev cJ2_checkIndex_2214a : ByteArray := prog_18_method_91_code
def yJ2_checkIndex_2214a : MethodName := ⟨RJ2, "checkIndex", "(I[B)V"⟩
abbrev cJ2_checkBoundsBeginEnd_d044e : ByteArray := prog_18_method_93_code
def yJ2_checkBoundsBeginEnd_d044e : MethodName := ⟨RJ2, "checkBoundsBeginEnd", "(II[B)V"⟩
def RJ10 : String := "java/lang/System"
def TJ10 : u_T := fun k => match k with
  | _ => ("", "", "", false)
def tyJ10 : Nat → FieldType := fun k => match k with
  | _ => .int
abbrev wsJ100 : List Cond := u_ws RJ10 TJ10 0
theorem nmJ10 : ∀ a, a < 0 → ∀ b, b < 0 → a ≠ b → (TJ10 a).2.1 ≠ (TJ10 b).2.1 := by decide +kernel
theorem tyJ10_ok : ∀ k, k < 0 → parseFieldDescriptor (TJ10 k).2.2.1 = some (tyJ10 k) := by decide +kernel
def RJ3 : String := "jdk/internal/util/Preconditions"
def TJ3 : u_T := fun k => match k with
  | _ => ("", "", "", false)
def tyJ3 : Nat → FieldType := fun k => match k with
  | _ => .int
abbrev wsJ30 : List Cond := u_ws RJ3 TJ3 0
theorem nmJ3 : ∀ a, a < 0 → ∀ b, b < 0 → a ≠ b → (TJ3 a).2.1 ≠ (TJ3 b).2.1 := by decide +kernel
theorem tyJ3_ok : ∀ k, k < 0 → parseFieldDescriptor (TJ3 k).2.2.1 = some (tyJ3 k) := by decide +kernel
abbrev cJ3_checkIndex_8e157 : ByteArray := prog_20_method_11_code
def yJ3_checkIndex_8e157 : MethodName := ⟨RJ3, "checkIndex", "(IILjava/util/function/BiFunction;)I"⟩
abbrev cJ3_checkFromToIndex_8c36e : ByteArray := prog_20_method_12_code
def yJ3_checkFromToIndex_8c36e : MethodName := ⟨RJ3, "checkFromToIndex", "(IIILjava/util/function/BiFunction;)I"⟩
def RL : String := "OneBreathLaw"
abbrev cL_law : ByteArray := code
def yL_law : MethodName := ⟨RL, "law", "([I)Z"⟩
