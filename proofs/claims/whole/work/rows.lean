section
-- ===== PART A: goes FIRST, ahead of the names: the tables' words, and 'selects' of the private methods out of them =====
/-- a private method of a class that the tables say can be made, by its rows of tables_1 -/
def lw_okq (q : MethodName × Nat) : Prop := (q.1.cls ≠ "java/lang/invoke/MethodHandle" ∧ q.1.cls ≠ "java/lang/invoke/VarHandle") ∧ Cond.instantiable q.1.cls q.2 ∈ tables_1 ∧ Cond.privateMethod q.1 ∈ tables_1 ∧ Cond.instanceMethod q.1 ∈ tables_1
theorem lw_p0 : lw_okq (⟨"RefsSettle", "found", "(I)I"⟩, 13) := ⟨⟨by decide +kernel, by decide +kernel⟩, List.mem_of_getElem? (i := 24) (by decide +kernel), List.mem_of_getElem? (i := 323) (by decide +kernel), List.mem_of_getElem? (i := 324) (by decide +kernel)⟩
theorem lw_p1 : lw_okq (⟨"RefsSettle", "sound", "(I)I"⟩, 13) := ⟨⟨by decide +kernel, by decide +kernel⟩, List.mem_of_getElem? (i := 24) (by decide +kernel), List.mem_of_getElem? (i := 332) (by decide +kernel), List.mem_of_getElem? (i := 333) (by decide +kernel)⟩
theorem lw_p2 : lw_okq (⟨"RefsSettle$Reader", "readLaw", "(LRefsSettle$Sheet;)V"⟩, 4) := ⟨⟨by decide +kernel, by decide +kernel⟩, List.mem_of_getElem? (i := 55) (by decide +kernel), List.mem_of_getElem? (i := 391) (by decide +kernel), List.mem_of_getElem? (i := 392) (by decide +kernel)⟩
theorem lw_p3 : lw_okq (⟨"RefsSettle$Reader", "readSign", "(C)V"⟩, 4) := ⟨⟨by decide +kernel, by decide +kernel⟩, List.mem_of_getElem? (i := 55) (by decide +kernel), List.mem_of_getElem? (i := 395) (by decide +kernel), List.mem_of_getElem? (i := 396) (by decide +kernel)⟩
theorem lw_p4 : lw_okq (⟨"RefsSettle$Reader", "readNumber", "(II)I"⟩, 4) := ⟨⟨by decide +kernel, by decide +kernel⟩, List.mem_of_getElem? (i := 55) (by decide +kernel), List.mem_of_getElem? (i := 399) (by decide +kernel), List.mem_of_getElem? (i := 400) (by decide +kernel)⟩
theorem lw_p5 : lw_okq (⟨"RefsSettle$Reader", "readItem", "(LRefsSettle$Sheet;)V"⟩, 4) := ⟨⟨by decide +kernel, by decide +kernel⟩, List.mem_of_getElem? (i := 55) (by decide +kernel), List.mem_of_getElem? (i := 403) (by decide +kernel), List.mem_of_getElem? (i := 404) (by decide +kernel)⟩
theorem lw_p6 : lw_okq (⟨"RefsSettle$Reader", "readNumberOf", "(I)I"⟩, 4) := ⟨⟨by decide +kernel, by decide +kernel⟩, List.mem_of_getElem? (i := 55) (by decide +kernel), List.mem_of_getElem? (i := 411) (by decide +kernel), List.mem_of_getElem? (i := 412) (by decide +kernel)⟩
theorem lw_p7 : lw_okq (⟨"RefsSettle$Reader", "lookAtReferences", "(LRefsSettle$Sheet;)V"⟩, 4) := ⟨⟨by decide +kernel, by decide +kernel⟩, List.mem_of_getElem? (i := 55) (by decide +kernel), List.mem_of_getElem? (i := 415) (by decide +kernel), List.mem_of_getElem? (i := 416) (by decide +kernel)⟩
theorem lw_p8 : lw_okq (⟨"RefsSettle", "isWithoutSheet", "()Z"⟩, 13) := ⟨⟨by decide +kernel, by decide +kernel⟩, List.mem_of_getElem? (i := 24) (by decide +kernel), List.mem_of_getElem? (i := 450) (by decide +kernel), List.mem_of_getElem? (i := 451) (by decide +kernel)⟩
theorem lw_p9 : lw_okq (⟨"RefsSettle$Settling", "isAtRest", "(LRefsSettle$Sheet;)Z"⟩, 7) := ⟨⟨by decide +kernel, by decide +kernel⟩, List.mem_of_getElem? (i := 142) (by decide +kernel), List.mem_of_getElem? (i := 488) (by decide +kernel), List.mem_of_getElem? (i := 489) (by decide +kernel)⟩
theorem lw_p10 : lw_okq (⟨"RefsSettle$Settling", "keep", "(LRefsSettle$Sheet;)V"⟩, 7) := ⟨⟨by decide +kernel, by decide +kernel⟩, List.mem_of_getElem? (i := 142) (by decide +kernel), List.mem_of_getElem? (i := 495) (by decide +kernel), List.mem_of_getElem? (i := 496) (by decide +kernel)⟩
theorem lw_p11 : lw_okq (⟨"RefsSettle$Settling", "ringSince", "(LRefsSettle$Sheet;)I"⟩, 7) := ⟨⟨by decide +kernel, by decide +kernel⟩, List.mem_of_getElem? (i := 142) (by decide +kernel), List.mem_of_getElem? (i := 500) (by decide +kernel), List.mem_of_getElem? (i := 501) (by decide +kernel)⟩
theorem lw_p12 : lw_okq (⟨"RefsSettle$Settling", "freezeSince", "(LRefsSettle$Sheet;I)V"⟩, 7) := ⟨⟨by decide +kernel, by decide +kernel⟩, List.mem_of_getElem? (i := 142) (by decide +kernel), List.mem_of_getElem? (i := 504) (by decide +kernel), List.mem_of_getElem? (i := 505) (by decide +kernel)⟩
theorem lw_p13 : lw_okq (⟨"RefsSettle$Settling", "freezeIfRestless", "(LRefsSettle$Sheet;II)V"⟩, 7) := ⟨⟨by decide +kernel, by decide +kernel⟩, List.mem_of_getElem? (i := 142) (by decide +kernel), List.mem_of_getElem? (i := 508) (by decide +kernel), List.mem_of_getElem? (i := 509) (by decide +kernel)⟩
theorem lw_p14 : lw_okq (⟨"RefsSettle", "changeWidth", "(I)I"⟩, 13) := ⟨⟨by decide +kernel, by decide +kernel⟩, List.mem_of_getElem? (i := 24) (by decide +kernel), List.mem_of_getElem? (i := 525) (by decide +kernel), List.mem_of_getElem? (i := 526) (by decide +kernel)⟩
theorem lw_p15 : lw_okq (⟨"RefsSettle", "changeLines", "(I)I"⟩, 13) := ⟨⟨by decide +kernel, by decide +kernel⟩, List.mem_of_getElem? (i := 24) (by decide +kernel), List.mem_of_getElem? (i := 529) (by decide +kernel), List.mem_of_getElem? (i := 530) (by decide +kernel)⟩
def lw_privs_1 : List (MethodName × Nat) := [(⟨"RefsSettle", "found", "(I)I"⟩, 13), (⟨"RefsSettle", "sound", "(I)I"⟩, 13), (⟨"RefsSettle$Reader", "readLaw", "(LRefsSettle$Sheet;)V"⟩, 4), (⟨"RefsSettle$Reader", "readSign", "(C)V"⟩, 4), (⟨"RefsSettle$Reader", "readNumber", "(II)I"⟩, 4), (⟨"RefsSettle$Reader", "readItem", "(LRefsSettle$Sheet;)V"⟩, 4), (⟨"RefsSettle$Reader", "readNumberOf", "(I)I"⟩, 4), (⟨"RefsSettle$Reader", "lookAtReferences", "(LRefsSettle$Sheet;)V"⟩, 4), (⟨"RefsSettle", "isWithoutSheet", "()Z"⟩, 13), (⟨"RefsSettle$Settling", "isAtRest", "(LRefsSettle$Sheet;)Z"⟩, 7), (⟨"RefsSettle$Settling", "keep", "(LRefsSettle$Sheet;)V"⟩, 7), (⟨"RefsSettle$Settling", "ringSince", "(LRefsSettle$Sheet;)I"⟩, 7), (⟨"RefsSettle$Settling", "freezeSince", "(LRefsSettle$Sheet;I)V"⟩, 7), (⟨"RefsSettle$Settling", "freezeIfRestless", "(LRefsSettle$Sheet;II)V"⟩, 7), (⟨"RefsSettle", "changeWidth", "(I)I"⟩, 13), (⟨"RefsSettle", "changeLines", "(I)I"⟩, 13)]
theorem lw_r1 : ∀ q ∈ lw_privs_1, lw_okq q := List.forall_mem_cons.mpr ⟨lw_p0, List.forall_mem_cons.mpr ⟨lw_p1, List.forall_mem_cons.mpr ⟨lw_p2, List.forall_mem_cons.mpr ⟨lw_p3, List.forall_mem_cons.mpr ⟨lw_p4, List.forall_mem_cons.mpr ⟨lw_p5, List.forall_mem_cons.mpr ⟨lw_p6, List.forall_mem_cons.mpr ⟨lw_p7, List.forall_mem_cons.mpr ⟨lw_p8, List.forall_mem_cons.mpr ⟨lw_p9, List.forall_mem_cons.mpr ⟨lw_p10, List.forall_mem_cons.mpr ⟨lw_p11, List.forall_mem_cons.mpr ⟨lw_p12, List.forall_mem_cons.mpr ⟨lw_p13, List.forall_mem_cons.mpr ⟨lw_p14, List.forall_mem_cons.mpr ⟨lw_p15, fun _ h => absurd h List.not_mem_nil⟩⟩⟩⟩⟩⟩⟩⟩⟩⟩⟩⟩⟩⟩⟩⟩
theorem lw_p16 : lw_okq (⟨"RefsSettle", "changeFirst", "(I)I"⟩, 13) := ⟨⟨by decide +kernel, by decide +kernel⟩, List.mem_of_getElem? (i := 24) (by decide +kernel), List.mem_of_getElem? (i := 533) (by decide +kernel), List.mem_of_getElem? (i := 534) (by decide +kernel)⟩
theorem lw_p17 : lw_okq (⟨"RefsSettle$Foretelling", "lastPageWith", "(II)I"⟩, 9) := ⟨⟨by decide +kernel, by decide +kernel⟩, List.mem_of_getElem? (i := 198) (by decide +kernel), List.mem_of_getElem? (i := 812) (by decide +kernel), List.mem_of_getElem? (i := 813) (by decide +kernel)⟩
theorem lw_p18 : lw_okq (⟨"RefsSettle$Foretelling", "comesAsExpected", "()Z"⟩, 9) := ⟨⟨by decide +kernel, by decide +kernel⟩, List.mem_of_getElem? (i := 198) (by decide +kernel), List.mem_of_getElem? (i := 841) (by decide +kernel), List.mem_of_getElem? (i := 842) (by decide +kernel)⟩
theorem lw_p19 : lw_okq (⟨"RefsSettle$Foretelling", "gatherGrowing", "()I"⟩, 9) := ⟨⟨by decide +kernel, by decide +kernel⟩, List.mem_of_getElem? (i := 198) (by decide +kernel), List.mem_of_getElem? (i := 863) (by decide +kernel), List.mem_of_getElem? (i := 864) (by decide +kernel)⟩
theorem lw_p20 : lw_okq (⟨"RefsSettle$Foretelling", "settlesGrown", "(II)Z"⟩, 9) := ⟨⟨by decide +kernel, by decide +kernel⟩, List.mem_of_getElem? (i := 198) (by decide +kernel), List.mem_of_getElem? (i := 870) (by decide +kernel), List.mem_of_getElem? (i := 871) (by decide +kernel)⟩
theorem lw_p21 : lw_okq (⟨"RefsSettle$Asking", "begin", "(I)V"⟩, 3) := ⟨⟨by decide +kernel, by decide +kernel⟩, List.mem_of_getElem? (i := 254) (by decide +kernel), List.mem_of_getElem? (i := 927) (by decide +kernel), List.mem_of_getElem? (i := 928) (by decide +kernel)⟩
theorem lw_p22 : lw_okq (⟨"RefsSettle$Asking", "lentSize", "(I)I"⟩, 3) := ⟨⟨by decide +kernel, by decide +kernel⟩, List.mem_of_getElem? (i := 254) (by decide +kernel), List.mem_of_getElem? (i := 931) (by decide +kernel), List.mem_of_getElem? (i := 932) (by decide +kernel)⟩
theorem lw_p23 : lw_okq (⟨"RefsSettle$Asking", "lentMark", "(I)I"⟩, 3) := ⟨⟨by decide +kernel, by decide +kernel⟩, List.mem_of_getElem? (i := 254) (by decide +kernel), List.mem_of_getElem? (i := 940) (by decide +kernel), List.mem_of_getElem? (i := 941) (by decide +kernel)⟩
theorem lw_p24 : lw_okq (⟨"RefsSettleModel", "found", "(I)I"⟩, 28) := ⟨⟨by decide +kernel, by decide +kernel⟩, List.mem_of_getElem? (i := 972) (by decide +kernel), List.mem_of_getElem? (i := 1076) (by decide +kernel), List.mem_of_getElem? (i := 1077) (by decide +kernel)⟩
theorem lw_p25 : lw_okq (⟨"RefsSettleModel", "well", "(I)I"⟩, 28) := ⟨⟨by decide +kernel, by decide +kernel⟩, List.mem_of_getElem? (i := 972) (by decide +kernel), List.mem_of_getElem? (i := 1081) (by decide +kernel), List.mem_of_getElem? (i := 1082) (by decide +kernel)⟩
theorem lw_p26 : lw_okq (⟨"RefsSettleModel", "isMissing", "(I)Z"⟩, 28) := ⟨⟨by decide +kernel, by decide +kernel⟩, List.mem_of_getElem? (i := 972) (by decide +kernel), List.mem_of_getElem? (i := 1089) (by decide +kernel), List.mem_of_getElem? (i := 1090) (by decide +kernel)⟩
theorem lw_p27 : lw_okq (⟨"RefsSettleModel", "isPart", "(III)Z"⟩, 28) := ⟨⟨by decide +kernel, by decide +kernel⟩, List.mem_of_getElem? (i := 972) (by decide +kernel), List.mem_of_getElem? (i := 1100) (by decide +kernel), List.mem_of_getElem? (i := 1101) (by decide +kernel)⟩
theorem lw_p28 : lw_okq (⟨"RefsSettleModel", "advances", "()V"⟩, 28) := ⟨⟨by decide +kernel, by decide +kernel⟩, List.mem_of_getElem? (i := 972) (by decide +kernel), List.mem_of_getElem? (i := 1117) (by decide +kernel), List.mem_of_getElem? (i := 1118) (by decide +kernel)⟩
theorem lw_p29 : lw_okq (⟨"RefsSettleModel", "byteAt", "(I)I"⟩, 28) := ⟨⟨by decide +kernel, by decide +kernel⟩, List.mem_of_getElem? (i := 972) (by decide +kernel), List.mem_of_getElem? (i := 1121) (by decide +kernel), List.mem_of_getElem? (i := 1122) (by decide +kernel)⟩
theorem lw_p30 : lw_okq (⟨"RefsSettleModel", "takes", "(ZI)I"⟩, 28) := ⟨⟨by decide +kernel, by decide +kernel⟩, List.mem_of_getElem? (i := 972) (by decide +kernel), List.mem_of_getElem? (i := 1125) (by decide +kernel), List.mem_of_getElem? (i := 1126) (by decide +kernel)⟩
theorem lw_p31 : lw_okq (⟨"RefsSettleModel", "isWell", "()Z"⟩, 28) := ⟨⟨by decide +kernel, by decide +kernel⟩, List.mem_of_getElem? (i := 972) (by decide +kernel), List.mem_of_getElem? (i := 1129) (by decide +kernel), List.mem_of_getElem? (i := 1130) (by decide +kernel)⟩
def lw_privs_2 : List (MethodName × Nat) := [(⟨"RefsSettle", "changeFirst", "(I)I"⟩, 13), (⟨"RefsSettle$Foretelling", "lastPageWith", "(II)I"⟩, 9), (⟨"RefsSettle$Foretelling", "comesAsExpected", "()Z"⟩, 9), (⟨"RefsSettle$Foretelling", "gatherGrowing", "()I"⟩, 9), (⟨"RefsSettle$Foretelling", "settlesGrown", "(II)Z"⟩, 9), (⟨"RefsSettle$Asking", "begin", "(I)V"⟩, 3), (⟨"RefsSettle$Asking", "lentSize", "(I)I"⟩, 3), (⟨"RefsSettle$Asking", "lentMark", "(I)I"⟩, 3), (⟨"RefsSettleModel", "found", "(I)I"⟩, 28), (⟨"RefsSettleModel", "well", "(I)I"⟩, 28), (⟨"RefsSettleModel", "isMissing", "(I)Z"⟩, 28), (⟨"RefsSettleModel", "isPart", "(III)Z"⟩, 28), (⟨"RefsSettleModel", "advances", "()V"⟩, 28), (⟨"RefsSettleModel", "byteAt", "(I)I"⟩, 28), (⟨"RefsSettleModel", "takes", "(ZI)I"⟩, 28), (⟨"RefsSettleModel", "isWell", "()Z"⟩, 28)]
theorem lw_r2 : ∀ q ∈ lw_privs_2, lw_okq q := List.forall_mem_cons.mpr ⟨lw_p16, List.forall_mem_cons.mpr ⟨lw_p17, List.forall_mem_cons.mpr ⟨lw_p18, List.forall_mem_cons.mpr ⟨lw_p19, List.forall_mem_cons.mpr ⟨lw_p20, List.forall_mem_cons.mpr ⟨lw_p21, List.forall_mem_cons.mpr ⟨lw_p22, List.forall_mem_cons.mpr ⟨lw_p23, List.forall_mem_cons.mpr ⟨lw_p24, List.forall_mem_cons.mpr ⟨lw_p25, List.forall_mem_cons.mpr ⟨lw_p26, List.forall_mem_cons.mpr ⟨lw_p27, List.forall_mem_cons.mpr ⟨lw_p28, List.forall_mem_cons.mpr ⟨lw_p29, List.forall_mem_cons.mpr ⟨lw_p30, List.forall_mem_cons.mpr ⟨lw_p31, fun _ h => absurd h List.not_mem_nil⟩⟩⟩⟩⟩⟩⟩⟩⟩⟩⟩⟩⟩⟩⟩⟩
theorem lw_p32 : lw_okq (⟨"RefsSettleModel", "figure", "(II)I"⟩, 28) := ⟨⟨by decide +kernel, by decide +kernel⟩, List.mem_of_getElem? (i := 972) (by decide +kernel), List.mem_of_getElem? (i := 1133) (by decide +kernel), List.mem_of_getElem? (i := 1134) (by decide +kernel)⟩
theorem lw_p33 : lw_okq (⟨"RefsSettleModel", "follows", "(II)I"⟩, 28) := ⟨⟨by decide +kernel, by decide +kernel⟩, List.mem_of_getElem? (i := 972) (by decide +kernel), List.mem_of_getElem? (i := 1137) (by decide +kernel), List.mem_of_getElem? (i := 1138) (by decide +kernel)⟩
theorem lw_p34 : lw_okq (⟨"RefsSettleModel", "readsItem", "()V"⟩, 28) := ⟨⟨by decide +kernel, by decide +kernel⟩, List.mem_of_getElem? (i := 972) (by decide +kernel), List.mem_of_getElem? (i := 1144) (by decide +kernel), List.mem_of_getElem? (i := 1145) (by decide +kernel)⟩
theorem lw_p35 : lw_okq (⟨"RefsSettleModel", "must", "(ZI)V"⟩, 28) := ⟨⟨by decide +kernel, by decide +kernel⟩, List.mem_of_getElem? (i := 972) (by decide +kernel), List.mem_of_getElem? (i := 1148) (by decide +kernel), List.mem_of_getElem? (i := 1149) (by decide +kernel)⟩
theorem lw_p36 : lw_okq (⟨"RefsSettleModel", "isSheet", "()Z"⟩, 28) := ⟨⟨by decide +kernel, by decide +kernel⟩, List.mem_of_getElem? (i := 972) (by decide +kernel), List.mem_of_getElem? (i := 1167) (by decide +kernel), List.mem_of_getElem? (i := 1168) (by decide +kernel)⟩
theorem lw_p37 : lw_okq (⟨"RefsSettleModel", "notes", "()V"⟩, 28) := ⟨⟨by decide +kernel, by decide +kernel⟩, List.mem_of_getElem? (i := 972) (by decide +kernel), List.mem_of_getElem? (i := 1172) (by decide +kernel), List.mem_of_getElem? (i := 1173) (by decide +kernel)⟩
theorem lw_p38 : lw_okq (⟨"RefsSettleModel", "rounds", "([I)I"⟩, 28) := ⟨⟨by decide +kernel, by decide +kernel⟩, List.mem_of_getElem? (i := 972) (by decide +kernel), List.mem_of_getElem? (i := 1176) (by decide +kernel), List.mem_of_getElem? (i := 1177) (by decide +kernel)⟩
theorem lw_p39 : lw_okq (⟨"RefsSettleModel", "setsOut", "([III)V"⟩, 28) := ⟨⟨by decide +kernel, by decide +kernel⟩, List.mem_of_getElem? (i := 972) (by decide +kernel), List.mem_of_getElem? (i := 1180) (by decide +kernel), List.mem_of_getElem? (i := 1181) (by decide +kernel)⟩
theorem lw_p40 : lw_okq (⟨"RefsSettleModel", "settles", "([I)V"⟩, 28) := ⟨⟨by decide +kernel, by decide +kernel⟩, List.mem_of_getElem? (i := 972) (by decide +kernel), List.mem_of_getElem? (i := 1197) (by decide +kernel), List.mem_of_getElem? (i := 1198) (by decide +kernel)⟩
theorem lw_p41 : lw_okq (⟨"RefsSettleModel", "keepsGuesses", "([II)V"⟩, 28) := ⟨⟨by decide +kernel, by decide +kernel⟩, List.mem_of_getElem? (i := 972) (by decide +kernel), List.mem_of_getElem? (i := 1201) (by decide +kernel), List.mem_of_getElem? (i := 1202) (by decide +kernel)⟩
theorem lw_p42 : lw_okq (⟨"RefsSettleModel", "isSettled", "([I)Z"⟩, 28) := ⟨⟨by decide +kernel, by decide +kernel⟩, List.mem_of_getElem? (i := 972) (by decide +kernel), List.mem_of_getElem? (i := 1205) (by decide +kernel), List.mem_of_getElem? (i := 1206) (by decide +kernel)⟩
theorem lw_p43 : lw_okq (⟨"RefsSettleModel", "areGuesses", "([II)Z"⟩, 28) := ⟨⟨by decide +kernel, by decide +kernel⟩, List.mem_of_getElem? (i := 972) (by decide +kernel), List.mem_of_getElem? (i := 1209) (by decide +kernel), List.mem_of_getElem? (i := 1210) (by decide +kernel)⟩
theorem lw_p44 : lw_okq (⟨"RefsSettleModel", "freezes", "([III)V"⟩, 28) := ⟨⟨by decide +kernel, by decide +kernel⟩, List.mem_of_getElem? (i := 972) (by decide +kernel), List.mem_of_getElem? (i := 1213) (by decide +kernel), List.mem_of_getElem? (i := 1214) (by decide +kernel)⟩
theorem lw_p45 : lw_okq (⟨"RefsSettleModel", "isItem", "(I)Z"⟩, 28) := ⟨⟨by decide +kernel, by decide +kernel⟩, List.mem_of_getElem? (i := 972) (by decide +kernel), List.mem_of_getElem? (i := 1221) (by decide +kernel), List.mem_of_getElem? (i := 1222) (by decide +kernel)⟩
theorem lw_p46 : lw_okq (⟨"RefsSettleModel", "isNumber", "(II)Z"⟩, 28) := ⟨⟨by decide +kernel, by decide +kernel⟩, List.mem_of_getElem? (i := 972) (by decide +kernel), List.mem_of_getElem? (i := 1225) (by decide +kernel), List.mem_of_getElem? (i := 1226) (by decide +kernel)⟩
theorem lw_p47 : lw_okq (⟨"RefsSettleModel", "lastBy", "(II)I"⟩, 28) := ⟨⟨by decide +kernel, by decide +kernel⟩, List.mem_of_getElem? (i := 972) (by decide +kernel), List.mem_of_getElem? (i := 1288) (by decide +kernel), List.mem_of_getElem? (i := 1289) (by decide +kernel)⟩
def lw_privs_3 : List (MethodName × Nat) := [(⟨"RefsSettleModel", "figure", "(II)I"⟩, 28), (⟨"RefsSettleModel", "follows", "(II)I"⟩, 28), (⟨"RefsSettleModel", "readsItem", "()V"⟩, 28), (⟨"RefsSettleModel", "must", "(ZI)V"⟩, 28), (⟨"RefsSettleModel", "isSheet", "()Z"⟩, 28), (⟨"RefsSettleModel", "notes", "()V"⟩, 28), (⟨"RefsSettleModel", "rounds", "([I)I"⟩, 28), (⟨"RefsSettleModel", "setsOut", "([III)V"⟩, 28), (⟨"RefsSettleModel", "settles", "([I)V"⟩, 28), (⟨"RefsSettleModel", "keepsGuesses", "([II)V"⟩, 28), (⟨"RefsSettleModel", "isSettled", "([I)Z"⟩, 28), (⟨"RefsSettleModel", "areGuesses", "([II)Z"⟩, 28), (⟨"RefsSettleModel", "freezes", "([III)V"⟩, 28), (⟨"RefsSettleModel", "isItem", "(I)Z"⟩, 28), (⟨"RefsSettleModel", "isNumber", "(II)Z"⟩, 28), (⟨"RefsSettleModel", "lastBy", "(II)I"⟩, 28)]
theorem lw_r3 : ∀ q ∈ lw_privs_3, lw_okq q := List.forall_mem_cons.mpr ⟨lw_p32, List.forall_mem_cons.mpr ⟨lw_p33, List.forall_mem_cons.mpr ⟨lw_p34, List.forall_mem_cons.mpr ⟨lw_p35, List.forall_mem_cons.mpr ⟨lw_p36, List.forall_mem_cons.mpr ⟨lw_p37, List.forall_mem_cons.mpr ⟨lw_p38, List.forall_mem_cons.mpr ⟨lw_p39, List.forall_mem_cons.mpr ⟨lw_p40, List.forall_mem_cons.mpr ⟨lw_p41, List.forall_mem_cons.mpr ⟨lw_p42, List.forall_mem_cons.mpr ⟨lw_p43, List.forall_mem_cons.mpr ⟨lw_p44, List.forall_mem_cons.mpr ⟨lw_p45, List.forall_mem_cons.mpr ⟨lw_p46, List.forall_mem_cons.mpr ⟨lw_p47, fun _ h => absurd h List.not_mem_nil⟩⟩⟩⟩⟩⟩⟩⟩⟩⟩⟩⟩⟩⟩⟩⟩
theorem lw_p48 : lw_okq (⟨"RefsSettleModel", "isSeen", "(IIIII)Z"⟩, 28) := ⟨⟨by decide +kernel, by decide +kernel⟩, List.mem_of_getElem? (i := 972) (by decide +kernel), List.mem_of_getElem? (i := 1300) (by decide +kernel), List.mem_of_getElem? (i := 1301) (by decide +kernel)⟩
theorem lw_p49 : lw_okq (⟨"RefsSettleModel", "kindIn", "(I)I"⟩, 28) := ⟨⟨by decide +kernel, by decide +kernel⟩, List.mem_of_getElem? (i := 972) (by decide +kernel), List.mem_of_getElem? (i := 1334) (by decide +kernel), List.mem_of_getElem? (i := 1335) (by decide +kernel)⟩
theorem lw_p50 : lw_okq (⟨"RefsSettleModel", "wordSize", "(I)I"⟩, 28) := ⟨⟨by decide +kernel, by decide +kernel⟩, List.mem_of_getElem? (i := 972) (by decide +kernel), List.mem_of_getElem? (i := 1346) (by decide +kernel), List.mem_of_getElem? (i := 1347) (by decide +kernel)⟩
theorem lw_p51 : lw_okq (⟨"RefsSettleModel", "traces", "(I)V"⟩, 28) := ⟨⟨by decide +kernel, by decide +kernel⟩, List.mem_of_getElem? (i := 972) (by decide +kernel), List.mem_of_getElem? (i := 1350) (by decide +kernel), List.mem_of_getElem? (i := 1351) (by decide +kernel)⟩
theorem lw_p52 : lw_okq (⟨"RefsSettleModel", "referenceSize", "(I)I"⟩, 28) := ⟨⟨by decide +kernel, by decide +kernel⟩, List.mem_of_getElem? (i := 972) (by decide +kernel), List.mem_of_getElem? (i := 1354) (by decide +kernel), List.mem_of_getElem? (i := 1355) (by decide +kernel)⟩
theorem lw_p53 : lw_okq (⟨"RefsSettleModel", "referenceMark", "(I)I"⟩, 28) := ⟨⟨by decide +kernel, by decide +kernel⟩, List.mem_of_getElem? (i := 972) (by decide +kernel), List.mem_of_getElem? (i := 1358) (by decide +kernel), List.mem_of_getElem? (i := 1359) (by decide +kernel)⟩
theorem lw_p54 : lw_okq (⟨"RefsSettleModel", "wordMark", "(I)I"⟩, 28) := ⟨⟨by decide +kernel, by decide +kernel⟩, List.mem_of_getElem? (i := 972) (by decide +kernel), List.mem_of_getElem? (i := 1362) (by decide +kernel), List.mem_of_getElem? (i := 1363) (by decide +kernel)⟩
def lw_privs_4 : List (MethodName × Nat) := [(⟨"RefsSettleModel", "isSeen", "(IIIII)Z"⟩, 28), (⟨"RefsSettleModel", "kindIn", "(I)I"⟩, 28), (⟨"RefsSettleModel", "wordSize", "(I)I"⟩, 28), (⟨"RefsSettleModel", "traces", "(I)V"⟩, 28), (⟨"RefsSettleModel", "referenceSize", "(I)I"⟩, 28), (⟨"RefsSettleModel", "referenceMark", "(I)I"⟩, 28), (⟨"RefsSettleModel", "wordMark", "(I)I"⟩, 28)]
theorem lw_r4 : ∀ q ∈ lw_privs_4, lw_okq q := List.forall_mem_cons.mpr ⟨lw_p48, List.forall_mem_cons.mpr ⟨lw_p49, List.forall_mem_cons.mpr ⟨lw_p50, List.forall_mem_cons.mpr ⟨lw_p51, List.forall_mem_cons.mpr ⟨lw_p52, List.forall_mem_cons.mpr ⟨lw_p53, List.forall_mem_cons.mpr ⟨lw_p54, fun _ h => absurd h List.not_mem_nil⟩⟩⟩⟩⟩⟩⟩
def lw_privs : List (MethodName × Nat) := lw_privs_1 ++ (lw_privs_2 ++ (lw_privs_3 ++ (lw_privs_4)))
def lw_tbl : List Cond := k2_sels lw_privs ++ tables_1
theorem lw_privs_ok : ∀ q ∈ lw_privs, lw_okq q := by
  show ∀ q ∈ lw_privs_1 ++ (lw_privs_2 ++ (lw_privs_3 ++ (lw_privs_4))), lw_okq q
  exact List.forall_mem_append.mpr ⟨lw_r1, List.forall_mem_append.mpr ⟨lw_r2, List.forall_mem_append.mpr ⟨lw_r3, lw_r4⟩⟩⟩
end
section
def RX0 : String := "RefsSettle$Asking"
def TX0 : u_T := fun k => match k with
  | 0 => ("RefsSettle$Asking", "live", "LRefsSettle$Sheet;", true)
  | 1 => ("RefsSettle$Asking", "begun", "[I", true)
  | _ => ("RefsSettle$Asking", "traced", "I", false)
def tyX0 : Nat → FieldType := fun k => match k with
  | 0 => .object "RefsSettle$Sheet"
  | 1 => .array .int
  | _ => .int
abbrev wsX00 : List Cond := u_ws RX0 TX0 3
theorem nmX0 : ∀ a, a < 3 → ∀ b, b < 3 → a ≠ b → (TX0 a).2.1 ≠ (TX0 b).2.1 := by decide +kernel
theorem tyX0_ok : ∀ k, k < 3 → parseFieldDescriptor (TX0 k).2.2.1 = some (tyX0 k) := by decide +kernel
abbrev cX0_init : ByteArray := prog_2_method_1_code
def yX0_init : MethodName := ⟨RX0, "<init>", "(LRefsSettle$Sheet;)V"⟩
abbrev cX0_clear : ByteArray := prog_2_method_2_code
def yX0_clear : MethodName := ⟨RX0, "clear", "()V"⟩
abbrev cX0_sizeOfReference : ByteArray := prog_2_method_3_code
def yX0_sizeOfReference : MethodName := ⟨RX0, "sizeOfReference", "(I)I"⟩
abbrev cX0_sizeOfWord : ByteArray := prog_2_method_4_code
def yX0_sizeOfWord : MethodName := ⟨RX0, "sizeOfWord", "(I)I"⟩
abbrev cX0_markOfReference : ByteArray := prog_2_method_5_code
def yX0_markOfReference : MethodName := ⟨RX0, "markOfReference", "(I)I"⟩
abbrev cX0_markOfWord : ByteArray := prog_2_method_6_code
def yX0_markOfWord : MethodName := ⟨RX0, "markOfWord", "(I)I"⟩
abbrev cX0_lentSize : ByteArray := prog_2_method_7_code
def yX0_lentSize : MethodName := ⟨RX0, "lentSize", "(I)I"⟩
abbrev cX0_lentMark : ByteArray := prog_2_method_8_code
def yX0_lentMark : MethodName := ⟨RX0, "lentMark", "(I)I"⟩
abbrev cX0_begin : ByteArray := prog_2_method_9_code
def yX0_begin : MethodName := ⟨RX0, "begin", "(I)V"⟩
def RX1 : String := "RefsSettle$Foretelling"
def TX1 : u_T := fun k => match k with
  | 0 => ("RefsSettle$Foretelling", "live", "LRefsSettle$Sheet;", true)
  | 1 => ("RefsSettle$Foretelling", "trial", "LRefsSettle$Sheet;", true)
  | 2 => ("RefsSettle$Foretelling", "settling", "LRefsSettle$Settling;", true)
  | 3 => ("RefsSettle$Foretelling", "wider", "LRefsSettle$Outline;", true)
  | 4 => ("RefsSettle$Foretelling", "growing", "[I", true)
  | 5 => ("RefsSettle$Foretelling", "expectedItem", "I", false)
  | 6 => ("RefsSettle$Foretelling", "expected", "[I", false)
  | 7 => ("RefsSettle$Foretelling", "expectedFrom", "I", false)
  | _ => ("RefsSettle$Foretelling", "expectedRounds", "I", false)
def tyX1 : Nat → FieldType := fun k => match k with
  | 0 => .object "RefsSettle$Sheet"
  | 1 => .object "RefsSettle$Sheet"
  | 2 => .object "RefsSettle$Settling"
  | 3 => .object "RefsSettle$Outline"
  | 4 => .array .int
  | 5 => .int
  | 6 => .array .int
  | 7 => .int
  | _ => .int
abbrev wsX10 : List Cond := u_ws RX1 TX1 9
theorem nmX1 : ∀ a, a < 9 → ∀ b, b < 9 → a ≠ b → (TX1 a).2.1 ≠ (TX1 b).2.1 := by decide +kernel
theorem tyX1_ok : ∀ k, k < 9 → parseFieldDescriptor (TX1 k).2.2.1 = some (tyX1 k) := by decide +kernel
abbrev cX1_init : ByteArray := prog_3_method_1_code
def yX1_init : MethodName := ⟨RX1, "<init>", "(LRefsSettle$Sheet;LRefsSettle$Sheet;LRefsSettle$Settling;)V"⟩
abbrev cX1_guessBehind : ByteArray := prog_3_method_2_code
def yX1_guessBehind : MethodName := ⟨RX1, "guessBehind", "(II)I"⟩
abbrev cX1_lying : ByteArray := prog_3_method_3_code
def yX1_lying : MethodName := ⟨RX1, "lying", "()I"⟩
abbrev cX1_movedBy : ByteArray := prog_3_method_4_code
def yX1_movedBy : MethodName := ⟨RX1, "movedBy", "(I)I"⟩
abbrev cX1_widestOf : ByteArray := prog_3_method_5_code
def yX1_widestOf : MethodName := ⟨RX1, "widestOf", "(I)I"⟩
abbrev cX1_lastPageWith : ByteArray := prog_3_method_6_code
def yX1_lastPageWith : MethodName := ⟨RX1, "lastPageWith", "(II)I"⟩
abbrev cX1_restlessFirst : ByteArray := prog_3_method_7_code
def yX1_restlessFirst : MethodName := ⟨RX1, "restlessFirst", "()I"⟩
abbrev cX1_expect : ByteArray := prog_3_method_8_code
def yX1_expect : MethodName := ⟨RX1, "expect", "(I[III)V"⟩
abbrev cX1_kindsAsExpected : ByteArray := prog_3_method_9_code
def yX1_kindsAsExpected : MethodName := ⟨RX1, "kindsAsExpected", "()I"⟩
abbrev cX1_numbersAsExpected : ByteArray := prog_3_method_10_code
def yX1_numbersAsExpected : MethodName := ⟨RX1, "numbersAsExpected", "()I"⟩
abbrev cX1_firstsAsExpected : ByteArray := prog_3_method_11_code
def yX1_firstsAsExpected : MethodName := ⟨RX1, "firstsAsExpected", "(Z)I"⟩
abbrev cX1_comesAsExpected : ByteArray := prog_3_method_12_code
def yX1_comesAsExpected : MethodName := ⟨RX1, "comesAsExpected", "()Z"⟩
abbrev cX1_weightOfRest : ByteArray := prog_3_method_13_code
def yX1_weightOfRest : MethodName := ⟨RX1, "weightOfRest", "(I)J"⟩
abbrev cX1_weightOfAll : ByteArray := prog_3_method_14_code
def yX1_weightOfAll : MethodName := ⟨RX1, "weightOfAll", "()J"⟩
abbrev cX1_gatherGrowing : ByteArray := prog_3_method_15_code
def yX1_gatherGrowing : MethodName := ⟨RX1, "gatherGrowing", "()I"⟩
abbrev cX1_weightOf : ByteArray := prog_3_method_16_code
def yX1_weightOf : MethodName := ⟨RX1, "weightOf", "(III)J"⟩
abbrev cX1_settlesGrown : ByteArray := prog_3_method_17_code
def yX1_settlesGrown : MethodName := ⟨RX1, "settlesGrown", "(II)Z"⟩
abbrev cX1_editsThatChange : ByteArray := prog_3_method_18_code
def yX1_editsThatChange : MethodName := ⟨RX1, "editsThatChange", "(II)I"⟩
def RX2 : String := "RefsSettle$Outline"
def TX2 : u_T := fun k => match k with
  | 0 => ("RefsSettle$Outline", "pages", "[I", true)
  | 1 => ("RefsSettle$Outline", "lines", "[I", true)
  | _ => ("RefsSettle$Outline", "columns", "[I", true)
def tyX2 : Nat → FieldType := fun k => match k with
  | 0 => .array .int
  | 1 => .array .int
  | _ => .array .int
abbrev wsX20 : List Cond := u_ws RX2 TX2 3
theorem nmX2 : ∀ a, a < 3 → ∀ b, b < 3 → a ≠ b → (TX2 a).2.1 ≠ (TX2 b).2.1 := by decide +kernel
theorem tyX2_ok : ∀ k, k < 3 → parseFieldDescriptor (TX2 k).2.2.1 = some (tyX2 k) := by decide +kernel
abbrev cX2_init : ByteArray := prog_4_method_1_code
def yX2_init : MethodName := ⟨RX2, "<init>", "()V"⟩
abbrev cX2_setOut : ByteArray := prog_4_method_2_code
def yX2_setOut : MethodName := ⟨RX2, "setOut", "(LRefsSettle$Sheet;I)V"⟩
abbrev cX2_hasElsewhere : ByteArray := prog_4_method_3_code
def yX2_hasElsewhere : MethodName := ⟨RX2, "hasElsewhere", "(ILRefsSettle$Outline;)Z"⟩
def RX3 : String := "RefsSettle$Past"
def TX3 : u_T := fun k => match k with
  | 0 => ("RefsSettle$Past", "sheets", "[LRefsSettle$Sheet;", true)
  | 1 => ("RefsSettle$Past", "oldest", "I", false)
  | _ => ("RefsSettle$Past", "size", "I", false)
def tyX3 : Nat → FieldType := fun k => match k with
  | 0 => .array (.object "RefsSettle$Sheet")
  | 1 => .int
  | _ => .int
abbrev wsX30 : List Cond := u_ws RX3 TX3 3
theorem nmX3 : ∀ a, a < 3 → ∀ b, b < 3 → a ≠ b → (TX3 a).2.1 ≠ (TX3 b).2.1 := by decide +kernel
theorem tyX3_ok : ∀ k, k < 3 → parseFieldDescriptor (TX3 k).2.2.1 = some (tyX3 k) := by decide +kernel
abbrev cX3_init : ByteArray := prog_5_method_1_code
def yX3_init : MethodName := ⟨RX3, "<init>", "()V"⟩
abbrev cX3_remember : ByteArray := prog_5_method_2_code
def yX3_remember : MethodName := ⟨RX3, "remember", "(LRefsSettle$Sheet;)V"⟩
abbrev cX3_bringBack : ByteArray := prog_5_method_3_code
def yX3_bringBack : MethodName := ⟨RX3, "bringBack", "(LRefsSettle$Sheet;)V"⟩
abbrev cX3_forget : ByteArray := prog_5_method_4_code
def yX3_forget : MethodName := ⟨RX3, "forget", "()V"⟩
def RX4 : String := "RefsSettle$Reader"
def TX4 : u_T := fun k => match k with
  | 0 => ("RefsSettle$Reader", "tape", "[I", false)
  | 1 => ("RefsSettle$Reader", "length", "I", false)
  | 2 => ("RefsSettle$Reader", "place", "I", false)
  | _ => ("RefsSettle$Reader", "fault", "I", false)
def tyX4 : Nat → FieldType := fun k => match k with
  | 0 => .array .int
  | 1 => .int
  | 2 => .int
  | _ => .int
abbrev wsX40 : List Cond := u_ws RX4 TX4 4
theorem nmX4 : ∀ a, a < 4 → ∀ b, b < 4 → a ≠ b → (TX4 a).2.1 ≠ (TX4 b).2.1 := by decide +kernel
theorem tyX4_ok : ∀ k, k < 4 → parseFieldDescriptor (TX4 k).2.2.1 = some (tyX4 k) := by decide +kernel
abbrev cX4_init : ByteArray := prog_6_method_1_code
def yX4_init : MethodName := ⟨RX4, "<init>", "()V"⟩
abbrev cX4_reads : ByteArray := prog_6_method_2_code
def yX4_reads : MethodName := ⟨RX4, "reads", "([IILRefsSettle$Sheet;)Z"⟩
abbrev cX4_readLaw : ByteArray := prog_6_method_3_code
def yX4_readLaw : MethodName := ⟨RX4, "readLaw", "(LRefsSettle$Sheet;)V"⟩
abbrev cX4_readItem : ByteArray := prog_6_method_4_code
def yX4_readItem : MethodName := ⟨RX4, "readItem", "(LRefsSettle$Sheet;)V"⟩
abbrev cX4_readNumberOf : ByteArray := prog_6_method_5_code
def yX4_readNumberOf : MethodName := ⟨RX4, "readNumberOf", "(I)I"⟩
abbrev cX4_readSign : ByteArray := prog_6_method_6_code
def yX4_readSign : MethodName := ⟨RX4, "readSign", "(C)V"⟩
abbrev cX4_readNumber : ByteArray := prog_6_method_7_code
def yX4_readNumber : MethodName := ⟨RX4, "readNumber", "(II)I"⟩
abbrev cX4_lookAtReferences : ByteArray := prog_6_method_8_code
def yX4_lookAtReferences : MethodName := ⟨RX4, "lookAtReferences", "(LRefsSettle$Sheet;)V"⟩
abbrev cX4_kindOf : ByteArray := prog_6_method_9_code
def yX4_kindOf : MethodName := ⟨RX4, "kindOf", "(I)I"⟩
def RX5 : String := "RefsSettle$Rows"
def TX5 : u_T := fun k => match k with
  | 0 => ("RefsSettle$Rows", "lanes", "[I", true)
  | 1 => ("RefsSettle$Rows", "sizes", "[I", true)
  | _ => ("RefsSettle$Rows", "values", "[[I", true)
def tyX5 : Nat → FieldType := fun k => match k with
  | 0 => .array .int
  | 1 => .array .int
  | _ => .array (.array .int)
abbrev wsX50 : List Cond := u_ws RX5 TX5 3
theorem nmX5 : ∀ a, a < 3 → ∀ b, b < 3 → a ≠ b → (TX5 a).2.1 ≠ (TX5 b).2.1 := by decide +kernel
theorem tyX5_ok : ∀ k, k < 3 → parseFieldDescriptor (TX5 k).2.2.1 = some (tyX5 k) := by decide +kernel
abbrev cX5_init : ByteArray := prog_7_method_1_code
def yX5_init : MethodName := ⟨RX5, "<init>", "()V"⟩
abbrev cX5_isNumber : ByteArray := prog_7_method_2_code
def yX5_isNumber : MethodName := ⟨RX5, "isNumber", "(I)Z"⟩
abbrev cX5_isLane : ByteArray := prog_7_method_3_code
def yX5_isLane : MethodName := ⟨RX5, "isLane", "(I)Z"⟩
abbrev cX5_isMissing : ByteArray := prog_7_method_4_code
def yX5_isMissing : MethodName := ⟨RX5, "isMissing", "(I)Z"⟩
abbrev cX5_areOfOneLane : ByteArray := prog_7_method_5_code
def yX5_areOfOneLane : MethodName := ⟨RX5, "areOfOneLane", "(II)Z"⟩
abbrev cX5_hasPlaces : ByteArray := prog_7_method_6_code
def yX5_hasPlaces : MethodName := ⟨RX5, "hasPlaces", "(III)Z"⟩
abbrev cX5_make : ByteArray := prog_7_method_7_code
def yX5_make : MethodName := ⟨RX5, "make", "(III)V"⟩
abbrev cX5_put : ByteArray := prog_7_method_8_code
def yX5_put : MethodName := ⟨RX5, "put", "(III)I"⟩
abbrev cX5_carry : ByteArray := prog_7_method_9_code
def yX5_carry : MethodName := ⟨RX5, "carry", "(IIIII)V"⟩
abbrev cX5_lose : ByteArray := prog_7_method_10_code
def yX5_lose : MethodName := ⟨RX5, "lose", "(I)I"⟩
abbrev cX5_present : ByteArray := prog_7_method_11_code
def yX5_present : MethodName := ⟨RX5, "present", "()I"⟩
def RX6 : String := "RefsSettle$Settling"
def TX6 : u_T := fun k => match k with
  | 0 => ("RefsSettle$Settling", "outline", "LRefsSettle$Outline;", true)
  | 1 => ("RefsSettle$Settling", "ahead", "[[I", true)
  | 2 => ("RefsSettle$Settling", "kept", "I", false)
  | 3 => ("RefsSettle$Settling", "rounds", "I", false)
  | 4 => ("RefsSettle$Settling", "freezes", "I", false)
  | 5 => ("RefsSettle$Settling", "firstRing", "I", false)
  | _ => ("RefsSettle$Settling", "atRest", "Z", false)
def tyX6 : Nat → FieldType := fun k => match k with
  | 0 => .object "RefsSettle$Outline"
  | 1 => .array (.array .int)
  | 2 => .int
  | 3 => .int
  | 4 => .int
  | 5 => .int
  | _ => .boolean
abbrev wsX60 : List Cond := u_ws RX6 TX6 7
theorem nmX6 : ∀ a, a < 7 → ∀ b, b < 7 → a ≠ b → (TX6 a).2.1 ≠ (TX6 b).2.1 := by decide +kernel
theorem tyX6_ok : ∀ k, k < 7 → parseFieldDescriptor (TX6 k).2.2.1 = some (tyX6 k) := by decide +kernel
abbrev cX6_init : ByteArray := prog_8_method_1_code
def yX6_init : MethodName := ⟨RX6, "<init>", "()V"⟩
abbrev cX6_outlined : ByteArray := prog_8_method_2_code
def yX6_outlined : MethodName := ⟨RX6, "outlined", "(LRefsSettle$Sheet;)LRefsSettle$Outline;"⟩
abbrev cX6_goRound : ByteArray := prog_8_method_3_code
def yX6_goRound : MethodName := ⟨RX6, "goRound", "(LRefsSettle$Sheet;)I"⟩
abbrev cX6_bringToRest : ByteArray := prog_8_method_4_code
def yX6_bringToRest : MethodName := ⟨RX6, "bringToRest", "(LRefsSettle$Sheet;Z)V"⟩
abbrev cX6_keep : ByteArray := prog_8_method_5_code
def yX6_keep : MethodName := ⟨RX6, "keep", "(LRefsSettle$Sheet;)V"⟩
abbrev cX6_ringSince : ByteArray := prog_8_method_6_code
def yX6_ringSince : MethodName := ⟨RX6, "ringSince", "(LRefsSettle$Sheet;)I"⟩
abbrev cX6_freezeSince : ByteArray := prog_8_method_7_code
def yX6_freezeSince : MethodName := ⟨RX6, "freezeSince", "(LRefsSettle$Sheet;I)V"⟩
abbrev cX6_freezeIfRestless : ByteArray := prog_8_method_8_code
def yX6_freezeIfRestless : MethodName := ⟨RX6, "freezeIfRestless", "(LRefsSettle$Sheet;II)V"⟩
abbrev cX6_isAtRest : ByteArray := prog_8_method_9_code
def yX6_isAtRest : MethodName := ⟨RX6, "isAtRest", "(LRefsSettle$Sheet;)Z"⟩
abbrev cX6_areSame : ByteArray := prog_8_method_10_code
def yX6_areSame : MethodName := ⟨RX6, "areSame", "(LRefsSettle$Sheet;[I)Z"⟩
def RX7 : String := "RefsSettle$Sheet"
def TX7 : u_T := fun k => match k with
  | 0 => ("RefsSettle$Sheet", "count", "I", false)
  | 1 => ("RefsSettle$Sheet", "width", "I", false)
  | 2 => ("RefsSettle$Sheet", "lines", "I", false)
  | 3 => ("RefsSettle$Sheet", "first", "I", false)
  | 4 => ("RefsSettle$Sheet", "rounds", "I", false)
  | 5 => ("RefsSettle$Sheet", "kinds", "[I", true)
  | 6 => ("RefsSettle$Sheet", "numbers", "[I", true)
  | 7 => ("RefsSettle$Sheet", "guesses", "[I", true)
  | _ => ("RefsSettle$Sheet", "frozen", "[I", true)
def tyX7 : Nat → FieldType := fun k => match k with
  | 0 => .int
  | 1 => .int
  | 2 => .int
  | 3 => .int
  | 4 => .int
  | 5 => .array .int
  | 6 => .array .int
  | 7 => .array .int
  | _ => .array .int
abbrev wsX70 : List Cond := u_ws RX7 TX7 9
theorem nmX7 : ∀ a, a < 9 → ∀ b, b < 9 → a ≠ b → (TX7 a).2.1 ≠ (TX7 b).2.1 := by decide +kernel
theorem tyX7_ok : ∀ k, k < 9 → parseFieldDescriptor (TX7 k).2.2.1 = some (tyX7 k) := by decide +kernel
abbrev cX7_init : ByteArray := prog_9_method_1_code
def yX7_init : MethodName := ⟨RX7, "<init>", "()V"⟩
abbrev cX7_takeFrom : ByteArray := prog_9_method_2_code
def yX7_takeFrom : MethodName := ⟨RX7, "takeFrom", "(LRefsSettle$Sheet;)V"⟩
abbrev cX7_beginAnew : ByteArray := prog_9_method_3_code
def yX7_beginAnew : MethodName := ⟨RX7, "beginAnew", "()V"⟩
abbrev cX7_holds : ByteArray := prog_9_method_4_code
def yX7_holds : MethodName := ⟨RX7, "holds", "(I)Z"⟩
abbrev cX7_isReference : ByteArray := prog_9_method_5_code
def yX7_isReference : MethodName := ⟨RX7, "isReference", "(I)Z"⟩
abbrev cX7_isOfKind : ByteArray := prog_9_method_6_code
def yX7_isOfKind : MethodName := ⟨RX7, "isOfKind", "(II)Z"⟩
abbrev cX7_mayBeNumber : ByteArray := prog_9_method_7_code
def yX7_mayBeNumber : MethodName := ⟨RX7, "mayBeNumber", "(II)Z"⟩
abbrev cX7_wideBy : ByteArray := prog_9_method_8_code
def yX7_wideBy : MethodName := ⟨RX7, "wideBy", "([II)I"⟩
abbrev cX7_signOf : ByteArray := prog_9_method_9_code
def yX7_signOf : MethodName := ⟨RX7, "signOf", "(II)I"⟩
abbrev cX7_frozenBits : ByteArray := prog_9_method_10_code
def yX7_frozenBits : MethodName := ⟨RX7, "frozenBits", "()I"⟩
abbrev cX7_lastGuess : ByteArray := prog_9_method_11_code
def yX7_lastGuess : MethodName := ⟨RX7, "lastGuess", "()I"⟩
abbrev cX7_signsOf : ByteArray := prog_9_method_12_code
def yX7_signsOf : MethodName := ⟨RX7, "signsOf", "(II)I"⟩
abbrev cX7_appendRoman : ByteArray := prog_9_method_13_code
def yX7_appendRoman : MethodName := ⟨RX7, "appendRoman", "(Ljava/lang/StringBuilder;ICCC)V"⟩
def RX8 : String := "RefsSettle"
def TX8 : u_T := fun k => match k with
  | 0 => ("RefsSettle", "rows", "LRefsSettle$Rows;", true)
  | 1 => ("RefsSettle", "tape", "[I", true)
  | 2 => ("RefsSettle", "bytes", "I", false)
  | 3 => ("RefsSettle", "reader", "LRefsSettle$Reader;", true)
  | 4 => ("RefsSettle", "live", "LRefsSettle$Sheet;", true)
  | 5 => ("RefsSettle", "trial", "LRefsSettle$Sheet;", true)
  | 6 => ("RefsSettle", "settling", "LRefsSettle$Settling;", true)
  | 7 => ("RefsSettle", "foretelling", "LRefsSettle$Foretelling;", true)
  | 8 => ("RefsSettle", "past", "LRefsSettle$Past;", true)
  | 9 => ("RefsSettle", "images", "[LRefsSettle$Sheet;", true)
  | 10 => ("RefsSettle", "asking", "LRefsSettle$Asking;", true)
  | 11 => ("RefsSettle", "latestFault", "I", false)
  | _ => ("RefsSettle", "finding", "I", false)
def tyX8 : Nat → FieldType := fun k => match k with
  | 0 => .object "RefsSettle$Rows"
  | 1 => .array .int
  | 2 => .int
  | 3 => .object "RefsSettle$Reader"
  | 4 => .object "RefsSettle$Sheet"
  | 5 => .object "RefsSettle$Sheet"
  | 6 => .object "RefsSettle$Settling"
  | 7 => .object "RefsSettle$Foretelling"
  | 8 => .object "RefsSettle$Past"
  | 9 => .array (.object "RefsSettle$Sheet")
  | 10 => .object "RefsSettle$Asking"
  | 11 => .int
  | _ => .int
abbrev wsX80 : List Cond := u_ws RX8 TX8 13
theorem nmX8 : ∀ a, a < 13 → ∀ b, b < 13 → a ≠ b → (TX8 a).2.1 ≠ (TX8 b).2.1 := by decide +kernel
theorem tyX8_ok : ∀ k, k < 13 → parseFieldDescriptor (TX8 k).2.2.1 = some (tyX8 k) := by decide +kernel
abbrev cX8_init : ByteArray := prog_1_method_1_code
def yX8_init : MethodName := ⟨RX8, "<init>", "()V"⟩
abbrev cX8_row : ByteArray := prog_1_method_2_code
def yX8_row : MethodName := ⟨RX8, "row", "(III)I"⟩
abbrev cX8_set : ByteArray := prog_1_method_3_code
def yX8_set : MethodName := ⟨RX8, "set", "(III)I"⟩
abbrev cX8_copy : ByteArray := prog_1_method_4_code
def yX8_copy : MethodName := ⟨RX8, "copy", "(IIIII)I"⟩
abbrev cX8_drop : ByteArray := prog_1_method_5_code
def yX8_drop : MethodName := ⟨RX8, "drop", "(I)I"⟩
abbrev cX8_feed : ByteArray := prog_1_method_6_code
def yX8_feed : MethodName := ⟨RX8, "feed", "(I)I"⟩
abbrev cX8_sheet : ByteArray := prog_1_method_7_code
def yX8_sheet : MethodName := ⟨RX8, "sheet", "()I"⟩
abbrev cX8_fault : ByteArray := prog_1_method_8_code
def yX8_fault : MethodName := ⟨RX8, "fault", "()I"⟩
abbrev cX8_round : ByteArray := prog_1_method_9_code
def yX8_round : MethodName := ⟨RX8, "round", "()I"⟩
abbrev cX8_settle : ByteArray := prog_1_method_10_code
def yX8_settle : MethodName := ⟨RX8, "settle", "()I"⟩
abbrev cX8_number : ByteArray := prog_1_method_11_code
def yX8_number : MethodName := ⟨RX8, "number", "(II)I"⟩
abbrev cX8_rule : ByteArray := prog_1_method_12_code
def yX8_rule : MethodName := ⟨RX8, "rule", "(II)I"⟩
abbrev cX8_anew : ByteArray := prog_1_method_13_code
def yX8_anew : MethodName := ⟨RX8, "anew", "()I"⟩
abbrev cX8_undo : ByteArray := prog_1_method_14_code
def yX8_undo : MethodName := ⟨RX8, "undo", "()I"⟩
abbrev cX8_item : ByteArray := prog_1_method_15_code
def yX8_item : MethodName := ⟨RX8, "item", "(II)I"⟩
abbrev cX8_print : ByteArray := prog_1_method_16_code
def yX8_print : MethodName := ⟨RX8, "print", "(II)I"⟩
abbrev cX8_behind : ByteArray := prog_1_method_17_code
def yX8_behind : MethodName := ⟨RX8, "behind", "(II)I"⟩
abbrev cX8_lies : ByteArray := prog_1_method_18_code
def yX8_lies : MethodName := ⟨RX8, "lies", "()I"⟩
abbrev cX8_settled : ByteArray := prog_1_method_19_code
def yX8_settled : MethodName := ⟨RX8, "settled", "(I)I"⟩
abbrev cX8_ends : ByteArray := prog_1_method_20_code
def yX8_ends : MethodName := ⟨RX8, "ends", "(I)I"⟩
abbrev cX8_moves : ByteArray := prog_1_method_21_code
def yX8_moves : MethodName := ⟨RX8, "moves", "(I)I"⟩
abbrev cX8_room : ByteArray := prog_1_method_22_code
def yX8_room : MethodName := ⟨RX8, "room", "(I)I"⟩
abbrev cX8_restless : ByteArray := prog_1_method_23_code
def yX8_restless : MethodName := ⟨RX8, "restless", "()I"⟩
abbrev cX8_fits : ByteArray := prog_1_method_24_code
def yX8_fits : MethodName := ⟨RX8, "fits", "(IIIII)I"⟩
abbrev cX8_chance : ByteArray := prog_1_method_25_code
def yX8_chance : MethodName := ⟨RX8, "chance", "(II)J"⟩
abbrev cX8_drawn : ByteArray := prog_1_method_26_code
def yX8_drawn : MethodName := ⟨RX8, "drawn", "(III)I"⟩
abbrev cX8_image : ByteArray := prog_1_method_27_code
def yX8_image : MethodName := ⟨RX8, "image", "(I)I"⟩
abbrev cX8_restore : ByteArray := prog_1_method_28_code
def yX8_restore : MethodName := ⟨RX8, "restore", "(I)I"⟩
abbrev cX8_kind : ByteArray := prog_1_method_29_code
def yX8_kind : MethodName := ⟨RX8, "kind", "(I)I"⟩
abbrev cX8_as : ByteArray := prog_1_method_30_code
def yX8_as : MethodName := ⟨RX8, "as", "(II)I"⟩
abbrev cX8_ask : ByteArray := prog_1_method_31_code
def yX8_ask : MethodName := ⟨RX8, "ask", "(II)I"⟩
abbrev cX8_trace : ByteArray := prog_1_method_32_code
def yX8_trace : MethodName := ⟨RX8, "trace", "(I)I"⟩
abbrev cX8_count : ByteArray := prog_1_method_33_code
def yX8_count : MethodName := ⟨RX8, "count", "(I)I"⟩
abbrev cX8_status : ByteArray := prog_1_method_34_code
def yX8_status : MethodName := ⟨RX8, "status", "()I"⟩
abbrev cX8_isWithoutSheet : ByteArray := prog_1_method_35_code
def yX8_isWithoutSheet : MethodName := ⟨RX8, "isWithoutSheet", "()Z"⟩
abbrev cX8_found : ByteArray := prog_1_method_36_code
def yX8_found : MethodName := ⟨RX8, "found", "(I)I"⟩
abbrev cX8_sound : ByteArray := prog_1_method_37_code
def yX8_sound : MethodName := ⟨RX8, "sound", "(I)I"⟩
abbrev cX8_changeWidth : ByteArray := prog_1_method_38_code
def yX8_changeWidth : MethodName := ⟨RX8, "changeWidth", "(I)I"⟩
abbrev cX8_changeLines : ByteArray := prog_1_method_39_code
def yX8_changeLines : MethodName := ⟨RX8, "changeLines", "(I)I"⟩
abbrev cX8_changeFirst : ByteArray := prog_1_method_40_code
def yX8_changeFirst : MethodName := ⟨RX8, "changeFirst", "(I)I"⟩
abbrev cX8_greatestCommon : ByteArray := prog_1_method_41_code
def yX8_greatestCommon : MethodName := ⟨RX8, "greatestCommon", "(JJ)J"⟩
def RX9 : String := "RefsSettleModel"
def TX9 : u_T := fun k => match k with
  | 0 => ("RefsSettleModel", "lane", "[I", true)
  | 1 => ("RefsSettleModel", "many", "[I", true)
  | 2 => ("RefsSettleModel", "items", "[I", true)
  | 3 => ("RefsSettleModel", "spare", "[I", true)
  | 4 => ("RefsSettleModel", "status", "I", false)
  | 5 => ("RefsSettleModel", "tape", "[I", true)
  | 6 => ("RefsSettleModel", "taped", "I", false)
  | 7 => ("RefsSettleModel", "faultKind", "I", false)
  | 8 => ("RefsSettleModel", "faultPlace", "I", false)
  | 9 => ("RefsSettleModel", "at", "I", false)
  | 10 => ("RefsSettleModel", "start", "I", false)
  | 11 => ("RefsSettleModel", "token", "I", false)
  | 12 => ("RefsSettleModel", "value", "I", false)
  | 13 => ("RefsSettleModel", "now", "[I", true)
  | 14 => ("RefsSettleModel", "draft", "[I", true)
  | 15 => ("RefsSettleModel", "tried", "[I", true)
  | 16 => ("RefsSettleModel", "past", "[I", true)
  | 17 => ("RefsSettleModel", "acts", "I", false)
  | 18 => ("RefsSettleModel", "images", "[I", true)
  | 19 => ("RefsSettleModel", "kept", "[Z", true)
  | 20 => ("RefsSettleModel", "places", "[I", true)
  | 21 => ("RefsSettleModel", "before", "[I", true)
  | 22 => ("RefsSettleModel", "guesses", "[I", true)
  | 23 => ("RefsSettleModel", "rounds", "I", false)
  | 24 => ("RefsSettleModel", "freezes", "I", false)
  | 25 => ("RefsSettleModel", "ring", "I", false)
  | 26 => ("RefsSettleModel", "trace", "[I", true)
  | _ => ("RefsSettleModel", "traced", "I", false)
def tyX9 : Nat → FieldType := fun k => match k with
  | 0 => .array .int
  | 1 => .array .int
  | 2 => .array .int
  | 3 => .array .int
  | 4 => .int
  | 5 => .array .int
  | 6 => .int
  | 7 => .int
  | 8 => .int
  | 9 => .int
  | 10 => .int
  | 11 => .int
  | 12 => .int
  | 13 => .array .int
  | 14 => .array .int
  | 15 => .array .int
  | 16 => .array .int
  | 17 => .int
  | 18 => .array .int
  | 19 => .array .boolean
  | 20 => .array .int
  | 21 => .array .int
  | 22 => .array .int
  | 23 => .int
  | 24 => .int
  | 25 => .int
  | 26 => .array .int
  | _ => .int
abbrev wsX90 : List Cond := u_ws RX9 TX9 28
theorem nmX9 : ∀ a, a < 28 → ∀ b, b < 28 → a ≠ b → (TX9 a).2.1 ≠ (TX9 b).2.1 := by decide +kernel
theorem tyX9_ok : ∀ k, k < 28 → parseFieldDescriptor (TX9 k).2.2.1 = some (tyX9 k) := by decide +kernel
abbrev cX9_init : ByteArray := prog_11_method_1_code
def yX9_init : MethodName := ⟨RX9, "<init>", "()V"⟩
abbrev cX9_in : ByteArray := prog_11_method_3_code
def yX9_in : MethodName := ⟨RX9, "in", "(III)Z"⟩
abbrev cX9_has : ByteArray := prog_11_method_4_code
def yX9_has : MethodName := ⟨RX9, "has", "(II)Z"⟩
abbrev cX9_found : ByteArray := prog_11_method_5_code
def yX9_found : MethodName := ⟨RX9, "found", "(I)I"⟩
abbrev cX9_well : ByteArray := prog_11_method_6_code
def yX9_well : MethodName := ⟨RX9, "well", "(I)I"⟩
abbrev cX9_copies : ByteArray := prog_11_method_7_code
def yX9_copies : MethodName := ⟨RX9, "copies", "([II[II)V"⟩
abbrev cX9_isRow : ByteArray := prog_11_method_8_code
def yX9_isRow : MethodName := ⟨RX9, "isRow", "(I)Z"⟩
abbrev cX9_isMissing : ByteArray := prog_11_method_9_code
def yX9_isMissing : MethodName := ⟨RX9, "isMissing", "(I)Z"⟩
abbrev cX9_lowest : ByteArray := prog_11_method_10_code
def yX9_lowest : MethodName := ⟨RX9, "lowest", "(II)I"⟩
abbrev cX9_row : ByteArray := prog_11_method_11_code
def yX9_row : MethodName := ⟨RX9, "row", "(III)I"⟩
abbrev cX9_set : ByteArray := prog_11_method_12_code
def yX9_set : MethodName := ⟨RX9, "set", "(III)I"⟩
abbrev cX9_isPart : ByteArray := prog_11_method_13_code
def yX9_isPart : MethodName := ⟨RX9, "isPart", "(III)Z"⟩
abbrev cX9_copy : ByteArray := prog_11_method_14_code
def yX9_copy : MethodName := ⟨RX9, "copy", "(IIIII)I"⟩
abbrev cX9_drop : ByteArray := prog_11_method_15_code
def yX9_drop : MethodName := ⟨RX9, "drop", "(I)I"⟩
abbrev cX9_feed : ByteArray := prog_11_method_16_code
def yX9_feed : MethodName := ⟨RX9, "feed", "(I)I"⟩
abbrev cX9_byteAt : ByteArray := prog_11_method_17_code
def yX9_byteAt : MethodName := ⟨RX9, "byteAt", "(I)I"⟩
abbrev cX9_advances : ByteArray := prog_11_method_18_code
def yX9_advances : MethodName := ⟨RX9, "advances", "()V"⟩
abbrev cX9_isWell : ByteArray := prog_11_method_19_code
def yX9_isWell : MethodName := ⟨RX9, "isWell", "()Z"⟩
abbrev cX9_takes : ByteArray := prog_11_method_20_code
def yX9_takes : MethodName := ⟨RX9, "takes", "(ZI)I"⟩
abbrev cX9_figure : ByteArray := prog_11_method_21_code
def yX9_figure : MethodName := ⟨RX9, "figure", "(II)I"⟩
abbrev cX9_kindOf : ByteArray := prog_11_method_22_code
def yX9_kindOf : MethodName := ⟨RX9, "kindOf", "(I)I"⟩
abbrev cX9_follows : ByteArray := prog_11_method_23_code
def yX9_follows : MethodName := ⟨RX9, "follows", "(II)I"⟩
abbrev cX9_must : ByteArray := prog_11_method_24_code
def yX9_must : MethodName := ⟨RX9, "must", "(ZI)V"⟩
abbrev cX9_readsItem : ByteArray := prog_11_method_25_code
def yX9_readsItem : MethodName := ⟨RX9, "readsItem", "()V"⟩
abbrev cX9_areThere : ByteArray := prog_11_method_26_code
def yX9_areThere : MethodName := ⟨RX9, "areThere", "([I)Z"⟩
abbrev cX9_sheet : ByteArray := prog_11_method_27_code
def yX9_sheet : MethodName := ⟨RX9, "sheet", "()I"⟩
abbrev cX9_fault : ByteArray := prog_11_method_28_code
def yX9_fault : MethodName := ⟨RX9, "fault", "()I"⟩
abbrev cX9_isSheet : ByteArray := prog_11_method_29_code
def yX9_isSheet : MethodName := ⟨RX9, "isSheet", "()Z"⟩
abbrev cX9_isItem : ByteArray := prog_11_method_30_code
def yX9_isItem : MethodName := ⟨RX9, "isItem", "(I)Z"⟩
abbrev cX9_romanSigns : ByteArray := prog_11_method_31_code
def yX9_romanSigns : MethodName := ⟨RX9, "romanSigns", "(I)I"⟩
abbrev cX9_signs : ByteArray := prog_11_method_32_code
def yX9_signs : MethodName := ⟨RX9, "signs", "(II)I"⟩
abbrev cX9_wide : ByteArray := prog_11_method_33_code
def yX9_wide : MethodName := ⟨RX9, "wide", "([II)I"⟩
abbrev cX9_setsOut : ByteArray := prog_11_method_34_code
def yX9_setsOut : MethodName := ⟨RX9, "setsOut", "([III)V"⟩
abbrev cX9_rounds : ByteArray := prog_11_method_35_code
def yX9_rounds : MethodName := ⟨RX9, "rounds", "([I)I"⟩
abbrev cX9_isSettled : ByteArray := prog_11_method_36_code
def yX9_isSettled : MethodName := ⟨RX9, "isSettled", "([I)Z"⟩
abbrev cX9_begins : ByteArray := prog_11_method_37_code
def yX9_begins : MethodName := ⟨RX9, "begins", "([I)V"⟩
abbrev cX9_keepsGuesses : ByteArray := prog_11_method_38_code
def yX9_keepsGuesses : MethodName := ⟨RX9, "keepsGuesses", "([II)V"⟩
abbrev cX9_areGuesses : ByteArray := prog_11_method_39_code
def yX9_areGuesses : MethodName := ⟨RX9, "areGuesses", "([II)Z"⟩
abbrev cX9_freezes : ByteArray := prog_11_method_40_code
def yX9_freezes : MethodName := ⟨RX9, "freezes", "([III)V"⟩
abbrev cX9_settles : ByteArray := prog_11_method_41_code
def yX9_settles : MethodName := ⟨RX9, "settles", "([I)V"⟩
abbrev cX9_notes : ByteArray := prog_11_method_42_code
def yX9_notes : MethodName := ⟨RX9, "notes", "()V"⟩
abbrev cX9_round : ByteArray := prog_11_method_43_code
def yX9_round : MethodName := ⟨RX9, "round", "()I"⟩
abbrev cX9_settle : ByteArray := prog_11_method_44_code
def yX9_settle : MethodName := ⟨RX9, "settle", "()I"⟩
abbrev cX9_isNumber : ByteArray := prog_11_method_45_code
def yX9_isNumber : MethodName := ⟨RX9, "isNumber", "(II)Z"⟩
abbrev cX9_number : ByteArray := prog_11_method_46_code
def yX9_number : MethodName := ⟨RX9, "number", "(II)I"⟩
abbrev cX9_rule : ByteArray := prog_11_method_47_code
def yX9_rule : MethodName := ⟨RX9, "rule", "(II)I"⟩
abbrev cX9_frozenOnes : ByteArray := prog_11_method_48_code
def yX9_frozenOnes : MethodName := ⟨RX9, "frozenOnes", "([I)I"⟩
abbrev cX9_ones : ByteArray := prog_11_method_49_code
def yX9_ones : MethodName := ⟨RX9, "ones", "(I)I"⟩
abbrev cX9_anew : ByteArray := prog_11_method_50_code
def yX9_anew : MethodName := ⟨RX9, "anew", "()I"⟩
abbrev cX9_undo : ByteArray := prog_11_method_51_code
def yX9_undo : MethodName := ⟨RX9, "undo", "()I"⟩
abbrev cX9_item : ByteArray := prog_11_method_52_code
def yX9_item : MethodName := ⟨RX9, "item", "(II)I"⟩
abbrev cX9_romanSign : ByteArray := prog_11_method_53_code
def yX9_romanSign : MethodName := ⟨RX9, "romanSign", "(IIIII)I"⟩
abbrev cX9_print : ByteArray := prog_11_method_54_code
def yX9_print : MethodName := ⟨RX9, "print", "(II)I"⟩
abbrev cX9_behind : ByteArray := prog_11_method_55_code
def yX9_behind : MethodName := ⟨RX9, "behind", "(II)I"⟩
abbrev cX9_lies : ByteArray := prog_11_method_56_code
def yX9_lies : MethodName := ⟨RX9, "lies", "()I"⟩
abbrev cX9_settled : ByteArray := prog_11_method_57_code
def yX9_settled : MethodName := ⟨RX9, "settled", "(I)I"⟩
abbrev cX9_last : ByteArray := prog_11_method_58_code
def yX9_last : MethodName := ⟨RX9, "last", "([I)I"⟩
abbrev cX9_ends : ByteArray := prog_11_method_59_code
def yX9_ends : MethodName := ⟨RX9, "ends", "(I)I"⟩
abbrev cX9_moves : ByteArray := prog_11_method_60_code
def yX9_moves : MethodName := ⟨RX9, "moves", "(I)I"⟩
abbrev cX9_lastBy : ByteArray := prog_11_method_61_code
def yX9_lastBy : MethodName := ⟨RX9, "lastBy", "(II)I"⟩
abbrev cX9_room : ByteArray := prog_11_method_62_code
def yX9_room : MethodName := ⟨RX9, "room", "(I)I"⟩
abbrev cX9_restless : ByteArray := prog_11_method_63_code
def yX9_restless : MethodName := ⟨RX9, "restless", "()I"⟩
abbrev cX9_isSeen : ByteArray := prog_11_method_64_code
def yX9_isSeen : MethodName := ⟨RX9, "isSeen", "(IIIII)Z"⟩
abbrev cX9_fits : ByteArray := prog_11_method_65_code
def yX9_fits : MethodName := ⟨RX9, "fits", "(IIIII)I"⟩
abbrev cX9_chance : ByteArray := prog_11_method_66_code
def yX9_chance : MethodName := ⟨RX9, "chance", "(II)J"⟩
abbrev cX9_drawn : ByteArray := prog_11_method_67_code
def yX9_drawn : MethodName := ⟨RX9, "drawn", "(III)I"⟩
abbrev cX9_image : ByteArray := prog_11_method_68_code
def yX9_image : MethodName := ⟨RX9, "image", "(I)I"⟩
abbrev cX9_restore : ByteArray := prog_11_method_69_code
def yX9_restore : MethodName := ⟨RX9, "restore", "(I)I"⟩
abbrev cX9_kindIn : ByteArray := prog_11_method_70_code
def yX9_kindIn : MethodName := ⟨RX9, "kindIn", "(I)I"⟩
abbrev cX9_kind : ByteArray := prog_11_method_71_code
def yX9_kind : MethodName := ⟨RX9, "kind", "(I)I"⟩
abbrev cX9_as : ByteArray := prog_11_method_72_code
def yX9_as : MethodName := ⟨RX9, "as", "(II)I"⟩
abbrev cX9_traces : ByteArray := prog_11_method_73_code
def yX9_traces : MethodName := ⟨RX9, "traces", "(I)V"⟩
abbrev cX9_referenceMark : ByteArray := prog_11_method_74_code
def yX9_referenceMark : MethodName := ⟨RX9, "referenceMark", "(I)I"⟩
abbrev cX9_wordSize : ByteArray := prog_11_method_75_code
def yX9_wordSize : MethodName := ⟨RX9, "wordSize", "(I)I"⟩
abbrev cX9_referenceSize : ByteArray := prog_11_method_76_code
def yX9_referenceSize : MethodName := ⟨RX9, "referenceSize", "(I)I"⟩
abbrev cX9_wordMark : ByteArray := prog_11_method_77_code
def yX9_wordMark : MethodName := ⟨RX9, "wordMark", "(I)I"⟩
abbrev cX9_ask : ByteArray := prog_11_method_78_code
def yX9_ask : MethodName := ⟨RX9, "ask", "(II)I"⟩
abbrev cX9_trace : ByteArray := prog_11_method_79_code
def yX9_trace : MethodName := ⟨RX9, "trace", "(I)I"⟩
abbrev cX9_count : ByteArray := prog_11_method_80_code
def yX9_count : MethodName := ⟨RX9, "count", "(I)I"⟩
abbrev cX9_status : ByteArray := prog_11_method_81_code
def yX9_status : MethodName := ⟨RX9, "status", "()I"⟩
def RJx145de : String := "java/io/Serializable"
def TJx145de : u_T := fun k => match k with
  | _ => ("", "", "", false)
def tyJx145de : Nat → FieldType := fun k => match k with
  | _ => .int
abbrev wsJx145de0 : List Cond := u_ws RJx145de TJx145de 0
theorem nmJx145de : ∀ a, a < 0 → ∀ b, b < 0 → a ≠ b → (TJx145de a).2.1 ≠ (TJx145de b).2.1 := by decide +kernel
theorem tyJx145de_ok : ∀ k, k < 0 → parseFieldDescriptor (TJx145de k).2.2.1 = some (tyJx145de k) := by decide +kernel
def RJ5 : String := "java/lang/AbstractStringBuilder"
def TJ5 : u_T := fun k => match k with
  | _ => ("", "", "", false)
def tyJ5 : Nat → FieldType := fun k => match k with
  | _ => .int
abbrev wsJ50 : List Cond := u_ws RJ5 TJ5 0
theorem nmJ5 : ∀ a, a < 0 → ∀ b, b < 0 → a ≠ b → (TJ5 a).2.1 ≠ (TJ5 b).2.1 := by decide +kernel
theorem tyJ5_ok : ∀ k, k < 0 → parseFieldDescriptor (TJ5 k).2.2.1 = some (tyJ5 k) := by decide +kernel
abbrev cJ5_init_d00df : ByteArray := prog_12_method_2_code
def yJ5_init_d00df : MethodName := ⟨RJ5, "<init>", "(I)V"⟩
abbrev cJ5_length_8abf5 : ByteArray := prog_12_method_6_code
def yJ5_length_8abf5 : MethodName := ⟨RJ5, "length", "()I"⟩
abbrev cJ5_ensureCapacityInternal_d00df : ByteArray := prog_12_method_9_code
def yJ5_ensureCapacityInternal_d00df : MethodName := ⟨RJ5, "ensureCapacityInternal", "(I)V"⟩
abbrev cJ5_newCapacity_0f7a4 : ByteArray := prog_12_method_10_code
def yJ5_newCapacity_0f7a4 : MethodName := ⟨RJ5, "newCapacity", "(I)I"⟩
abbrev cJ5_inflate_da8c8 : ByteArray := prog_12_method_11_code
def yJ5_inflate_da8c8 : MethodName := ⟨RJ5, "inflate", "()V"⟩
abbrev cJ5_charAt_5068e : ByteArray := prog_12_method_14_code
def yJ5_charAt_5068e : MethodName := ⟨RJ5, "charAt", "(I)C"⟩
abbrev cJ5_append_3fe6f : ByteArray := prog_12_method_31_code
def yJ5_append_3fe6f : MethodName := ⟨RJ5, "append", "(C)Ljava/lang/AbstractStringBuilder;"⟩
abbrev cJ5_append_c97b9 : ByteArray := prog_12_method_32_code
def yJ5_append_c97b9 : MethodName := ⟨RJ5, "append", "(I)Ljava/lang/AbstractStringBuilder;"⟩
abbrev cJ5_isLatin1_aae02 : ByteArray := prog_12_method_68_code
def yJ5_isLatin1_aae02 : MethodName := ⟨RJ5, "isLatin1", "()Z"⟩
def RJx2cfe8 : String := "java/lang/Appendable"
def TJx2cfe8 : u_T := fun k => match k with
  | _ => ("", "", "", false)
def tyJx2cfe8 : Nat → FieldType := fun k => match k with
  | _ => .int
abbrev wsJx2cfe80 : List Cond := u_ws RJx2cfe8 TJx2cfe8 0
theorem nmJx2cfe8 : ∀ a, a < 0 → ∀ b, b < 0 → a ≠ b → (TJx2cfe8 a).2.1 ≠ (TJx2cfe8 b).2.1 := by decide +kernel
theorem tyJx2cfe8_ok : ∀ k, k < 0 → parseFieldDescriptor (TJx2cfe8 k).2.2.1 = some (tyJx2cfe8 k) := by decide +kernel
def RJx9f9b0 : String := "java/lang/CharSequence"
def TJx9f9b0 : u_T := fun k => match k with
  | _ => ("", "", "", false)
def tyJx9f9b0 : Nat → FieldType := fun k => match k with
  | _ => .int
abbrev wsJx9f9b00 : List Cond := u_ws RJx9f9b0 TJx9f9b0 0
theorem nmJx9f9b0 : ∀ a, a < 0 → ∀ b, b < 0 → a ≠ b → (TJx9f9b0 a).2.1 ≠ (TJx9f9b0 b).2.1 := by decide +kernel
theorem tyJx9f9b0_ok : ∀ k, k < 0 → parseFieldDescriptor (TJx9f9b0 k).2.2.1 = some (tyJx9f9b0 k) := by decide +kernel
def RJx8e188 : String := "java/lang/Cloneable"
def TJx8e188 : u_T := fun k => match k with
  | _ => ("", "", "", false)
def tyJx8e188 : Nat → FieldType := fun k => match k with
  | _ => .int
abbrev wsJx8e1880 : List Cond := u_ws RJx8e188 TJx8e188 0
theorem nmJx8e188 : ∀ a, a < 0 → ∀ b, b < 0 → a ≠ b → (TJx8e188 a).2.1 ≠ (TJx8e188 b).2.1 := by decide +kernel
theorem tyJx8e188_ok : ∀ k, k < 0 → parseFieldDescriptor (TJx8e188 k).2.2.1 = some (tyJx8e188 k) := by decide +kernel
def RJxb160c : String := "java/lang/Comparable"
def TJxb160c : u_T := fun k => match k with
  | _ => ("", "", "", false)
def tyJxb160c : Nat → FieldType := fun k => match k with
  | _ => .int
abbrev wsJxb160c0 : List Cond := u_ws RJxb160c TJxb160c 0
theorem nmJxb160c : ∀ a, a < 0 → ∀ b, b < 0 → a ≠ b → (TJxb160c a).2.1 ≠ (TJxb160c b).2.1 := by decide +kernel
theorem tyJxb160c_ok : ∀ k, k < 0 → parseFieldDescriptor (TJxb160c k).2.2.1 = some (tyJxb160c k) := by decide +kernel
def RJ6 : String := "java/lang/Integer"
def TJ6 : u_T := fun k => match k with
  | _ => ("", "", "", false)
def tyJ6 : Nat → FieldType := fun k => match k with
  | _ => .int
abbrev wsJ60 : List Cond := u_ws RJ6 TJ6 0
theorem nmJ6 : ∀ a, a < 0 → ∀ b, b < 0 → a ≠ b → (TJ6 a).2.1 ≠ (TJ6 b).2.1 := by decide +kernel
theorem tyJ6_ok : ∀ k, k < 0 → parseFieldDescriptor (TJ6 k).2.2.1 = some (tyJ6 k) := by decide +kernel
abbrev cJ6_getChars_ba4f3 : ByteArray := prog_14_method_12_code
def yJ6_getChars_ba4f3 : MethodName := ⟨RJ6, "getChars", "(II[B)I"⟩
abbrev cJ6_stringSize_0f7a4 : ByteArray := prog_14_method_13_code
def yJ6_stringSize_0f7a4 : MethodName := ⟨RJ6, "stringSize", "(I)I"⟩
abbrev cJ6_bitCount_0f7a4 : ByteArray := prog_14_method_49_code
def yJ6_bitCount_0f7a4 : MethodName := ⟨RJ6, "bitCount", "(I)I"⟩
def RJ9 : String := "java/lang/Math"
def TJ9 : u_T := fun k => match k with
  | _ => ("", "", "", false)
def tyJ9 : Nat → FieldType := fun k => match k with
  | _ => .int
abbrev wsJ90 : List Cond := u_ws RJ9 TJ9 0
theorem nmJ9 : ∀ a, a < 0 → ∀ b, b < 0 → a ≠ b → (TJ9 a).2.1 ≠ (TJ9 b).2.1 := by decide +kernel
theorem tyJ9_ok : ∀ k, k < 0 → parseFieldDescriptor (TJ9 k).2.2.1 = some (tyJ9 k) := by decide +kernel
abbrev cJ9_max_7cf53 : ByteArray := prog_15_method_65_code
def yJ9_max_7cf53 : MethodName := ⟨RJ9, "max", "(II)I"⟩
abbrev cJ9_min_7cf53 : ByteArray := prog_15_method_69_code
def yJ9_min_7cf53 : MethodName := ⟨RJ9, "min", "(II)I"⟩
def RJxd2413 : String := "java/lang/Number"
def TJxd2413 : u_T := fun k => match k with
  | _ => ("", "", "", false)
def tyJxd2413 : Nat → FieldType := fun k => match k with
  | _ => .int
abbrev wsJxd24130 : List Cond := u_ws RJxd2413 TJxd2413 0
theorem nmJxd2413 : ∀ a, a < 0 → ∀ b, b < 0 → a ≠ b → (TJxd2413 a).2.1 ≠ (TJxd2413 b).2.1 := by decide +kernel
theorem tyJxd2413_ok : ∀ k, k < 0 → parseFieldDescriptor (TJxd2413 k).2.2.1 = some (tyJxd2413 k) := by decide +kernel
def RJ0 : String := "java/lang/String"
def TJ0 : u_T := fun k => match k with
  | _ => ("", "", "", false)
def tyJ0 : Nat → FieldType := fun k => match k with
  | _ => .int
abbrev wsJ00 : List Cond := u_ws RJ0 TJ0 0
theorem nmJ0 : ∀ a, a < 0 → ∀ b, b < 0 → a ≠ b → (TJ0 a).2.1 ≠ (TJ0 b).2.1 := by decide +kernel
theorem tyJ0_ok : ∀ k, k < 0 → parseFieldDescriptor (TJ0 k).2.2.1 = some (tyJ0 k) := by decide +kernel
abbrev cJ0_checkIndex_df160 : ByteArray := prog_17_method_155_code
def yJ0_checkIndex_df160 : MethodName := ⟨RJ0, "checkIndex", "(II)V"⟩
abbrev cJ0_checkBoundsOffCount_cabcc : ByteArray := prog_17_method_157_code
def yJ0_checkBoundsOffCount_cabcc : MethodName := ⟨RJ0, "checkBoundsOffCount", "(III)I"⟩
abbrev cJ0_checkBoundsBeginEnd_23922 : ByteArray := prog_17_method_158_code
def yJ0_checkBoundsBeginEnd_23922 : MethodName := ⟨RJ0, "checkBoundsBeginEnd", "(III)V"⟩
def RJ4 : String := "java/lang/StringBuilder"
def TJ4 : u_T := fun k => match k with
  | 0 => ("java/lang/AbstractStringBuilder", "value", "[B", false)
  | 1 => ("java/lang/AbstractStringBuilder", "coder", "B", false)
  | 2 => ("java/lang/AbstractStringBuilder", "maybeLatin1", "Z", false)
  | _ => ("java/lang/AbstractStringBuilder", "count", "I", false)
def tyJ4 : Nat → FieldType := fun k => match k with
  | 0 => .array .byte
  | 1 => .byte
  | 2 => .boolean
  | _ => .int
abbrev wsJ40 : List Cond := u_ws RJ4 TJ4 4
theorem nmJ4 : ∀ a, a < 4 → ∀ b, b < 4 → a ≠ b → (TJ4 a).2.1 ≠ (TJ4 b).2.1 := by decide +kernel
theorem tyJ4_ok : ∀ k, k < 4 → parseFieldDescriptor (TJ4 k).2.2.1 = some (tyJ4 k) := by decide +kernel
abbrev cJ4_init_da8c8 : ByteArray := prog_18_method_1_code
def yJ4_init_da8c8 : MethodName := ⟨RJ4, "<init>", "()V"⟩
abbrev cJ4_append_cf468 : ByteArray := prog_18_method_14_code
def yJ4_append_cf468 : MethodName := ⟨RJ4, "append", "(C)Ljava/lang/StringBuilder;"⟩
abbrev cJ4_append_bf812 : ByteArray := prog_18_method_15_code
def yJ4_append_bf812 : MethodName := ⟨RJ4, "append", "(I)Ljava/lang/StringBuilder;"⟩
abbrev cJ4_charAt_5068e : ByteArray := prog_18_method_88_code
def yJ4_charAt_5068e : MethodName := ⟨RJ4, "charAt", "(I)C"⟩
abbrev cJ4_length_8abf5 : ByteArray := prog_18_method_93_code
def yJ4_length_8abf5 : MethodName := ⟨RJ4, "length", "()I"⟩
def RJ1 : String := "java/lang/StringLatin1"
def TJ1 : u_T := fun k => match k with
  | _ => ("", "", "", false)
def tyJ1 : Nat → FieldType := fun k => match k with
  | _ => .int
abbrev wsJ10 : List Cond := u_ws RJ1 TJ1 0
theorem nmJ1 : ∀ a, a < 0 → ∀ b, b < 0 → a ≠ b → (TJ1 a).2.1 ≠ (TJ1 b).2.1 := by decide +kernel
theorem tyJ1_ok : ∀ k, k < 0 → parseFieldDescriptor (TJ1 k).2.2.1 = some (tyJ1 k) := by decide +kernel
abbrev cJ1_canEncode_fc78d : ByteArray := prog_19_method_3_code
def yJ1_canEncode_fc78d : MethodName := ⟨RJ1, "canEncode", "(C)Z"⟩
abbrev cJ1_inflate_0e8fd : ByteArray := prog_19_method_50_code
def yJ1_inflate_0e8fd : MethodName := ⟨RJ1, "inflate", "([BI[BII)V"⟩
def RJ2 : String := "java/lang/StringUTF16"
def TJ2 : u_T := fun k => match k with
  | _ => ("", "", "", false)
def tyJ2 : Nat → FieldType := fun k => match k with
  | _ => .int
abbrev wsJ20 : List Cond := u_ws RJ2 TJ2 0
theorem nmJ2 : ∀ a, a < 0 → ∀ b, b < 0 → a ≠ b → (TJ2 a).2.1 ≠ (TJ2 b).2.1 := by decide +kernel
theorem tyJ2_ok : ∀ k, k < 0 → parseFieldDescriptor (TJ2 k).2.2.1 = some (tyJ2 k) := by decide +kernel
abbrev cJ2_newBytesFor_77867 : ByteArray := prog_20_method_2_code
def yJ2_newBytesFor_77867 : MethodName := ⟨RJ2, "newBytesFor", "(I)[B"⟩
abbrev cJ2_newBytesLength_0f7a4 : ByteArray := prog_20_method_3_code
def yJ2_newBytesLength_0f7a4 : MethodName := ⟨RJ2, "newBytesLength", "(I)I"⟩
abbrev cJ2_putChar_b72d1 : ByteArray := prog_20_method_4_code
def yJ2_putChar_b72d1 : MethodName := ⟨RJ2, "putChar", "([BII)V"⟩
abbrev cJ2_getChar_3b067 : ByteArray := prog_20_method_5_code
def yJ2_getChar_3b067 : MethodName := ⟨RJ2, "getChar", "([BI)C"⟩
abbrev cJ2_length_9d52b : ByteArray := prog_20_method_6_code
def yJ2_length_9d52b : MethodName := ⟨RJ2, "length", "([B)I"⟩
abbrev cJ2_putCharSB_b72d1 : ByteArray := prog_20_method_71_code
def yJ2_putCharSB_b72d1 : MethodName := ⟨RJ2, "putCharSB", "([BII)V"⟩
abbrev cJ2_getChars_46870 : ByteArray := prog_20_method_77_code
def yJ2_getChars_46870 : MethodName := ⟨RJ2, "getChars", "(III[B)I"⟩
abbrev cJ2_inflate_0e8fd : ByteArray := prog_20_method_86_code
def yJ2_inflate_0e8fd : MethodName := ⟨RJ2, "inflate", "([BI[BII)V"⟩
abbrev cJ2_getChars_ba4f3 : ByteArray := prog_20_method_89_code
def yJ2_getChars_ba4f3 : MethodName := ⟨RJ2, "getChars", "(II[B)I"⟩
abbrev cJ2_checkIndex_2214a : ByteArray := prog_20_method_91_code
def yJ2_checkIndex_2214a : MethodName := ⟨RJ2, "checkIndex", "(I[B)V"⟩
abbrev cJ2_checkBoundsBeginEnd_d044e : ByteArray := prog_20_method_93_code
def yJ2_checkBoundsBeginEnd_d044e : MethodName := ⟨RJ2, "checkBoundsBeginEnd", "(II[B)V"⟩
abbrev cJ2_checkBoundsOffCount_d044e : ByteArray := prog_20_method_94_code
def yJ2_checkBoundsOffCount_d044e : MethodName := ⟨RJ2, "checkBoundsOffCount", "(II[B)V"⟩
def RJ10 : String := "java/lang/System"
def TJ10 : u_T := fun k => match k with
  | _ => ("", "", "", false)
def tyJ10 : Nat → FieldType := fun k => match k with
  | _ => .int
abbrev wsJ100 : List Cond := u_ws RJ10 TJ10 0
theorem nmJ10 : ∀ a, a < 0 → ∀ b, b < 0 → a ≠ b → (TJ10 a).2.1 ≠ (TJ10 b).2.1 := by decide +kernel
theorem tyJ10_ok : ∀ k, k < 0 → parseFieldDescriptor (TJ10 k).2.2.1 = some (tyJ10 k) := by decide +kernel
def RJxfd54e : String := "java/lang/constant/Constable"
def TJxfd54e : u_T := fun k => match k with
  | _ => ("", "", "", false)
def tyJxfd54e : Nat → FieldType := fun k => match k with
  | _ => .int
abbrev wsJxfd54e0 : List Cond := u_ws RJxfd54e TJxfd54e 0
theorem nmJxfd54e : ∀ a, a < 0 → ∀ b, b < 0 → a ≠ b → (TJxfd54e a).2.1 ≠ (TJxfd54e b).2.1 := by decide +kernel
theorem tyJxfd54e_ok : ∀ k, k < 0 → parseFieldDescriptor (TJxfd54e k).2.2.1 = some (tyJxfd54e k) := by decide +kernel
def RJx3cf43 : String := "java/lang/constant/ConstantDesc"
def TJx3cf43 : u_T := fun k => match k with
  | _ => ("", "", "", false)
def tyJx3cf43 : Nat → FieldType := fun k => match k with
  | _ => .int
abbrev wsJx3cf430 : List Cond := u_ws RJx3cf43 TJx3cf43 0
theorem nmJx3cf43 : ∀ a, a < 0 → ∀ b, b < 0 → a ≠ b → (TJx3cf43 a).2.1 ≠ (TJx3cf43 b).2.1 := by decide +kernel
theorem tyJx3cf43_ok : ∀ k, k < 0 → parseFieldDescriptor (TJx3cf43 k).2.2.1 = some (tyJx3cf43 k) := by decide +kernel
def RJ7 : String := "java/util/Arrays"
def TJ7 : u_T := fun k => match k with
  | _ => ("", "", "", false)
def tyJ7 : Nat → FieldType := fun k => match k with
  | _ => .int
abbrev wsJ70 : List Cond := u_ws RJ7 TJ7 0
theorem nmJ7 : ∀ a, a < 0 → ∀ b, b < 0 → a ≠ b → (TJ7 a).2.1 ≠ (TJ7 b).2.1 := by decide +kernel
theorem tyJ7_ok : ∀ k, k < 0 → parseFieldDescriptor (TJ7 k).2.2.1 = some (tyJ7 k) := by decide +kernel
abbrev cJ7_fill_53178 : ByteArray := prog_22_method_103_code
def yJ7_fill_53178 : MethodName := ⟨RJ7, "fill", "([II)V"⟩
abbrev cJ7_copyOf_9075b : ByteArray := prog_22_method_121_code
def yJ7_copyOf_9075b : MethodName := ⟨RJ7, "copyOf", "([BI)[B"⟩
def RJ8 : String := "jdk/internal/util/ArraysSupport"
def TJ8 : u_T := fun k => match k with
  | _ => ("", "", "", false)
def tyJ8 : Nat → FieldType := fun k => match k with
  | _ => .int
abbrev wsJ80 : List Cond := u_ws RJ8 TJ8 0
theorem nmJ8 : ∀ a, a < 0 → ∀ b, b < 0 → a ≠ b → (TJ8 a).2.1 ≠ (TJ8 b).2.1 := by decide +kernel
theorem tyJ8_ok : ∀ k, k < 0 → parseFieldDescriptor (TJ8 k).2.2.1 = some (tyJ8 k) := by decide +kernel
abbrev cJ8_newLength_cabcc : ByteArray := prog_23_method_27_code
def yJ8_newLength_cabcc : MethodName := ⟨RJ8, "newLength", "(III)I"⟩
abbrev cJ8_hugeLength_7cf53 : ByteArray := prog_23_method_28_code
def yJ8_hugeLength_7cf53 : MethodName := ⟨RJ8, "hugeLength", "(II)I"⟩
def RJ3 : String := "jdk/internal/util/Preconditions"
def TJ3 : u_T := fun k => match k with
  | _ => ("", "", "", false)
def tyJ3 : Nat → FieldType := fun k => match k with
  | _ => .int
abbrev wsJ30 : List Cond := u_ws RJ3 TJ3 0
theorem nmJ3 : ∀ a, a < 0 → ∀ b, b < 0 → a ≠ b → (TJ3 a).2.1 ≠ (TJ3 b).2.1 := by decide +kernel
theorem tyJ3_ok : ∀ k, k < 0 → parseFieldDescriptor (TJ3 k).2.2.1 = some (tyJ3 k) := by decide +kernel
abbrev cJ3_checkIndex_8e157 : ByteArray := prog_24_method_11_code
def yJ3_checkIndex_8e157 : MethodName := ⟨RJ3, "checkIndex", "(IILjava/util/function/BiFunction;)I"⟩
abbrev cJ3_checkFromToIndex_8c36e : ByteArray := prog_24_method_12_code
def yJ3_checkFromToIndex_8c36e : MethodName := ⟨RJ3, "checkFromToIndex", "(IIILjava/util/function/BiFunction;)I"⟩
abbrev cJ3_checkFromIndexSize_8c36e : ByteArray := prog_24_method_13_code
def yJ3_checkFromIndexSize_8c36e : MethodName := ⟨RJ3, "checkFromIndexSize", "(IIILjava/util/function/BiFunction;)I"⟩
def RL : String := "RefsSettleLaw"
abbrev cL_law : ByteArray := code
def yL_law : MethodName := ⟨RL, "law", "([I)Z"⟩
abbrev vwCl : List vw_C := [(RJ4, TJ4, 4), (RX0, TX0, 3), (RX1, TX1, 9), (RX2, TX2, 3), (RX3, TX3, 3), (RX4, TX4, 4), (RX5, TX5, 3), (RX6, TX6, 7), (RX7, TX7, 9), (RX8, TX8, 13), (RX9, TX9, 28)]
end
section
theorem dX0_init_0 : decode cX0_init 0 = .ok (.aload_n 0, 1) := by decide +kernel
theorem dX0_init_1 : decode cX0_init 1 = .ok (.invokespecial 3, 3) := by decide +kernel
theorem dX0_init_4 : decode cX0_init 4 = .ok (.aload_n 0, 1) := by decide +kernel
theorem dX0_init_5 : decode cX0_init 5 = .ok (.bipush 16, 2) := by decide +kernel
theorem dX0_init_7 : decode cX0_init 7 = .ok (.newarray .int, 2) := by decide +kernel
theorem dX0_init_9 : decode cX0_init 9 = .ok (.putfield 9, 3) := by decide +kernel
theorem dX0_init_12 : decode cX0_init 12 = .ok (.aload_n 0, 1) := by decide +kernel
theorem dX0_init_13 : decode cX0_init 13 = .ok (.aload_n 1, 1) := by decide +kernel
theorem dX0_init_14 : decode cX0_init 14 = .ok (.putfield 15, 3) := by decide +kernel
theorem dX0_init_17 : decode cX0_init 17 = .ok (.return_, 1) := by decide +kernel
theorem dX0_clear_0 : decode cX0_clear 0 = .ok (.aload_n 0, 1) := by decide +kernel
theorem dX0_clear_1 : decode cX0_clear 1 = .ok (.iconst 0, 1) := by decide +kernel
theorem dX0_clear_2 : decode cX0_clear 2 = .ok (.putfield 19, 3) := by decide +kernel
theorem dX0_clear_5 : decode cX0_clear 5 = .ok (.return_, 1) := by decide +kernel
theorem dX0_sizeOfReference_0 : decode cX0_sizeOfReference 0 = .ok (.aload_n 0, 1) := by decide +kernel
theorem dX0_sizeOfReference_1 : decode cX0_sizeOfReference 1 = .ok (.getfield 15, 3) := by decide +kernel
theorem dX0_sizeOfReference_4 : decode cX0_sizeOfReference 4 = .ok (.getfield 23, 3) := by decide +kernel
theorem dX0_sizeOfReference_7 : decode cX0_sizeOfReference 7 = .ok (.iload_n 1, 1) := by decide +kernel
theorem dX0_sizeOfReference_8 : decode cX0_sizeOfReference 8 = .ok (.iaload, 1) := by decide +kernel
theorem dX0_sizeOfReference_9 : decode cX0_sizeOfReference 9 = .ok (.iconst 2, 1) := by decide +kernel
theorem dX0_sizeOfReference_10 : decode cX0_sizeOfReference 10 = .ok (.if_icmp .ne 7, 3) := by decide +kernel
theorem dX0_sizeOfReference_13 : decode cX0_sizeOfReference 13 = .ok (.iconst 1, 1) := by decide +kernel
theorem dX0_sizeOfReference_14 : decode cX0_sizeOfReference 14 = .ok (.goto 4, 3) := by decide +kernel
theorem dX0_sizeOfReference_17 : decode cX0_sizeOfReference 17 = .ok (.iconst 0, 1) := by decide +kernel
theorem dX0_sizeOfReference_18 : decode cX0_sizeOfReference 18 = .ok (.istore_n 2, 1) := by decide +kernel
theorem dX0_sizeOfReference_19 : decode cX0_sizeOfReference 19 = .ok (.iload_n 2, 1) := by decide +kernel
theorem dX0_sizeOfReference_20 : decode cX0_sizeOfReference 20 = .ok (.ifCond .eq 9, 3) := by decide +kernel
theorem dX0_sizeOfReference_23 : decode cX0_sizeOfReference 23 = .ok (.aload_n 0, 1) := by decide +kernel
theorem dX0_sizeOfReference_24 : decode cX0_sizeOfReference 24 = .ok (.bipush 12, 2) := by decide +kernel
theorem dX0_sizeOfReference_26 : decode cX0_sizeOfReference 26 = .ok (.invokevirtual 28, 3) := by decide +kernel
theorem dX0_sizeOfReference_29 : decode cX0_sizeOfReference 29 = .ok (.aload_n 0, 1) := by decide +kernel
theorem dX0_sizeOfReference_30 : decode cX0_sizeOfReference 30 = .ok (.bipush 11, 2) := by decide +kernel
theorem dX0_sizeOfReference_32 : decode cX0_sizeOfReference 32 = .ok (.invokevirtual 28, 3) := by decide +kernel
theorem dX0_sizeOfReference_35 : decode cX0_sizeOfReference 35 = .ok (.aload_n 0, 1) := by decide +kernel
theorem dX0_sizeOfReference_36 : decode cX0_sizeOfReference 36 = .ok (.iload_n 1, 1) := by decide +kernel
theorem dX0_sizeOfReference_37 : decode cX0_sizeOfReference 37 = .ok (.invokevirtual 32, 3) := by decide +kernel
theorem dX0_sizeOfReference_40 : decode cX0_sizeOfReference 40 = .ok (.istore_n 3, 1) := by decide +kernel
theorem dX0_sizeOfReference_41 : decode cX0_sizeOfReference 41 = .ok (.iload_n 3, 1) := by decide +kernel
theorem dX0_sizeOfReference_42 : decode cX0_sizeOfReference 42 = .ok (.aload_n 0, 1) := by decide +kernel
theorem dX0_sizeOfReference_43 : decode cX0_sizeOfReference 43 = .ok (.iload_n 1, 1) := by decide +kernel
theorem dX0_sizeOfReference_44 : decode cX0_sizeOfReference 44 = .ok (.invokevirtual 36, 3) := by decide +kernel
theorem dX0_sizeOfReference_47 : decode cX0_sizeOfReference 47 = .ok (.iadd, 1) := by decide +kernel
theorem dX0_sizeOfReference_48 : decode cX0_sizeOfReference 48 = .ok (.istore_n 3, 1) := by decide +kernel
theorem dX0_sizeOfReference_49 : decode cX0_sizeOfReference 49 = .ok (.iload_n 2, 1) := by decide +kernel
theorem dX0_sizeOfReference_50 : decode cX0_sizeOfReference 50 = .ok (.ifCond .eq 9, 3) := by decide +kernel
theorem dX0_sizeOfReference_53 : decode cX0_sizeOfReference 53 = .ok (.iconst 0, 1) := by decide +kernel
theorem dX0_sizeOfReference_54 : decode cX0_sizeOfReference 54 = .ok (.iload_n 3, 1) := by decide +kernel
theorem dX0_sizeOfReference_55 : decode cX0_sizeOfReference 55 = .ok (.isub, 1) := by decide +kernel
theorem dX0_sizeOfReference_56 : decode cX0_sizeOfReference 56 = .ok (.goto 4, 3) := by decide +kernel
theorem dX0_sizeOfReference_59 : decode cX0_sizeOfReference 59 = .ok (.iload_n 3, 1) := by decide +kernel
theorem dX0_sizeOfReference_60 : decode cX0_sizeOfReference 60 = .ok (.ireturn, 1) := by decide +kernel
theorem dX0_sizeOfWord_0 : decode cX0_sizeOfWord 0 = .ok (.aload_n 0, 1) := by decide +kernel
theorem dX0_sizeOfWord_1 : decode cX0_sizeOfWord 1 = .ok (.getfield 15, 3) := by decide +kernel
theorem dX0_sizeOfWord_4 : decode cX0_sizeOfWord 4 = .ok (.getfield 23, 3) := by decide +kernel
theorem dX0_sizeOfWord_7 : decode cX0_sizeOfWord 7 = .ok (.iload_n 1, 1) := by decide +kernel
theorem dX0_sizeOfWord_8 : decode cX0_sizeOfWord 8 = .ok (.iaload, 1) := by decide +kernel
theorem dX0_sizeOfWord_9 : decode cX0_sizeOfWord 9 = .ok (.iconst 5, 1) := by decide +kernel
theorem dX0_sizeOfWord_10 : decode cX0_sizeOfWord 10 = .ok (.if_icmp .ne 7, 3) := by decide +kernel
theorem dX0_sizeOfWord_13 : decode cX0_sizeOfWord 13 = .ok (.iconst 1, 1) := by decide +kernel
theorem dX0_sizeOfWord_14 : decode cX0_sizeOfWord 14 = .ok (.goto 4, 3) := by decide +kernel
theorem dX0_sizeOfWord_17 : decode cX0_sizeOfWord 17 = .ok (.iconst 0, 1) := by decide +kernel
theorem dX0_sizeOfWord_18 : decode cX0_sizeOfWord 18 = .ok (.istore_n 2, 1) := by decide +kernel
theorem dX0_sizeOfWord_19 : decode cX0_sizeOfWord 19 = .ok (.iload_n 2, 1) := by decide +kernel
theorem dX0_sizeOfWord_20 : decode cX0_sizeOfWord 20 = .ok (.ifCond .eq 9, 3) := by decide +kernel
theorem dX0_sizeOfWord_23 : decode cX0_sizeOfWord 23 = .ok (.aload_n 0, 1) := by decide +kernel
theorem dX0_sizeOfWord_24 : decode cX0_sizeOfWord 24 = .ok (.bipush 14, 2) := by decide +kernel
theorem dX0_sizeOfWord_26 : decode cX0_sizeOfWord 26 = .ok (.invokevirtual 28, 3) := by decide +kernel
theorem dX0_sizeOfWord_29 : decode cX0_sizeOfWord 29 = .ok (.aload_n 0, 1) := by decide +kernel
theorem dX0_sizeOfWord_30 : decode cX0_sizeOfWord 30 = .ok (.bipush 13, 2) := by decide +kernel
theorem dX0_sizeOfWord_32 : decode cX0_sizeOfWord 32 = .ok (.invokevirtual 28, 3) := by decide +kernel
theorem dX0_sizeOfWord_35 : decode cX0_sizeOfWord 35 = .ok (.aload_n 0, 1) := by decide +kernel
theorem dX0_sizeOfWord_36 : decode cX0_sizeOfWord 36 = .ok (.iload_n 1, 1) := by decide +kernel
theorem dX0_sizeOfWord_37 : decode cX0_sizeOfWord 37 = .ok (.invokevirtual 32, 3) := by decide +kernel
theorem dX0_sizeOfWord_40 : decode cX0_sizeOfWord 40 = .ok (.bipush 100, 2) := by decide +kernel
theorem dX0_sizeOfWord_42 : decode cX0_sizeOfWord 42 = .ok (.isub, 1) := by decide +kernel
theorem dX0_sizeOfWord_43 : decode cX0_sizeOfWord 43 = .ok (.istore_n 3, 1) := by decide +kernel
theorem dX0_sizeOfWord_44 : decode cX0_sizeOfWord 44 = .ok (.iload_n 2, 1) := by decide +kernel
theorem dX0_sizeOfWord_45 : decode cX0_sizeOfWord 45 = .ok (.ifCond .eq 9, 3) := by decide +kernel
theorem dX0_sizeOfWord_48 : decode cX0_sizeOfWord 48 = .ok (.iload_n 3, 1) := by decide +kernel
theorem dX0_sizeOfWord_49 : decode cX0_sizeOfWord 49 = .ok (.iconst 2, 1) := by decide +kernel
theorem dX0_sizeOfWord_50 : decode cX0_sizeOfWord 50 = .ok (.imul, 1) := by decide +kernel
theorem dX0_sizeOfWord_51 : decode cX0_sizeOfWord 51 = .ok (.goto 4, 3) := by decide +kernel
theorem dX0_sizeOfWord_54 : decode cX0_sizeOfWord 54 = .ok (.iload_n 3, 1) := by decide +kernel
theorem dX0_sizeOfWord_55 : decode cX0_sizeOfWord 55 = .ok (.ireturn, 1) := by decide +kernel
theorem dX0_markOfReference_0 : decode cX0_markOfReference 0 = .ok (.aload_n 0, 1) := by decide +kernel
theorem dX0_markOfReference_1 : decode cX0_markOfReference 1 = .ok (.getfield 15, 3) := by decide +kernel
theorem dX0_markOfReference_4 : decode cX0_markOfReference 4 = .ok (.getfield 23, 3) := by decide +kernel
theorem dX0_markOfReference_7 : decode cX0_markOfReference 7 = .ok (.iload_n 1, 1) := by decide +kernel
theorem dX0_markOfReference_8 : decode cX0_markOfReference 8 = .ok (.iaload, 1) := by decide +kernel
theorem dX0_markOfReference_9 : decode cX0_markOfReference 9 = .ok (.istore_n 2, 1) := by decide +kernel
theorem dX0_markOfReference_10 : decode cX0_markOfReference 10 = .ok (.iload_n 2, 1) := by decide +kernel
theorem dX0_markOfReference_11 : decode cX0_markOfReference 11 = .ok (.iconst 3, 1) := by decide +kernel
theorem dX0_markOfReference_12 : decode cX0_markOfReference 12 = .ok (.if_icmp .ne 12, 3) := by decide +kernel
theorem dX0_markOfReference_15 : decode cX0_markOfReference 15 = .ok (.aload_n 0, 1) := by decide +kernel
theorem dX0_markOfReference_16 : decode cX0_markOfReference 16 = .ok (.bipush 22, 2) := by decide +kernel
theorem dX0_markOfReference_18 : decode cX0_markOfReference 18 = .ok (.invokevirtual 28, 3) := by decide +kernel
theorem dX0_markOfReference_21 : decode cX0_markOfReference 21 = .ok (.goto 14, 3) := by decide +kernel
theorem dX0_markOfReference_24 : decode cX0_markOfReference 24 = .ok (.iload_n 2, 1) := by decide +kernel
theorem dX0_markOfReference_25 : decode cX0_markOfReference 25 = .ok (.iconst 2, 1) := by decide +kernel
theorem dX0_markOfReference_26 : decode cX0_markOfReference 26 = .ok (.if_icmp .ne 9, 3) := by decide +kernel
theorem dX0_markOfReference_29 : decode cX0_markOfReference 29 = .ok (.aload_n 0, 1) := by decide +kernel
theorem dX0_markOfReference_30 : decode cX0_markOfReference 30 = .ok (.bipush 24, 2) := by decide +kernel
theorem dX0_markOfReference_32 : decode cX0_markOfReference 32 = .ok (.invokevirtual 28, 3) := by decide +kernel
theorem dX0_markOfReference_35 : decode cX0_markOfReference 35 = .ok (.aload_n 0, 1) := by decide +kernel
theorem dX0_markOfReference_36 : decode cX0_markOfReference 36 = .ok (.bipush 21, 2) := by decide +kernel
theorem dX0_markOfReference_38 : decode cX0_markOfReference 38 = .ok (.invokevirtual 28, 3) := by decide +kernel
theorem dX0_markOfReference_41 : decode cX0_markOfReference 41 = .ok (.aload_n 0, 1) := by decide +kernel
theorem dX0_markOfReference_42 : decode cX0_markOfReference 42 = .ok (.iload_n 1, 1) := by decide +kernel
theorem dX0_markOfReference_43 : decode cX0_markOfReference 43 = .ok (.invokevirtual 39, 3) := by decide +kernel
theorem dX0_markOfReference_46 : decode cX0_markOfReference 46 = .ok (.aload_n 0, 1) := by decide +kernel
theorem dX0_markOfReference_47 : decode cX0_markOfReference 47 = .ok (.getfield 15, 3) := by decide +kernel
theorem dX0_markOfReference_50 : decode cX0_markOfReference 50 = .ok (.getfield 42, 3) := by decide +kernel
theorem dX0_markOfReference_53 : decode cX0_markOfReference 53 = .ok (.iload_n 1, 1) := by decide +kernel
theorem dX0_markOfReference_54 : decode cX0_markOfReference 54 = .ok (.iaload, 1) := by decide +kernel
theorem dX0_markOfReference_55 : decode cX0_markOfReference 55 = .ok (.iadd, 1) := by decide +kernel
theorem dX0_markOfReference_56 : decode cX0_markOfReference 56 = .ok (.istore_n 3, 1) := by decide +kernel
theorem dX0_markOfReference_57 : decode cX0_markOfReference 57 = .ok (.iload_n 2, 1) := by decide +kernel
theorem dX0_markOfReference_58 : decode cX0_markOfReference 58 = .ok (.iconst 3, 1) := by decide +kernel
theorem dX0_markOfReference_59 : decode cX0_markOfReference 59 = .ok (.if_icmp .ne 9, 3) := by decide +kernel
theorem dX0_markOfReference_62 : decode cX0_markOfReference 62 = .ok (.iload_n 3, 1) := by decide +kernel
theorem dX0_markOfReference_63 : decode cX0_markOfReference 63 = .ok (.sipush 1000, 3) := by decide +kernel
theorem dX0_markOfReference_66 : decode cX0_markOfReference 66 = .ok (.isub, 1) := by decide +kernel
theorem dX0_markOfReference_67 : decode cX0_markOfReference 67 = .ok (.ireturn, 1) := by decide +kernel
theorem dX0_markOfReference_68 : decode cX0_markOfReference 68 = .ok (.iload_n 2, 1) := by decide +kernel
theorem dX0_markOfReference_69 : decode cX0_markOfReference 69 = .ok (.iconst 2, 1) := by decide +kernel
theorem dX0_markOfReference_70 : decode cX0_markOfReference 70 = .ok (.if_icmp .ne 9, 3) := by decide +kernel
theorem dX0_markOfReference_73 : decode cX0_markOfReference 73 = .ok (.iload_n 3, 1) := by decide +kernel
theorem dX0_markOfReference_74 : decode cX0_markOfReference 74 = .ok (.iconst 2, 1) := by decide +kernel
theorem dX0_markOfReference_75 : decode cX0_markOfReference 75 = .ok (.imul, 1) := by decide +kernel
theorem dX0_markOfReference_76 : decode cX0_markOfReference 76 = .ok (.goto 4, 3) := by decide +kernel
theorem dX0_markOfReference_79 : decode cX0_markOfReference 79 = .ok (.iload_n 3, 1) := by decide +kernel
theorem dX0_markOfReference_80 : decode cX0_markOfReference 80 = .ok (.ireturn, 1) := by decide +kernel
theorem dX0_markOfWord_0 : decode cX0_markOfWord 0 = .ok (.aload_n 0, 1) := by decide +kernel
theorem dX0_markOfWord_1 : decode cX0_markOfWord 1 = .ok (.bipush 23, 2) := by decide +kernel
theorem dX0_markOfWord_3 : decode cX0_markOfWord 3 = .ok (.invokevirtual 28, 3) := by decide +kernel
theorem dX0_markOfWord_6 : decode cX0_markOfWord 6 = .ok (.aload_n 0, 1) := by decide +kernel
theorem dX0_markOfWord_7 : decode cX0_markOfWord 7 = .ok (.iload_n 1, 1) := by decide +kernel
theorem dX0_markOfWord_8 : decode cX0_markOfWord 8 = .ok (.invokevirtual 39, 3) := by decide +kernel
theorem dX0_markOfWord_11 : decode cX0_markOfWord 11 = .ok (.istore_n 2, 1) := by decide +kernel
theorem dX0_markOfWord_12 : decode cX0_markOfWord 12 = .ok (.iload_n 2, 1) := by decide +kernel
theorem dX0_markOfWord_13 : decode cX0_markOfWord 13 = .ok (.aload_n 0, 1) := by decide +kernel
theorem dX0_markOfWord_14 : decode cX0_markOfWord 14 = .ok (.iload_n 1, 1) := by decide +kernel
theorem dX0_markOfWord_15 : decode cX0_markOfWord 15 = .ok (.invokevirtual 45, 3) := by decide +kernel
theorem dX0_markOfWord_18 : decode cX0_markOfWord 18 = .ok (.isub, 1) := by decide +kernel
theorem dX0_markOfWord_19 : decode cX0_markOfWord 19 = .ok (.ireturn, 1) := by decide +kernel
theorem dX0_lentSize_0 : decode cX0_lentSize 0 = .ok (.aload_n 0, 1) := by decide +kernel
theorem dX0_lentSize_1 : decode cX0_lentSize 1 = .ok (.bipush 10, 2) := by decide +kernel
theorem dX0_lentSize_3 : decode cX0_lentSize 3 = .ok (.invokevirtual 28, 3) := by decide +kernel
theorem dX0_lentSize_6 : decode cX0_lentSize 6 = .ok (.aload_n 0, 1) := by decide +kernel
theorem dX0_lentSize_7 : decode cX0_lentSize 7 = .ok (.getfield 15, 3) := by decide +kernel
theorem dX0_lentSize_10 : decode cX0_lentSize 10 = .ok (.aload_n 0, 1) := by decide +kernel
theorem dX0_lentSize_11 : decode cX0_lentSize 11 = .ok (.getfield 15, 3) := by decide +kernel
theorem dX0_lentSize_14 : decode cX0_lentSize 14 = .ok (.getfield 42, 3) := by decide +kernel
theorem dX0_lentSize_17 : decode cX0_lentSize 17 = .ok (.iload_n 1, 1) := by decide +kernel
theorem dX0_lentSize_18 : decode cX0_lentSize 18 = .ok (.invokevirtual 48, 3) := by decide +kernel
theorem dX0_lentSize_21 : decode cX0_lentSize 21 = .ok (.ireturn, 1) := by decide +kernel
theorem dX0_lentMark_0 : decode cX0_lentMark 0 = .ok (.aload_n 0, 1) := by decide +kernel
theorem dX0_lentMark_1 : decode cX0_lentMark 1 = .ok (.bipush 20, 2) := by decide +kernel
theorem dX0_lentMark_3 : decode cX0_lentMark 3 = .ok (.invokevirtual 28, 3) := by decide +kernel
theorem dX0_lentMark_6 : decode cX0_lentMark 6 = .ok (.iload_n 1, 1) := by decide +kernel
theorem dX0_lentMark_7 : decode cX0_lentMark 7 = .ok (.ireturn, 1) := by decide +kernel
theorem dX0_begin_0 : decode cX0_begin 0 = .ok (.aload_n 0, 1) := by decide +kernel
theorem dX0_begin_1 : decode cX0_begin 1 = .ok (.getfield 19, 3) := by decide +kernel
theorem dX0_begin_4 : decode cX0_begin 4 = .ok (.aload_n 0, 1) := by decide +kernel
theorem dX0_begin_5 : decode cX0_begin 5 = .ok (.getfield 9, 3) := by decide +kernel
theorem dX0_begin_8 : decode cX0_begin 8 = .ok (.arraylength, 1) := by decide +kernel
theorem dX0_begin_9 : decode cX0_begin 9 = .ok (.if_icmp .ge 23, 3) := by decide +kernel
theorem dX0_begin_12 : decode cX0_begin 12 = .ok (.aload_n 0, 1) := by decide +kernel
theorem dX0_begin_13 : decode cX0_begin 13 = .ok (.getfield 9, 3) := by decide +kernel
theorem dX0_begin_16 : decode cX0_begin 16 = .ok (.aload_n 0, 1) := by decide +kernel
theorem dX0_begin_17 : decode cX0_begin 17 = .ok (.getfield 19, 3) := by decide +kernel
theorem dX0_begin_20 : decode cX0_begin 20 = .ok (.iload_n 1, 1) := by decide +kernel
theorem dX0_begin_21 : decode cX0_begin 21 = .ok (.iastore, 1) := by decide +kernel
theorem dX0_begin_22 : decode cX0_begin 22 = .ok (.aload_n 0, 1) := by decide +kernel
theorem dX0_begin_23 : decode cX0_begin 23 = .ok (.dup, 1) := by decide +kernel
theorem dX0_begin_24 : decode cX0_begin 24 = .ok (.getfield 19, 3) := by decide +kernel
theorem dX0_begin_27 : decode cX0_begin 27 = .ok (.iconst 1, 1) := by decide +kernel
theorem dX0_begin_28 : decode cX0_begin 28 = .ok (.iadd, 1) := by decide +kernel
theorem dX0_begin_29 : decode cX0_begin 29 = .ok (.putfield 19, 3) := by decide +kernel
theorem dX0_begin_32 : decode cX0_begin 32 = .ok (.return_, 1) := by decide +kernel
theorem dX1_init_0 : decode cX1_init 0 = .ok (.aload_n 0, 1) := by decide +kernel
theorem dX1_init_1 : decode cX1_init 1 = .ok (.invokespecial 3, 3) := by decide +kernel
theorem dX1_init_4 : decode cX1_init 4 = .ok (.aload_n 0, 1) := by decide +kernel
theorem dX1_init_5 : decode cX1_init 5 = .ok (.new 9, 3) := by decide +kernel
theorem dX1_init_8 : decode cX1_init 8 = .ok (.dup, 1) := by decide +kernel
theorem dX1_init_9 : decode cX1_init 9 = .ok (.invokespecial 11, 3) := by decide +kernel
theorem dX1_init_12 : decode cX1_init 12 = .ok (.putfield 12, 3) := by decide +kernel
theorem dX1_init_15 : decode cX1_init 15 = .ok (.aload_n 0, 1) := by decide +kernel
theorem dX1_init_16 : decode cX1_init 16 = .ok (.bipush 12, 2) := by decide +kernel
theorem dX1_init_18 : decode cX1_init 18 = .ok (.newarray .int, 2) := by decide +kernel
theorem dX1_init_20 : decode cX1_init 20 = .ok (.putfield 18, 3) := by decide +kernel
theorem dX1_init_23 : decode cX1_init 23 = .ok (.aload_n 0, 1) := by decide +kernel
theorem dX1_init_24 : decode cX1_init 24 = .ok (.aload_n 1, 1) := by decide +kernel
theorem dX1_init_25 : decode cX1_init 25 = .ok (.putfield 22, 3) := by decide +kernel
theorem dX1_init_28 : decode cX1_init 28 = .ok (.aload_n 0, 1) := by decide +kernel
theorem dX1_init_29 : decode cX1_init 29 = .ok (.aload_n 2, 1) := by decide +kernel
theorem dX1_init_30 : decode cX1_init 30 = .ok (.putfield 26, 3) := by decide +kernel
theorem dX1_init_33 : decode cX1_init 33 = .ok (.aload_n 0, 1) := by decide +kernel
theorem dX1_init_34 : decode cX1_init 34 = .ok (.aload_n 3, 1) := by decide +kernel
theorem dX1_init_35 : decode cX1_init 35 = .ok (.putfield 29, 3) := by decide +kernel
theorem dX1_init_38 : decode cX1_init 38 = .ok (.aload_n 0, 1) := by decide +kernel
theorem dX1_init_39 : decode cX1_init 39 = .ok (.aload_n 0, 1) := by decide +kernel
theorem dX1_init_40 : decode cX1_init 40 = .ok (.getfield 18, 3) := by decide +kernel
theorem dX1_init_43 : decode cX1_init 43 = .ok (.putfield 33, 3) := by decide +kernel
theorem dX1_init_46 : decode cX1_init 46 = .ok (.return_, 1) := by decide +kernel
theorem dX1_guessBehind_0 : decode cX1_guessBehind 0 = .ok (.aload_n 0, 1) := by decide +kernel
theorem dX1_guessBehind_1 : decode cX1_guessBehind 1 = .ok (.getfield 26, 3) := by decide +kernel
theorem dX1_guessBehind_4 : decode cX1_guessBehind 4 = .ok (.aload_n 0, 1) := by decide +kernel
theorem dX1_guessBehind_5 : decode cX1_guessBehind 5 = .ok (.getfield 22, 3) := by decide +kernel
theorem dX1_guessBehind_8 : decode cX1_guessBehind 8 = .ok (.invokevirtual 36, 3) := by decide +kernel
theorem dX1_guessBehind_11 : decode cX1_guessBehind 11 = .ok (.iconst 0, 1) := by decide +kernel
theorem dX1_guessBehind_12 : decode cX1_guessBehind 12 = .ok (.istore_n 3, 1) := by decide +kernel
theorem dX1_guessBehind_13 : decode cX1_guessBehind 13 = .ok (.iload_n 3, 1) := by decide +kernel
theorem dX1_guessBehind_14 : decode cX1_guessBehind 14 = .ok (.iload_n 2, 1) := by decide +kernel
theorem dX1_guessBehind_15 : decode cX1_guessBehind 15 = .ok (.if_icmp .ge 21, 3) := by decide +kernel
theorem dX1_guessBehind_18 : decode cX1_guessBehind 18 = .ok (.aload_n 0, 1) := by decide +kernel
theorem dX1_guessBehind_19 : decode cX1_guessBehind 19 = .ok (.getfield 29, 3) := by decide +kernel
theorem dX1_guessBehind_22 : decode cX1_guessBehind 22 = .ok (.aload_n 0, 1) := by decide +kernel
theorem dX1_guessBehind_23 : decode cX1_guessBehind 23 = .ok (.getfield 26, 3) := by decide +kernel
theorem dX1_guessBehind_26 : decode cX1_guessBehind 26 = .ok (.invokevirtual 42, 3) := by decide +kernel
theorem dX1_guessBehind_29 : decode cX1_guessBehind 29 = .ok (.pop, 1) := by decide +kernel
theorem dX1_guessBehind_30 : decode cX1_guessBehind 30 = .ok (.iinc 3 1, 3) := by decide +kernel
theorem dX1_guessBehind_33 : decode cX1_guessBehind 33 = .ok (.goto (-20), 3) := by decide +kernel
theorem dX1_guessBehind_36 : decode cX1_guessBehind 36 = .ok (.aload_n 0, 1) := by decide +kernel
theorem dX1_guessBehind_37 : decode cX1_guessBehind 37 = .ok (.getfield 26, 3) := by decide +kernel
theorem dX1_guessBehind_40 : decode cX1_guessBehind 40 = .ok (.getfield 48, 3) := by decide +kernel
theorem dX1_guessBehind_43 : decode cX1_guessBehind 43 = .ok (.iload_n 1, 1) := by decide +kernel
theorem dX1_guessBehind_44 : decode cX1_guessBehind 44 = .ok (.iaload, 1) := by decide +kernel
theorem dX1_guessBehind_45 : decode cX1_guessBehind 45 = .ok (.ireturn, 1) := by decide +kernel
theorem dX1_lying_0 : decode cX1_lying 0 = .ok (.aload_n 0, 1) := by decide +kernel
theorem dX1_lying_1 : decode cX1_lying 1 = .ok (.getfield 29, 3) := by decide +kernel
theorem dX1_lying_4 : decode cX1_lying 4 = .ok (.aload_n 0, 1) := by decide +kernel
theorem dX1_lying_5 : decode cX1_lying 5 = .ok (.getfield 22, 3) := by decide +kernel
theorem dX1_lying_8 : decode cX1_lying 8 = .ok (.invokevirtual 51, 3) := by decide +kernel
theorem dX1_lying_11 : decode cX1_lying 11 = .ok (.astore_n 1, 1) := by decide +kernel
theorem dX1_lying_12 : decode cX1_lying 12 = .ok (.iconst 0, 1) := by decide +kernel
theorem dX1_lying_13 : decode cX1_lying 13 = .ok (.istore_n 2, 1) := by decide +kernel
theorem dX1_lying_14 : decode cX1_lying 14 = .ok (.iconst 0, 1) := by decide +kernel
theorem dX1_lying_15 : decode cX1_lying 15 = .ok (.istore_n 3, 1) := by decide +kernel
theorem dX1_lying_16 : decode cX1_lying 16 = .ok (.iload_n 3, 1) := by decide +kernel
theorem dX1_lying_17 : decode cX1_lying 17 = .ok (.aload_n 0, 1) := by decide +kernel
theorem dX1_lying_18 : decode cX1_lying 18 = .ok (.getfield 22, 3) := by decide +kernel
theorem dX1_lying_21 : decode cX1_lying 21 = .ok (.getfield 55, 3) := by decide +kernel
theorem dX1_lying_24 : decode cX1_lying 24 = .ok (.if_icmp .ge 69, 3) := by decide +kernel
theorem dX1_lying_27 : decode cX1_lying 27 = .ok (.aload_n 0, 1) := by decide +kernel
theorem dX1_lying_28 : decode cX1_lying 28 = .ok (.getfield 22, 3) := by decide +kernel
theorem dX1_lying_31 : decode cX1_lying 31 = .ok (.getfield 59, 3) := by decide +kernel
theorem dX1_lying_34 : decode cX1_lying 34 = .ok (.iload_n 3, 1) := by decide +kernel
theorem dX1_lying_35 : decode cX1_lying 35 = .ok (.iaload, 1) := by decide +kernel
theorem dX1_lying_36 : decode cX1_lying 36 = .ok (.istore 4, 2) := by decide +kernel
theorem dX1_lying_38 : decode cX1_lying 38 = .ok (.aload_n 0, 1) := by decide +kernel
theorem dX1_lying_39 : decode cX1_lying 39 = .ok (.getfield 22, 3) := by decide +kernel
theorem dX1_lying_42 : decode cX1_lying 42 = .ok (.iload_n 3, 1) := by decide +kernel
theorem dX1_lying_43 : decode cX1_lying 43 = .ok (.invokevirtual 62, 3) := by decide +kernel
theorem dX1_lying_46 : decode cX1_lying 46 = .ok (.ifCond .eq 41, 3) := by decide +kernel
theorem dX1_lying_49 : decode cX1_lying 49 = .ok (.aload_n 0, 1) := by decide +kernel
theorem dX1_lying_50 : decode cX1_lying 50 = .ok (.getfield 22, 3) := by decide +kernel
theorem dX1_lying_53 : decode cX1_lying 53 = .ok (.iload 4, 2) := by decide +kernel
theorem dX1_lying_55 : decode cX1_lying 55 = .ok (.invokevirtual 66, 3) := by decide +kernel
theorem dX1_lying_58 : decode cX1_lying 58 = .ok (.ifCond .eq 29, 3) := by decide +kernel
theorem dX1_lying_61 : decode cX1_lying 61 = .ok (.aload_n 0, 1) := by decide +kernel
theorem dX1_lying_62 : decode cX1_lying 62 = .ok (.getfield 22, 3) := by decide +kernel
theorem dX1_lying_65 : decode cX1_lying 65 = .ok (.getfield 48, 3) := by decide +kernel
theorem dX1_lying_68 : decode cX1_lying 68 = .ok (.iload 4, 2) := by decide +kernel
theorem dX1_lying_70 : decode cX1_lying 70 = .ok (.iaload, 1) := by decide +kernel
theorem dX1_lying_71 : decode cX1_lying 71 = .ok (.aload_n 1, 1) := by decide +kernel
theorem dX1_lying_72 : decode cX1_lying 72 = .ok (.getfield 69, 3) := by decide +kernel
theorem dX1_lying_75 : decode cX1_lying 75 = .ok (.iload 4, 2) := by decide +kernel
theorem dX1_lying_77 : decode cX1_lying 77 = .ok (.iaload, 1) := by decide +kernel
theorem dX1_lying_78 : decode cX1_lying 78 = .ok (.if_icmp .eq 9, 3) := by decide +kernel
theorem dX1_lying_81 : decode cX1_lying 81 = .ok (.iload_n 2, 1) := by decide +kernel
theorem dX1_lying_82 : decode cX1_lying 82 = .ok (.iconst 1, 1) := by decide +kernel
theorem dX1_lying_83 : decode cX1_lying 83 = .ok (.iload_n 3, 1) := by decide +kernel
theorem dX1_lying_84 : decode cX1_lying 84 = .ok (.ishl, 1) := by decide +kernel
theorem dX1_lying_85 : decode cX1_lying 85 = .ok (.ior, 1) := by decide +kernel
theorem dX1_lying_86 : decode cX1_lying 86 = .ok (.istore_n 2, 1) := by decide +kernel
theorem dX1_lying_87 : decode cX1_lying 87 = .ok (.iinc 3 1, 3) := by decide +kernel
theorem dX1_lying_90 : decode cX1_lying 90 = .ok (.goto (-74), 3) := by decide +kernel
theorem dX1_lying_93 : decode cX1_lying 93 = .ok (.iload_n 2, 1) := by decide +kernel
theorem dX1_lying_94 : decode cX1_lying 94 = .ok (.ireturn, 1) := by decide +kernel
theorem dX1_movedBy_0 : decode cX1_movedBy 0 = .ok (.aload_n 0, 1) := by decide +kernel
theorem dX1_movedBy_1 : decode cX1_movedBy 1 = .ok (.getfield 29, 3) := by decide +kernel
theorem dX1_movedBy_4 : decode cX1_movedBy 4 = .ok (.aload_n 0, 1) := by decide +kernel
theorem dX1_movedBy_5 : decode cX1_movedBy 5 = .ok (.getfield 22, 3) := by decide +kernel
theorem dX1_movedBy_8 : decode cX1_movedBy 8 = .ok (.invokevirtual 51, 3) := by decide +kernel
theorem dX1_movedBy_11 : decode cX1_movedBy 11 = .ok (.astore_n 2, 1) := by decide +kernel
theorem dX1_movedBy_12 : decode cX1_movedBy 12 = .ok (.aload_n 0, 1) := by decide +kernel
theorem dX1_movedBy_13 : decode cX1_movedBy 13 = .ok (.getfield 12, 3) := by decide +kernel
theorem dX1_movedBy_16 : decode cX1_movedBy 16 = .ok (.aload_n 0, 1) := by decide +kernel
theorem dX1_movedBy_17 : decode cX1_movedBy 17 = .ok (.getfield 22, 3) := by decide +kernel
theorem dX1_movedBy_20 : decode cX1_movedBy 20 = .ok (.iload_n 1, 1) := by decide +kernel
theorem dX1_movedBy_21 : decode cX1_movedBy 21 = .ok (.invokevirtual 72, 3) := by decide +kernel
theorem dX1_movedBy_24 : decode cX1_movedBy 24 = .ok (.iconst 0, 1) := by decide +kernel
theorem dX1_movedBy_25 : decode cX1_movedBy 25 = .ok (.istore_n 3, 1) := by decide +kernel
theorem dX1_movedBy_26 : decode cX1_movedBy 26 = .ok (.iconst 0, 1) := by decide +kernel
theorem dX1_movedBy_27 : decode cX1_movedBy 27 = .ok (.istore 4, 2) := by decide +kernel
theorem dX1_movedBy_29 : decode cX1_movedBy 29 = .ok (.iload 4, 2) := by decide +kernel
theorem dX1_movedBy_31 : decode cX1_movedBy 31 = .ok (.aload_n 0, 1) := by decide +kernel
theorem dX1_movedBy_32 : decode cX1_movedBy 32 = .ok (.getfield 22, 3) := by decide +kernel
theorem dX1_movedBy_35 : decode cX1_movedBy 35 = .ok (.getfield 55, 3) := by decide +kernel
theorem dX1_movedBy_38 : decode cX1_movedBy 38 = .ok (.if_icmp .ge 29, 3) := by decide +kernel
theorem dX1_movedBy_41 : decode cX1_movedBy 41 = .ok (.aload_n 0, 1) := by decide +kernel
theorem dX1_movedBy_42 : decode cX1_movedBy 42 = .ok (.getfield 12, 3) := by decide +kernel
theorem dX1_movedBy_45 : decode cX1_movedBy 45 = .ok (.iload 4, 2) := by decide +kernel
theorem dX1_movedBy_47 : decode cX1_movedBy 47 = .ok (.aload_n 2, 1) := by decide +kernel
theorem dX1_movedBy_48 : decode cX1_movedBy 48 = .ok (.invokevirtual 76, 3) := by decide +kernel
theorem dX1_movedBy_51 : decode cX1_movedBy 51 = .ok (.ifCond .eq 10, 3) := by decide +kernel
theorem dX1_movedBy_54 : decode cX1_movedBy 54 = .ok (.iload_n 3, 1) := by decide +kernel
theorem dX1_movedBy_55 : decode cX1_movedBy 55 = .ok (.iconst 1, 1) := by decide +kernel
theorem dX1_movedBy_56 : decode cX1_movedBy 56 = .ok (.iload 4, 2) := by decide +kernel
theorem dX1_movedBy_58 : decode cX1_movedBy 58 = .ok (.ishl, 1) := by decide +kernel
theorem dX1_movedBy_59 : decode cX1_movedBy 59 = .ok (.ior, 1) := by decide +kernel
theorem dX1_movedBy_60 : decode cX1_movedBy 60 = .ok (.istore_n 3, 1) := by decide +kernel
theorem dX1_movedBy_61 : decode cX1_movedBy 61 = .ok (.iinc 4 1, 3) := by decide +kernel
theorem dX1_movedBy_64 : decode cX1_movedBy 64 = .ok (.goto (-35), 3) := by decide +kernel
theorem dX1_movedBy_67 : decode cX1_movedBy 67 = .ok (.iload_n 3, 1) := by decide +kernel
theorem dX1_movedBy_68 : decode cX1_movedBy 68 = .ok (.ireturn, 1) := by decide +kernel
theorem dX1_widestOf_0 : decode cX1_widestOf 0 = .ok (.aload_n 0, 1) := by decide +kernel
theorem dX1_widestOf_1 : decode cX1_widestOf 1 = .ok (.getfield 22, 3) := by decide +kernel
theorem dX1_widestOf_4 : decode cX1_widestOf 4 = .ok (.getfield 59, 3) := by decide +kernel
theorem dX1_widestOf_7 : decode cX1_widestOf 7 = .ok (.iload_n 1, 1) := by decide +kernel
theorem dX1_widestOf_8 : decode cX1_widestOf 8 = .ok (.iaload, 1) := by decide +kernel
theorem dX1_widestOf_9 : decode cX1_widestOf 9 = .ok (.istore_n 2, 1) := by decide +kernel
theorem dX1_widestOf_10 : decode cX1_widestOf 10 = .ok (.aload_n 0, 1) := by decide +kernel
theorem dX1_widestOf_11 : decode cX1_widestOf 11 = .ok (.iload_n 1, 1) := by decide +kernel
theorem dX1_widestOf_12 : decode cX1_widestOf 12 = .ok (.iload_n 2, 1) := by decide +kernel
theorem dX1_widestOf_13 : decode cX1_widestOf 13 = .ok (.invokevirtual 80, 3) := by decide +kernel
theorem dX1_widestOf_16 : decode cX1_widestOf 16 = .ok (.istore_n 3, 1) := by decide +kernel
theorem dX1_widestOf_17 : decode cX1_widestOf 17 = .ok (.bipush 20, 2) := by decide +kernel
theorem dX1_widestOf_19 : decode cX1_widestOf 19 = .ok (.istore 4, 2) := by decide +kernel
theorem dX1_widestOf_21 : decode cX1_widestOf 21 = .ok (.iload 4, 2) := by decide +kernel
theorem dX1_widestOf_23 : decode cX1_widestOf 23 = .ok (.iload_n 2, 1) := by decide +kernel
theorem dX1_widestOf_24 : decode cX1_widestOf 24 = .ok (.if_icmp .le 23, 3) := by decide +kernel
theorem dX1_widestOf_27 : decode cX1_widestOf 27 = .ok (.aload_n 0, 1) := by decide +kernel
theorem dX1_widestOf_28 : decode cX1_widestOf 28 = .ok (.iload_n 1, 1) := by decide +kernel
theorem dX1_widestOf_29 : decode cX1_widestOf 29 = .ok (.iload 4, 2) := by decide +kernel
theorem dX1_widestOf_31 : decode cX1_widestOf 31 = .ok (.invokevirtual 80, 3) := by decide +kernel
theorem dX1_widestOf_34 : decode cX1_widestOf 34 = .ok (.iload_n 3, 1) := by decide +kernel
theorem dX1_widestOf_35 : decode cX1_widestOf 35 = .ok (.if_icmp .ne 6, 3) := by decide +kernel
theorem dX1_widestOf_38 : decode cX1_widestOf 38 = .ok (.iload 4, 2) := by decide +kernel
theorem dX1_widestOf_40 : decode cX1_widestOf 40 = .ok (.ireturn, 1) := by decide +kernel
theorem dX1_widestOf_41 : decode cX1_widestOf 41 = .ok (.iinc 4 (-1), 3) := by decide +kernel
theorem dX1_widestOf_44 : decode cX1_widestOf 44 = .ok (.goto (-23), 3) := by decide +kernel
theorem dX1_widestOf_47 : decode cX1_widestOf 47 = .ok (.iload_n 2, 1) := by decide +kernel
theorem dX1_widestOf_48 : decode cX1_widestOf 48 = .ok (.ireturn, 1) := by decide +kernel
theorem dX1_lastPageWith_0 : decode cX1_lastPageWith 0 = .ok (.aload_n 0, 1) := by decide +kernel
theorem dX1_lastPageWith_1 : decode cX1_lastPageWith 1 = .ok (.getfield 26, 3) := by decide +kernel
theorem dX1_lastPageWith_4 : decode cX1_lastPageWith 4 = .ok (.aload_n 0, 1) := by decide +kernel
theorem dX1_lastPageWith_5 : decode cX1_lastPageWith 5 = .ok (.getfield 22, 3) := by decide +kernel
theorem dX1_lastPageWith_8 : decode cX1_lastPageWith 8 = .ok (.invokevirtual 36, 3) := by decide +kernel
theorem dX1_lastPageWith_11 : decode cX1_lastPageWith 11 = .ok (.aload_n 0, 1) := by decide +kernel
theorem dX1_lastPageWith_12 : decode cX1_lastPageWith 12 = .ok (.getfield 26, 3) := by decide +kernel
theorem dX1_lastPageWith_15 : decode cX1_lastPageWith 15 = .ok (.getfield 59, 3) := by decide +kernel
theorem dX1_lastPageWith_18 : decode cX1_lastPageWith 18 = .ok (.iload_n 1, 1) := by decide +kernel
theorem dX1_lastPageWith_19 : decode cX1_lastPageWith 19 = .ok (.iload_n 2, 1) := by decide +kernel
theorem dX1_lastPageWith_20 : decode cX1_lastPageWith 20 = .ok (.iastore, 1) := by decide +kernel
theorem dX1_lastPageWith_21 : decode cX1_lastPageWith 21 = .ok (.aload_n 0, 1) := by decide +kernel
theorem dX1_lastPageWith_22 : decode cX1_lastPageWith 22 = .ok (.getfield 26, 3) := by decide +kernel
theorem dX1_lastPageWith_25 : decode cX1_lastPageWith 25 = .ok (.invokevirtual 84, 3) := by decide +kernel
theorem dX1_lastPageWith_28 : decode cX1_lastPageWith 28 = .ok (.aload_n 0, 1) := by decide +kernel
theorem dX1_lastPageWith_29 : decode cX1_lastPageWith 29 = .ok (.getfield 29, 3) := by decide +kernel
theorem dX1_lastPageWith_32 : decode cX1_lastPageWith 32 = .ok (.aload_n 0, 1) := by decide +kernel
theorem dX1_lastPageWith_33 : decode cX1_lastPageWith 33 = .ok (.getfield 26, 3) := by decide +kernel
theorem dX1_lastPageWith_36 : decode cX1_lastPageWith 36 = .ok (.iconst 0, 1) := by decide +kernel
theorem dX1_lastPageWith_37 : decode cX1_lastPageWith 37 = .ok (.invokevirtual 87, 3) := by decide +kernel
theorem dX1_lastPageWith_40 : decode cX1_lastPageWith 40 = .ok (.aload_n 0, 1) := by decide +kernel
theorem dX1_lastPageWith_41 : decode cX1_lastPageWith 41 = .ok (.getfield 26, 3) := by decide +kernel
theorem dX1_lastPageWith_44 : decode cX1_lastPageWith 44 = .ok (.invokevirtual 91, 3) := by decide +kernel
theorem dX1_lastPageWith_47 : decode cX1_lastPageWith 47 = .ok (.ireturn, 1) := by decide +kernel
theorem dX1_restlessFirst_0 : decode cX1_restlessFirst 0 = .ok (.iconst 1, 1) := by decide +kernel
theorem dX1_restlessFirst_1 : decode cX1_restlessFirst 1 = .ok (.istore_n 1, 1) := by decide +kernel
theorem dX1_restlessFirst_2 : decode cX1_restlessFirst 2 = .ok (.iload_n 1, 1) := by decide +kernel
theorem dX1_restlessFirst_3 : decode cX1_restlessFirst 3 = .ok (.bipush 87, 2) := by decide +kernel
theorem dX1_restlessFirst_5 : decode cX1_restlessFirst 5 = .ok (.if_icmp .gt 59, 3) := by decide +kernel
theorem dX1_restlessFirst_8 : decode cX1_restlessFirst 8 = .ok (.aload_n 0, 1) := by decide +kernel
theorem dX1_restlessFirst_9 : decode cX1_restlessFirst 9 = .ok (.getfield 26, 3) := by decide +kernel
theorem dX1_restlessFirst_12 : decode cX1_restlessFirst 12 = .ok (.aload_n 0, 1) := by decide +kernel
theorem dX1_restlessFirst_13 : decode cX1_restlessFirst 13 = .ok (.getfield 22, 3) := by decide +kernel
theorem dX1_restlessFirst_16 : decode cX1_restlessFirst 16 = .ok (.invokevirtual 36, 3) := by decide +kernel
theorem dX1_restlessFirst_19 : decode cX1_restlessFirst 19 = .ok (.aload_n 0, 1) := by decide +kernel
theorem dX1_restlessFirst_20 : decode cX1_restlessFirst 20 = .ok (.getfield 26, 3) := by decide +kernel
theorem dX1_restlessFirst_23 : decode cX1_restlessFirst 23 = .ok (.iload_n 1, 1) := by decide +kernel
theorem dX1_restlessFirst_24 : decode cX1_restlessFirst 24 = .ok (.putfield 95, 3) := by decide +kernel
theorem dX1_restlessFirst_27 : decode cX1_restlessFirst 27 = .ok (.aload_n 0, 1) := by decide +kernel
theorem dX1_restlessFirst_28 : decode cX1_restlessFirst 28 = .ok (.getfield 26, 3) := by decide +kernel
theorem dX1_restlessFirst_31 : decode cX1_restlessFirst 31 = .ok (.invokevirtual 84, 3) := by decide +kernel
theorem dX1_restlessFirst_34 : decode cX1_restlessFirst 34 = .ok (.aload_n 0, 1) := by decide +kernel
theorem dX1_restlessFirst_35 : decode cX1_restlessFirst 35 = .ok (.getfield 29, 3) := by decide +kernel
theorem dX1_restlessFirst_38 : decode cX1_restlessFirst 38 = .ok (.aload_n 0, 1) := by decide +kernel
theorem dX1_restlessFirst_39 : decode cX1_restlessFirst 39 = .ok (.getfield 26, 3) := by decide +kernel
theorem dX1_restlessFirst_42 : decode cX1_restlessFirst 42 = .ok (.iconst 1, 1) := by decide +kernel
theorem dX1_restlessFirst_43 : decode cX1_restlessFirst 43 = .ok (.invokevirtual 87, 3) := by decide +kernel
theorem dX1_restlessFirst_46 : decode cX1_restlessFirst 46 = .ok (.aload_n 0, 1) := by decide +kernel
theorem dX1_restlessFirst_47 : decode cX1_restlessFirst 47 = .ok (.getfield 29, 3) := by decide +kernel
theorem dX1_restlessFirst_50 : decode cX1_restlessFirst 50 = .ok (.getfield 98, 3) := by decide +kernel
theorem dX1_restlessFirst_53 : decode cX1_restlessFirst 53 = .ok (.ifCond .le 5, 3) := by decide +kernel
theorem dX1_restlessFirst_56 : decode cX1_restlessFirst 56 = .ok (.iload_n 1, 1) := by decide +kernel
theorem dX1_restlessFirst_57 : decode cX1_restlessFirst 57 = .ok (.ireturn, 1) := by decide +kernel
theorem dX1_restlessFirst_58 : decode cX1_restlessFirst 58 = .ok (.iinc 1 1, 3) := by decide +kernel
theorem dX1_restlessFirst_61 : decode cX1_restlessFirst 61 = .ok (.goto (-59), 3) := by decide +kernel
theorem dX1_restlessFirst_64 : decode cX1_restlessFirst 64 = .ok (.ldc 101, 2) := by decide +kernel
theorem dX1_restlessFirst_66 : decode cX1_restlessFirst 66 = .ok (.ireturn, 1) := by decide +kernel
theorem dX1_expect_0 : decode cX1_expect 0 = .ok (.aload_n 0, 1) := by decide +kernel
theorem dX1_expect_1 : decode cX1_expect 1 = .ok (.iload_n 1, 1) := by decide +kernel
theorem dX1_expect_2 : decode cX1_expect 2 = .ok (.putfield 102, 3) := by decide +kernel
theorem dX1_expect_5 : decode cX1_expect 5 = .ok (.aload_n 0, 1) := by decide +kernel
theorem dX1_expect_6 : decode cX1_expect 6 = .ok (.aload_n 2, 1) := by decide +kernel
theorem dX1_expect_7 : decode cX1_expect 7 = .ok (.putfield 33, 3) := by decide +kernel
theorem dX1_expect_10 : decode cX1_expect 10 = .ok (.aload_n 0, 1) := by decide +kernel
theorem dX1_expect_11 : decode cX1_expect 11 = .ok (.iload_n 3, 1) := by decide +kernel
theorem dX1_expect_12 : decode cX1_expect 12 = .ok (.putfield 105, 3) := by decide +kernel
theorem dX1_expect_15 : decode cX1_expect 15 = .ok (.aload_n 0, 1) := by decide +kernel
theorem dX1_expect_16 : decode cX1_expect 16 = .ok (.iload 4, 2) := by decide +kernel
theorem dX1_expect_18 : decode cX1_expect 18 = .ok (.putfield 108, 3) := by decide +kernel
theorem dX1_expect_21 : decode cX1_expect 21 = .ok (.return_, 1) := by decide +kernel
theorem dX1_kindsAsExpected_0 : decode cX1_kindsAsExpected 0 = .ok (.iconst 0, 1) := by decide +kernel
theorem dX1_kindsAsExpected_1 : decode cX1_kindsAsExpected 1 = .ok (.istore_n 1, 1) := by decide +kernel
theorem dX1_kindsAsExpected_2 : decode cX1_kindsAsExpected 2 = .ok (.iconst 1, 1) := by decide +kernel
theorem dX1_kindsAsExpected_3 : decode cX1_kindsAsExpected 3 = .ok (.istore_n 2, 1) := by decide +kernel
theorem dX1_kindsAsExpected_4 : decode cX1_kindsAsExpected 4 = .ok (.iload_n 2, 1) := by decide +kernel
theorem dX1_kindsAsExpected_5 : decode cX1_kindsAsExpected 5 = .ok (.iconst 5, 1) := by decide +kernel
theorem dX1_kindsAsExpected_6 : decode cX1_kindsAsExpected 6 = .ok (.if_icmp .gt 69, 3) := by decide +kernel
theorem dX1_kindsAsExpected_9 : decode cX1_kindsAsExpected 9 = .ok (.aload_n 0, 1) := by decide +kernel
theorem dX1_kindsAsExpected_10 : decode cX1_kindsAsExpected 10 = .ok (.getfield 26, 3) := by decide +kernel
theorem dX1_kindsAsExpected_13 : decode cX1_kindsAsExpected 13 = .ok (.aload_n 0, 1) := by decide +kernel
theorem dX1_kindsAsExpected_14 : decode cX1_kindsAsExpected 14 = .ok (.getfield 22, 3) := by decide +kernel
theorem dX1_kindsAsExpected_17 : decode cX1_kindsAsExpected 17 = .ok (.invokevirtual 36, 3) := by decide +kernel
theorem dX1_kindsAsExpected_20 : decode cX1_kindsAsExpected 20 = .ok (.aload_n 0, 1) := by decide +kernel
theorem dX1_kindsAsExpected_21 : decode cX1_kindsAsExpected 21 = .ok (.getfield 26, 3) := by decide +kernel
theorem dX1_kindsAsExpected_24 : decode cX1_kindsAsExpected 24 = .ok (.getfield 111, 3) := by decide +kernel
theorem dX1_kindsAsExpected_27 : decode cX1_kindsAsExpected 27 = .ok (.aload_n 0, 1) := by decide +kernel
theorem dX1_kindsAsExpected_28 : decode cX1_kindsAsExpected 28 = .ok (.getfield 102, 3) := by decide +kernel
theorem dX1_kindsAsExpected_31 : decode cX1_kindsAsExpected 31 = .ok (.iload_n 2, 1) := by decide +kernel
theorem dX1_kindsAsExpected_32 : decode cX1_kindsAsExpected 32 = .ok (.iastore, 1) := by decide +kernel
theorem dX1_kindsAsExpected_33 : decode cX1_kindsAsExpected 33 = .ok (.aload_n 0, 1) := by decide +kernel
theorem dX1_kindsAsExpected_34 : decode cX1_kindsAsExpected 34 = .ok (.getfield 26, 3) := by decide +kernel
theorem dX1_kindsAsExpected_37 : decode cX1_kindsAsExpected 37 = .ok (.iload_n 2, 1) := by decide +kernel
theorem dX1_kindsAsExpected_38 : decode cX1_kindsAsExpected 38 = .ok (.aload_n 0, 1) := by decide +kernel
theorem dX1_kindsAsExpected_39 : decode cX1_kindsAsExpected 39 = .ok (.getfield 26, 3) := by decide +kernel
theorem dX1_kindsAsExpected_42 : decode cX1_kindsAsExpected 42 = .ok (.getfield 59, 3) := by decide +kernel
theorem dX1_kindsAsExpected_45 : decode cX1_kindsAsExpected 45 = .ok (.aload_n 0, 1) := by decide +kernel
theorem dX1_kindsAsExpected_46 : decode cX1_kindsAsExpected 46 = .ok (.getfield 102, 3) := by decide +kernel
theorem dX1_kindsAsExpected_49 : decode cX1_kindsAsExpected 49 = .ok (.iaload, 1) := by decide +kernel
theorem dX1_kindsAsExpected_50 : decode cX1_kindsAsExpected 50 = .ok (.invokevirtual 114, 3) := by decide +kernel
theorem dX1_kindsAsExpected_53 : decode cX1_kindsAsExpected 53 = .ok (.ifCond .eq 16, 3) := by decide +kernel
theorem dX1_kindsAsExpected_56 : decode cX1_kindsAsExpected 56 = .ok (.aload_n 0, 1) := by decide +kernel
theorem dX1_kindsAsExpected_57 : decode cX1_kindsAsExpected 57 = .ok (.invokevirtual 118, 3) := by decide +kernel
theorem dX1_kindsAsExpected_60 : decode cX1_kindsAsExpected 60 = .ok (.ifCond .eq 9, 3) := by decide +kernel
theorem dX1_kindsAsExpected_63 : decode cX1_kindsAsExpected 63 = .ok (.iload_n 1, 1) := by decide +kernel
theorem dX1_kindsAsExpected_64 : decode cX1_kindsAsExpected 64 = .ok (.iconst 1, 1) := by decide +kernel
theorem dX1_kindsAsExpected_65 : decode cX1_kindsAsExpected 65 = .ok (.iload_n 2, 1) := by decide +kernel
theorem dX1_kindsAsExpected_66 : decode cX1_kindsAsExpected 66 = .ok (.ishl, 1) := by decide +kernel
theorem dX1_kindsAsExpected_67 : decode cX1_kindsAsExpected 67 = .ok (.ior, 1) := by decide +kernel
theorem dX1_kindsAsExpected_68 : decode cX1_kindsAsExpected 68 = .ok (.istore_n 1, 1) := by decide +kernel
theorem dX1_kindsAsExpected_69 : decode cX1_kindsAsExpected 69 = .ok (.iinc 2 1, 3) := by decide +kernel
theorem dX1_kindsAsExpected_72 : decode cX1_kindsAsExpected 72 = .ok (.goto (-68), 3) := by decide +kernel
theorem dX1_kindsAsExpected_75 : decode cX1_kindsAsExpected 75 = .ok (.iload_n 1, 1) := by decide +kernel
theorem dX1_kindsAsExpected_76 : decode cX1_kindsAsExpected 76 = .ok (.ireturn, 1) := by decide +kernel
theorem dX1_numbersAsExpected_0 : decode cX1_numbersAsExpected 0 = .ok (.iconst 0, 1) := by decide +kernel
theorem dX1_numbersAsExpected_1 : decode cX1_numbersAsExpected 1 = .ok (.istore_n 1, 1) := by decide +kernel
theorem dX1_numbersAsExpected_2 : decode cX1_numbersAsExpected 2 = .ok (.iconst 0, 1) := by decide +kernel
theorem dX1_numbersAsExpected_3 : decode cX1_numbersAsExpected 3 = .ok (.istore_n 2, 1) := by decide +kernel
theorem dX1_numbersAsExpected_4 : decode cX1_numbersAsExpected 4 = .ok (.iload_n 2, 1) := by decide +kernel
theorem dX1_numbersAsExpected_5 : decode cX1_numbersAsExpected 5 = .ok (.bipush 20, 2) := by decide +kernel
theorem dX1_numbersAsExpected_7 : decode cX1_numbersAsExpected 7 = .ok (.if_icmp .gt 69, 3) := by decide +kernel
theorem dX1_numbersAsExpected_10 : decode cX1_numbersAsExpected 10 = .ok (.aload_n 0, 1) := by decide +kernel
theorem dX1_numbersAsExpected_11 : decode cX1_numbersAsExpected 11 = .ok (.getfield 26, 3) := by decide +kernel
theorem dX1_numbersAsExpected_14 : decode cX1_numbersAsExpected 14 = .ok (.aload_n 0, 1) := by decide +kernel
theorem dX1_numbersAsExpected_15 : decode cX1_numbersAsExpected 15 = .ok (.getfield 22, 3) := by decide +kernel
theorem dX1_numbersAsExpected_18 : decode cX1_numbersAsExpected 18 = .ok (.invokevirtual 36, 3) := by decide +kernel
theorem dX1_numbersAsExpected_21 : decode cX1_numbersAsExpected 21 = .ok (.aload_n 0, 1) := by decide +kernel
theorem dX1_numbersAsExpected_22 : decode cX1_numbersAsExpected 22 = .ok (.getfield 26, 3) := by decide +kernel
theorem dX1_numbersAsExpected_25 : decode cX1_numbersAsExpected 25 = .ok (.getfield 59, 3) := by decide +kernel
theorem dX1_numbersAsExpected_28 : decode cX1_numbersAsExpected 28 = .ok (.aload_n 0, 1) := by decide +kernel
theorem dX1_numbersAsExpected_29 : decode cX1_numbersAsExpected 29 = .ok (.getfield 102, 3) := by decide +kernel
theorem dX1_numbersAsExpected_32 : decode cX1_numbersAsExpected 32 = .ok (.iload_n 2, 1) := by decide +kernel
theorem dX1_numbersAsExpected_33 : decode cX1_numbersAsExpected 33 = .ok (.iastore, 1) := by decide +kernel
theorem dX1_numbersAsExpected_34 : decode cX1_numbersAsExpected 34 = .ok (.aload_n 0, 1) := by decide +kernel
theorem dX1_numbersAsExpected_35 : decode cX1_numbersAsExpected 35 = .ok (.getfield 26, 3) := by decide +kernel
theorem dX1_numbersAsExpected_38 : decode cX1_numbersAsExpected 38 = .ok (.aload_n 0, 1) := by decide +kernel
theorem dX1_numbersAsExpected_39 : decode cX1_numbersAsExpected 39 = .ok (.getfield 26, 3) := by decide +kernel
theorem dX1_numbersAsExpected_42 : decode cX1_numbersAsExpected 42 = .ok (.getfield 111, 3) := by decide +kernel
theorem dX1_numbersAsExpected_45 : decode cX1_numbersAsExpected 45 = .ok (.aload_n 0, 1) := by decide +kernel
theorem dX1_numbersAsExpected_46 : decode cX1_numbersAsExpected 46 = .ok (.getfield 102, 3) := by decide +kernel
theorem dX1_numbersAsExpected_49 : decode cX1_numbersAsExpected 49 = .ok (.iaload, 1) := by decide +kernel
theorem dX1_numbersAsExpected_50 : decode cX1_numbersAsExpected 50 = .ok (.iload_n 2, 1) := by decide +kernel
theorem dX1_numbersAsExpected_51 : decode cX1_numbersAsExpected 51 = .ok (.invokevirtual 114, 3) := by decide +kernel
theorem dX1_numbersAsExpected_54 : decode cX1_numbersAsExpected 54 = .ok (.ifCond .eq 16, 3) := by decide +kernel
theorem dX1_numbersAsExpected_57 : decode cX1_numbersAsExpected 57 = .ok (.aload_n 0, 1) := by decide +kernel
theorem dX1_numbersAsExpected_58 : decode cX1_numbersAsExpected 58 = .ok (.invokevirtual 118, 3) := by decide +kernel
theorem dX1_numbersAsExpected_61 : decode cX1_numbersAsExpected 61 = .ok (.ifCond .eq 9, 3) := by decide +kernel
theorem dX1_numbersAsExpected_64 : decode cX1_numbersAsExpected 64 = .ok (.iload_n 1, 1) := by decide +kernel
theorem dX1_numbersAsExpected_65 : decode cX1_numbersAsExpected 65 = .ok (.iconst 1, 1) := by decide +kernel
theorem dX1_numbersAsExpected_66 : decode cX1_numbersAsExpected 66 = .ok (.iload_n 2, 1) := by decide +kernel
theorem dX1_numbersAsExpected_67 : decode cX1_numbersAsExpected 67 = .ok (.ishl, 1) := by decide +kernel
theorem dX1_numbersAsExpected_68 : decode cX1_numbersAsExpected 68 = .ok (.ior, 1) := by decide +kernel
theorem dX1_numbersAsExpected_69 : decode cX1_numbersAsExpected 69 = .ok (.istore_n 1, 1) := by decide +kernel
theorem dX1_numbersAsExpected_70 : decode cX1_numbersAsExpected 70 = .ok (.iinc 2 1, 3) := by decide +kernel
theorem dX1_numbersAsExpected_73 : decode cX1_numbersAsExpected 73 = .ok (.goto (-69), 3) := by decide +kernel
theorem dX1_numbersAsExpected_76 : decode cX1_numbersAsExpected 76 = .ok (.iload_n 1, 1) := by decide +kernel
theorem dX1_numbersAsExpected_77 : decode cX1_numbersAsExpected 77 = .ok (.ireturn, 1) := by decide +kernel
theorem dX1_firstsAsExpected_0 : decode cX1_firstsAsExpected 0 = .ok (.iconst 0, 1) := by decide +kernel
theorem dX1_firstsAsExpected_1 : decode cX1_firstsAsExpected 1 = .ok (.istore_n 2, 1) := by decide +kernel
theorem dX1_firstsAsExpected_2 : decode cX1_firstsAsExpected 2 = .ok (.iconst 1, 1) := by decide +kernel
theorem dX1_firstsAsExpected_3 : decode cX1_firstsAsExpected 3 = .ok (.istore_n 3, 1) := by decide +kernel
theorem dX1_firstsAsExpected_4 : decode cX1_firstsAsExpected 4 = .ok (.iload_n 3, 1) := by decide +kernel
theorem dX1_firstsAsExpected_5 : decode cX1_firstsAsExpected 5 = .ok (.bipush 87, 2) := by decide +kernel
theorem dX1_firstsAsExpected_7 : decode cX1_firstsAsExpected 7 = .ok (.if_icmp .gt 44, 3) := by decide +kernel
theorem dX1_firstsAsExpected_10 : decode cX1_firstsAsExpected 10 = .ok (.aload_n 0, 1) := by decide +kernel
theorem dX1_firstsAsExpected_11 : decode cX1_firstsAsExpected 11 = .ok (.getfield 26, 3) := by decide +kernel
theorem dX1_firstsAsExpected_14 : decode cX1_firstsAsExpected 14 = .ok (.aload_n 0, 1) := by decide +kernel
theorem dX1_firstsAsExpected_15 : decode cX1_firstsAsExpected 15 = .ok (.getfield 22, 3) := by decide +kernel
theorem dX1_firstsAsExpected_18 : decode cX1_firstsAsExpected 18 = .ok (.invokevirtual 36, 3) := by decide +kernel
theorem dX1_firstsAsExpected_21 : decode cX1_firstsAsExpected 21 = .ok (.aload_n 0, 1) := by decide +kernel
theorem dX1_firstsAsExpected_22 : decode cX1_firstsAsExpected 22 = .ok (.getfield 26, 3) := by decide +kernel
theorem dX1_firstsAsExpected_25 : decode cX1_firstsAsExpected 25 = .ok (.iload_n 3, 1) := by decide +kernel
theorem dX1_firstsAsExpected_26 : decode cX1_firstsAsExpected 26 = .ok (.putfield 95, 3) := by decide +kernel
theorem dX1_firstsAsExpected_29 : decode cX1_firstsAsExpected 29 = .ok (.aload_n 0, 1) := by decide +kernel
theorem dX1_firstsAsExpected_30 : decode cX1_firstsAsExpected 30 = .ok (.invokevirtual 118, 3) := by decide +kernel
theorem dX1_firstsAsExpected_33 : decode cX1_firstsAsExpected 33 = .ok (.ifCond .eq 12, 3) := by decide +kernel
theorem dX1_firstsAsExpected_36 : decode cX1_firstsAsExpected 36 = .ok (.iload_n 1, 1) := by decide +kernel
theorem dX1_firstsAsExpected_37 : decode cX1_firstsAsExpected 37 = .ok (.ifCond .ne 5, 3) := by decide +kernel
theorem dX1_firstsAsExpected_40 : decode cX1_firstsAsExpected 40 = .ok (.iload_n 3, 1) := by decide +kernel
theorem dX1_firstsAsExpected_41 : decode cX1_firstsAsExpected 41 = .ok (.ireturn, 1) := by decide +kernel
theorem dX1_firstsAsExpected_42 : decode cX1_firstsAsExpected 42 = .ok (.iinc 2 1, 3) := by decide +kernel
theorem dX1_firstsAsExpected_45 : decode cX1_firstsAsExpected 45 = .ok (.iinc 3 1, 3) := by decide +kernel
theorem dX1_firstsAsExpected_48 : decode cX1_firstsAsExpected 48 = .ok (.goto (-44), 3) := by decide +kernel
theorem dX1_firstsAsExpected_51 : decode cX1_firstsAsExpected 51 = .ok (.iload_n 1, 1) := by decide +kernel
theorem dX1_firstsAsExpected_52 : decode cX1_firstsAsExpected 52 = .ok (.ifCond .eq 7, 3) := by decide +kernel
theorem dX1_firstsAsExpected_55 : decode cX1_firstsAsExpected 55 = .ok (.iload_n 2, 1) := by decide +kernel
theorem dX1_firstsAsExpected_56 : decode cX1_firstsAsExpected 56 = .ok (.goto 5, 3) := by decide +kernel
theorem dX1_firstsAsExpected_59 : decode cX1_firstsAsExpected 59 = .ok (.ldc 101, 2) := by decide +kernel
theorem dX1_firstsAsExpected_61 : decode cX1_firstsAsExpected 61 = .ok (.ireturn, 1) := by decide +kernel
theorem dX1_comesAsExpected_0 : decode cX1_comesAsExpected 0 = .ok (.iconst 0, 1) := by decide +kernel
theorem dX1_comesAsExpected_1 : decode cX1_comesAsExpected 1 = .ok (.istore_n 1, 1) := by decide +kernel
theorem dX1_comesAsExpected_2 : decode cX1_comesAsExpected 2 = .ok (.iload_n 1, 1) := by decide +kernel
theorem dX1_comesAsExpected_3 : decode cX1_comesAsExpected 3 = .ok (.aload_n 0, 1) := by decide +kernel
theorem dX1_comesAsExpected_4 : decode cX1_comesAsExpected 4 = .ok (.getfield 108, 3) := by decide +kernel
theorem dX1_comesAsExpected_7 : decode cX1_comesAsExpected 7 = .ok (.if_icmp .ge 64, 3) := by decide +kernel
theorem dX1_comesAsExpected_10 : decode cX1_comesAsExpected 10 = .ok (.aload_n 0, 1) := by decide +kernel
theorem dX1_comesAsExpected_11 : decode cX1_comesAsExpected 11 = .ok (.getfield 105, 3) := by decide +kernel
theorem dX1_comesAsExpected_14 : decode cX1_comesAsExpected 14 = .ok (.iload_n 1, 1) := by decide +kernel
theorem dX1_comesAsExpected_15 : decode cX1_comesAsExpected 15 = .ok (.iadd, 1) := by decide +kernel
theorem dX1_comesAsExpected_16 : decode cX1_comesAsExpected 16 = .ok (.istore_n 2, 1) := by decide +kernel
theorem dX1_comesAsExpected_17 : decode cX1_comesAsExpected 17 = .ok (.aload_n 0, 1) := by decide +kernel
theorem dX1_comesAsExpected_18 : decode cX1_comesAsExpected 18 = .ok (.getfield 29, 3) := by decide +kernel
theorem dX1_comesAsExpected_21 : decode cX1_comesAsExpected 21 = .ok (.aload_n 0, 1) := by decide +kernel
theorem dX1_comesAsExpected_22 : decode cX1_comesAsExpected 22 = .ok (.getfield 26, 3) := by decide +kernel
theorem dX1_comesAsExpected_25 : decode cX1_comesAsExpected 25 = .ok (.invokevirtual 42, 3) := by decide +kernel
theorem dX1_comesAsExpected_28 : decode cX1_comesAsExpected 28 = .ok (.pop, 1) := by decide +kernel
theorem dX1_comesAsExpected_29 : decode cX1_comesAsExpected 29 = .ok (.iload_n 2, 1) := by decide +kernel
theorem dX1_comesAsExpected_30 : decode cX1_comesAsExpected 30 = .ok (.ifCond .lt 33, 3) := by decide +kernel
theorem dX1_comesAsExpected_33 : decode cX1_comesAsExpected 33 = .ok (.iload_n 2, 1) := by decide +kernel
theorem dX1_comesAsExpected_34 : decode cX1_comesAsExpected 34 = .ok (.aload_n 0, 1) := by decide +kernel
theorem dX1_comesAsExpected_35 : decode cX1_comesAsExpected 35 = .ok (.getfield 33, 3) := by decide +kernel
theorem dX1_comesAsExpected_38 : decode cX1_comesAsExpected 38 = .ok (.arraylength, 1) := by decide +kernel
theorem dX1_comesAsExpected_39 : decode cX1_comesAsExpected 39 = .ok (.if_icmp .ge 24, 3) := by decide +kernel
theorem dX1_comesAsExpected_42 : decode cX1_comesAsExpected 42 = .ok (.aload_n 0, 1) := by decide +kernel
theorem dX1_comesAsExpected_43 : decode cX1_comesAsExpected 43 = .ok (.getfield 26, 3) := by decide +kernel
theorem dX1_comesAsExpected_46 : decode cX1_comesAsExpected 46 = .ok (.getfield 48, 3) := by decide +kernel
theorem dX1_comesAsExpected_49 : decode cX1_comesAsExpected 49 = .ok (.aload_n 0, 1) := by decide +kernel
theorem dX1_comesAsExpected_50 : decode cX1_comesAsExpected 50 = .ok (.getfield 102, 3) := by decide +kernel
theorem dX1_comesAsExpected_53 : decode cX1_comesAsExpected 53 = .ok (.iaload, 1) := by decide +kernel
theorem dX1_comesAsExpected_54 : decode cX1_comesAsExpected 54 = .ok (.aload_n 0, 1) := by decide +kernel
theorem dX1_comesAsExpected_55 : decode cX1_comesAsExpected 55 = .ok (.getfield 33, 3) := by decide +kernel
theorem dX1_comesAsExpected_58 : decode cX1_comesAsExpected 58 = .ok (.iload_n 2, 1) := by decide +kernel
theorem dX1_comesAsExpected_59 : decode cX1_comesAsExpected 59 = .ok (.iaload, 1) := by decide +kernel
theorem dX1_comesAsExpected_60 : decode cX1_comesAsExpected 60 = .ok (.if_icmp .eq 5, 3) := by decide +kernel
theorem dX1_comesAsExpected_63 : decode cX1_comesAsExpected 63 = .ok (.iconst 0, 1) := by decide +kernel
theorem dX1_comesAsExpected_64 : decode cX1_comesAsExpected 64 = .ok (.ireturn, 1) := by decide +kernel
theorem dX1_comesAsExpected_65 : decode cX1_comesAsExpected 65 = .ok (.iinc 1 1, 3) := by decide +kernel
theorem dX1_comesAsExpected_68 : decode cX1_comesAsExpected 68 = .ok (.goto (-66), 3) := by decide +kernel
theorem dX1_comesAsExpected_71 : decode cX1_comesAsExpected 71 = .ok (.iconst 1, 1) := by decide +kernel
theorem dX1_comesAsExpected_72 : decode cX1_comesAsExpected 72 = .ok (.ireturn, 1) := by decide +kernel
theorem dX1_weightOfRest_0 : decode cX1_weightOfRest 0 = .ok (.aload_n 0, 1) := by decide +kernel
theorem dX1_weightOfRest_1 : decode cX1_weightOfRest 1 = .ok (.invokevirtual 122, 3) := by decide +kernel
theorem dX1_weightOfRest_4 : decode cX1_weightOfRest 4 = .ok (.istore_n 2, 1) := by decide +kernel
theorem dX1_weightOfRest_5 : decode cX1_weightOfRest 5 = .ok (.lconst 0, 1) := by decide +kernel
theorem dX1_weightOfRest_6 : decode cX1_weightOfRest 6 = .ok (.lstore_n 3, 1) := by decide +kernel
theorem dX1_weightOfRest_7 : decode cX1_weightOfRest 7 = .ok (.iconst 0, 1) := by decide +kernel
theorem dX1_weightOfRest_8 : decode cX1_weightOfRest 8 = .ok (.istore 5, 2) := by decide +kernel
theorem dX1_weightOfRest_10 : decode cX1_weightOfRest 10 = .ok (.iload 5, 2) := by decide +kernel
theorem dX1_weightOfRest_12 : decode cX1_weightOfRest 12 = .ok (.iconst 1, 1) := by decide +kernel
theorem dX1_weightOfRest_13 : decode cX1_weightOfRest 13 = .ok (.iload_n 2, 1) := by decide +kernel
theorem dX1_weightOfRest_14 : decode cX1_weightOfRest 14 = .ok (.ishl, 1) := by decide +kernel
theorem dX1_weightOfRest_15 : decode cX1_weightOfRest 15 = .ok (.if_icmp .ge 40, 3) := by decide +kernel
theorem dX1_weightOfRest_18 : decode cX1_weightOfRest 18 = .ok (.iload 5, 2) := by decide +kernel
theorem dX1_weightOfRest_20 : decode cX1_weightOfRest 20 = .ok (.iload_n 2, 1) := by decide +kernel
theorem dX1_weightOfRest_21 : decode cX1_weightOfRest 21 = .ok (.iload_n 1, 1) := by decide +kernel
theorem dX1_weightOfRest_22 : decode cX1_weightOfRest 22 = .ok (.invokestatic 125, 3) := by decide +kernel
theorem dX1_weightOfRest_25 : decode cX1_weightOfRest 25 = .ok (.lstore 6, 2) := by decide +kernel
theorem dX1_weightOfRest_27 : decode cX1_weightOfRest 27 = .ok (.lload 6, 2) := by decide +kernel
theorem dX1_weightOfRest_29 : decode cX1_weightOfRest 29 = .ok (.lconst 0, 1) := by decide +kernel
theorem dX1_weightOfRest_30 : decode cX1_weightOfRest 30 = .ok (.lcmp, 1) := by decide +kernel
theorem dX1_weightOfRest_31 : decode cX1_weightOfRest 31 = .ok (.ifCond .le 18, 3) := by decide +kernel
theorem dX1_weightOfRest_34 : decode cX1_weightOfRest 34 = .ok (.aload_n 0, 1) := by decide +kernel
theorem dX1_weightOfRest_35 : decode cX1_weightOfRest 35 = .ok (.iload 5, 2) := by decide +kernel
theorem dX1_weightOfRest_37 : decode cX1_weightOfRest 37 = .ok (.iload_n 2, 1) := by decide +kernel
theorem dX1_weightOfRest_38 : decode cX1_weightOfRest 38 = .ok (.invokevirtual 129, 3) := by decide +kernel
theorem dX1_weightOfRest_41 : decode cX1_weightOfRest 41 = .ok (.ifCond .eq 8, 3) := by decide +kernel
theorem dX1_weightOfRest_44 : decode cX1_weightOfRest 44 = .ok (.lload_n 3, 1) := by decide +kernel
theorem dX1_weightOfRest_45 : decode cX1_weightOfRest 45 = .ok (.lload 6, 2) := by decide +kernel
theorem dX1_weightOfRest_47 : decode cX1_weightOfRest 47 = .ok (.ladd, 1) := by decide +kernel
theorem dX1_weightOfRest_48 : decode cX1_weightOfRest 48 = .ok (.lstore_n 3, 1) := by decide +kernel
theorem dX1_weightOfRest_49 : decode cX1_weightOfRest 49 = .ok (.iinc 5 1, 3) := by decide +kernel
theorem dX1_weightOfRest_52 : decode cX1_weightOfRest 52 = .ok (.goto (-42), 3) := by decide +kernel
theorem dX1_weightOfRest_55 : decode cX1_weightOfRest 55 = .ok (.lload_n 3, 1) := by decide +kernel
theorem dX1_weightOfRest_56 : decode cX1_weightOfRest 56 = .ok (.lreturn, 1) := by decide +kernel
theorem dX1_weightOfAll_0 : decode cX1_weightOfAll 0 = .ok (.aload_n 0, 1) := by decide +kernel
theorem dX1_weightOfAll_1 : decode cX1_weightOfAll 1 = .ok (.invokevirtual 122, 3) := by decide +kernel
theorem dX1_weightOfAll_4 : decode cX1_weightOfAll 4 = .ok (.istore_n 1, 1) := by decide +kernel
theorem dX1_weightOfAll_5 : decode cX1_weightOfAll 5 = .ok (.lconst 1, 1) := by decide +kernel
theorem dX1_weightOfAll_6 : decode cX1_weightOfAll 6 = .ok (.lstore_n 2, 1) := by decide +kernel
theorem dX1_weightOfAll_7 : decode cX1_weightOfAll 7 = .ok (.iconst 0, 1) := by decide +kernel
theorem dX1_weightOfAll_8 : decode cX1_weightOfAll 8 = .ok (.istore 4, 2) := by decide +kernel
theorem dX1_weightOfAll_10 : decode cX1_weightOfAll 10 = .ok (.iload 4, 2) := by decide +kernel
theorem dX1_weightOfAll_12 : decode cX1_weightOfAll 12 = .ok (.iload_n 1, 1) := by decide +kernel
theorem dX1_weightOfAll_13 : decode cX1_weightOfAll 13 = .ok (.if_icmp .ge 15, 3) := by decide +kernel
theorem dX1_weightOfAll_16 : decode cX1_weightOfAll 16 = .ok (.lload_n 2, 1) := by decide +kernel
theorem dX1_weightOfAll_17 : decode cX1_weightOfAll 17 = .ok (.ldc2_w 132, 3) := by decide +kernel
theorem dX1_weightOfAll_20 : decode cX1_weightOfAll 20 = .ok (.lmul, 1) := by decide +kernel
theorem dX1_weightOfAll_21 : decode cX1_weightOfAll 21 = .ok (.lstore_n 2, 1) := by decide +kernel
theorem dX1_weightOfAll_22 : decode cX1_weightOfAll 22 = .ok (.iinc 4 1, 3) := by decide +kernel
theorem dX1_weightOfAll_25 : decode cX1_weightOfAll 25 = .ok (.goto (-15), 3) := by decide +kernel
theorem dX1_weightOfAll_28 : decode cX1_weightOfAll 28 = .ok (.lload_n 2, 1) := by decide +kernel
theorem dX1_weightOfAll_29 : decode cX1_weightOfAll 29 = .ok (.lreturn, 1) := by decide +kernel
theorem dX1_gatherGrowing_0 : decode cX1_gatherGrowing 0 = .ok (.iconst 0, 1) := by decide +kernel
theorem dX1_gatherGrowing_1 : decode cX1_gatherGrowing 1 = .ok (.istore_n 1, 1) := by decide +kernel
theorem dX1_gatherGrowing_2 : decode cX1_gatherGrowing 2 = .ok (.iconst 0, 1) := by decide +kernel
theorem dX1_gatherGrowing_3 : decode cX1_gatherGrowing 3 = .ok (.istore_n 2, 1) := by decide +kernel
theorem dX1_gatherGrowing_4 : decode cX1_gatherGrowing 4 = .ok (.iload_n 2, 1) := by decide +kernel
theorem dX1_gatherGrowing_5 : decode cX1_gatherGrowing 5 = .ok (.aload_n 0, 1) := by decide +kernel
theorem dX1_gatherGrowing_6 : decode cX1_gatherGrowing 6 = .ok (.getfield 22, 3) := by decide +kernel
theorem dX1_gatherGrowing_9 : decode cX1_gatherGrowing 9 = .ok (.getfield 55, 3) := by decide +kernel
theorem dX1_gatherGrowing_12 : decode cX1_gatherGrowing 12 = .ok (.if_icmp .ge 46, 3) := by decide +kernel
theorem dX1_gatherGrowing_15 : decode cX1_gatherGrowing 15 = .ok (.aload_n 0, 1) := by decide +kernel
theorem dX1_gatherGrowing_16 : decode cX1_gatherGrowing 16 = .ok (.getfield 22, 3) := by decide +kernel
theorem dX1_gatherGrowing_19 : decode cX1_gatherGrowing 19 = .ok (.getfield 111, 3) := by decide +kernel
theorem dX1_gatherGrowing_22 : decode cX1_gatherGrowing 22 = .ok (.iload_n 2, 1) := by decide +kernel
theorem dX1_gatherGrowing_23 : decode cX1_gatherGrowing 23 = .ok (.iaload, 1) := by decide +kernel
theorem dX1_gatherGrowing_24 : decode cX1_gatherGrowing 24 = .ok (.iconst 4, 1) := by decide +kernel
theorem dX1_gatherGrowing_25 : decode cX1_gatherGrowing 25 = .ok (.if_icmp .ne 27, 3) := by decide +kernel
theorem dX1_gatherGrowing_28 : decode cX1_gatherGrowing 28 = .ok (.aload_n 0, 1) := by decide +kernel
theorem dX1_gatherGrowing_29 : decode cX1_gatherGrowing 29 = .ok (.getfield 22, 3) := by decide +kernel
theorem dX1_gatherGrowing_32 : decode cX1_gatherGrowing 32 = .ok (.getfield 59, 3) := by decide +kernel
theorem dX1_gatherGrowing_35 : decode cX1_gatherGrowing 35 = .ok (.iload_n 2, 1) := by decide +kernel
theorem dX1_gatherGrowing_36 : decode cX1_gatherGrowing 36 = .ok (.iaload, 1) := by decide +kernel
theorem dX1_gatherGrowing_37 : decode cX1_gatherGrowing 37 = .ok (.bipush 20, 2) := by decide +kernel
theorem dX1_gatherGrowing_39 : decode cX1_gatherGrowing 39 = .ok (.if_icmp .ge 13, 3) := by decide +kernel
theorem dX1_gatherGrowing_42 : decode cX1_gatherGrowing 42 = .ok (.aload_n 0, 1) := by decide +kernel
theorem dX1_gatherGrowing_43 : decode cX1_gatherGrowing 43 = .ok (.getfield 18, 3) := by decide +kernel
theorem dX1_gatherGrowing_46 : decode cX1_gatherGrowing 46 = .ok (.iload_n 1, 1) := by decide +kernel
theorem dX1_gatherGrowing_47 : decode cX1_gatherGrowing 47 = .ok (.iload_n 2, 1) := by decide +kernel
theorem dX1_gatherGrowing_48 : decode cX1_gatherGrowing 48 = .ok (.iastore, 1) := by decide +kernel
theorem dX1_gatherGrowing_49 : decode cX1_gatherGrowing 49 = .ok (.iinc 1 1, 3) := by decide +kernel
theorem dX1_gatherGrowing_52 : decode cX1_gatherGrowing 52 = .ok (.iinc 2 1, 3) := by decide +kernel
theorem dX1_gatherGrowing_55 : decode cX1_gatherGrowing 55 = .ok (.goto (-51), 3) := by decide +kernel
theorem dX1_gatherGrowing_58 : decode cX1_gatherGrowing 58 = .ok (.iload_n 1, 1) := by decide +kernel
theorem dX1_gatherGrowing_59 : decode cX1_gatherGrowing 59 = .ok (.ireturn, 1) := by decide +kernel
theorem dX1_weightOf_0 : decode cX1_weightOf 0 = .ok (.lconst 1, 1) := by decide +kernel
theorem dX1_weightOf_1 : decode cX1_weightOf 1 = .ok (.lstore_n 3, 1) := by decide +kernel
theorem dX1_weightOf_2 : decode cX1_weightOf 2 = .ok (.iconst 0, 1) := by decide +kernel
theorem dX1_weightOf_3 : decode cX1_weightOf 3 = .ok (.istore 5, 2) := by decide +kernel
theorem dX1_weightOf_5 : decode cX1_weightOf 5 = .ok (.iload 5, 2) := by decide +kernel
theorem dX1_weightOf_7 : decode cX1_weightOf 7 = .ok (.iload_n 1, 1) := by decide +kernel
theorem dX1_weightOf_8 : decode cX1_weightOf 8 = .ok (.if_icmp .ge 32, 3) := by decide +kernel
theorem dX1_weightOf_11 : decode cX1_weightOf 11 = .ok (.lload_n 3, 1) := by decide +kernel
theorem dX1_weightOf_12 : decode cX1_weightOf 12 = .ok (.iload_n 0, 1) := by decide +kernel
theorem dX1_weightOf_13 : decode cX1_weightOf 13 = .ok (.iload 5, 2) := by decide +kernel
theorem dX1_weightOf_15 : decode cX1_weightOf 15 = .ok (.ishr, 1) := by decide +kernel
theorem dX1_weightOf_16 : decode cX1_weightOf 16 = .ok (.iconst 1, 1) := by decide +kernel
theorem dX1_weightOf_17 : decode cX1_weightOf 17 = .ok (.iand, 1) := by decide +kernel
theorem dX1_weightOf_18 : decode cX1_weightOf 18 = .ok (.iconst 1, 1) := by decide +kernel
theorem dX1_weightOf_19 : decode cX1_weightOf 19 = .ok (.if_icmp .ne 8, 3) := by decide +kernel
theorem dX1_weightOf_22 : decode cX1_weightOf 22 = .ok (.iload_n 2, 1) := by decide +kernel
theorem dX1_weightOf_23 : decode cX1_weightOf 23 = .ok (.i2l, 1) := by decide +kernel
theorem dX1_weightOf_24 : decode cX1_weightOf 24 = .ok (.goto 8, 3) := by decide +kernel
theorem dX1_weightOf_27 : decode cX1_weightOf 27 = .ok (.bipush 10, 2) := by decide +kernel
theorem dX1_weightOf_29 : decode cX1_weightOf 29 = .ok (.iload_n 2, 1) := by decide +kernel
theorem dX1_weightOf_30 : decode cX1_weightOf 30 = .ok (.isub, 1) := by decide +kernel
theorem dX1_weightOf_31 : decode cX1_weightOf 31 = .ok (.i2l, 1) := by decide +kernel
theorem dX1_weightOf_32 : decode cX1_weightOf 32 = .ok (.lmul, 1) := by decide +kernel
theorem dX1_weightOf_33 : decode cX1_weightOf 33 = .ok (.lstore_n 3, 1) := by decide +kernel
theorem dX1_weightOf_34 : decode cX1_weightOf 34 = .ok (.iinc 5 1, 3) := by decide +kernel
theorem dX1_weightOf_37 : decode cX1_weightOf 37 = .ok (.goto (-32), 3) := by decide +kernel
theorem dX1_weightOf_40 : decode cX1_weightOf 40 = .ok (.lload_n 3, 1) := by decide +kernel
theorem dX1_weightOf_41 : decode cX1_weightOf 41 = .ok (.lreturn, 1) := by decide +kernel
theorem dX1_settlesGrown_0 : decode cX1_settlesGrown 0 = .ok (.aload_n 0, 1) := by decide +kernel
theorem dX1_settlesGrown_1 : decode cX1_settlesGrown 1 = .ok (.getfield 26, 3) := by decide +kernel
theorem dX1_settlesGrown_4 : decode cX1_settlesGrown 4 = .ok (.aload_n 0, 1) := by decide +kernel
theorem dX1_settlesGrown_5 : decode cX1_settlesGrown 5 = .ok (.getfield 22, 3) := by decide +kernel
theorem dX1_settlesGrown_8 : decode cX1_settlesGrown 8 = .ok (.invokevirtual 36, 3) := by decide +kernel
theorem dX1_settlesGrown_11 : decode cX1_settlesGrown 11 = .ok (.iconst 0, 1) := by decide +kernel
theorem dX1_settlesGrown_12 : decode cX1_settlesGrown 12 = .ok (.istore_n 3, 1) := by decide +kernel
theorem dX1_settlesGrown_13 : decode cX1_settlesGrown 13 = .ok (.iload_n 3, 1) := by decide +kernel
theorem dX1_settlesGrown_14 : decode cX1_settlesGrown 14 = .ok (.iload_n 2, 1) := by decide +kernel
theorem dX1_settlesGrown_15 : decode cX1_settlesGrown 15 = .ok (.if_icmp .ge 31, 3) := by decide +kernel
theorem dX1_settlesGrown_18 : decode cX1_settlesGrown 18 = .ok (.aload_n 0, 1) := by decide +kernel
theorem dX1_settlesGrown_19 : decode cX1_settlesGrown 19 = .ok (.getfield 26, 3) := by decide +kernel
theorem dX1_settlesGrown_22 : decode cX1_settlesGrown 22 = .ok (.getfield 59, 3) := by decide +kernel
theorem dX1_settlesGrown_25 : decode cX1_settlesGrown 25 = .ok (.aload_n 0, 1) := by decide +kernel
theorem dX1_settlesGrown_26 : decode cX1_settlesGrown 26 = .ok (.getfield 18, 3) := by decide +kernel
theorem dX1_settlesGrown_29 : decode cX1_settlesGrown 29 = .ok (.iload_n 3, 1) := by decide +kernel
theorem dX1_settlesGrown_30 : decode cX1_settlesGrown 30 = .ok (.iaload, 1) := by decide +kernel
theorem dX1_settlesGrown_31 : decode cX1_settlesGrown 31 = .ok (.dup2, 1) := by decide +kernel
theorem dX1_settlesGrown_32 : decode cX1_settlesGrown 32 = .ok (.iaload, 1) := by decide +kernel
theorem dX1_settlesGrown_33 : decode cX1_settlesGrown 33 = .ok (.iload_n 1, 1) := by decide +kernel
theorem dX1_settlesGrown_34 : decode cX1_settlesGrown 34 = .ok (.iload_n 3, 1) := by decide +kernel
theorem dX1_settlesGrown_35 : decode cX1_settlesGrown 35 = .ok (.ishr, 1) := by decide +kernel
theorem dX1_settlesGrown_36 : decode cX1_settlesGrown 36 = .ok (.iconst 1, 1) := by decide +kernel
theorem dX1_settlesGrown_37 : decode cX1_settlesGrown 37 = .ok (.iand, 1) := by decide +kernel
theorem dX1_settlesGrown_38 : decode cX1_settlesGrown 38 = .ok (.iadd, 1) := by decide +kernel
theorem dX1_settlesGrown_39 : decode cX1_settlesGrown 39 = .ok (.iastore, 1) := by decide +kernel
theorem dX1_settlesGrown_40 : decode cX1_settlesGrown 40 = .ok (.iinc 3 1, 3) := by decide +kernel
theorem dX1_settlesGrown_43 : decode cX1_settlesGrown 43 = .ok (.goto (-30), 3) := by decide +kernel
theorem dX1_settlesGrown_46 : decode cX1_settlesGrown 46 = .ok (.aload_n 0, 1) := by decide +kernel
theorem dX1_settlesGrown_47 : decode cX1_settlesGrown 47 = .ok (.getfield 26, 3) := by decide +kernel
theorem dX1_settlesGrown_50 : decode cX1_settlesGrown 50 = .ok (.invokevirtual 84, 3) := by decide +kernel
theorem dX1_settlesGrown_53 : decode cX1_settlesGrown 53 = .ok (.aload_n 0, 1) := by decide +kernel
theorem dX1_settlesGrown_54 : decode cX1_settlesGrown 54 = .ok (.getfield 29, 3) := by decide +kernel
theorem dX1_settlesGrown_57 : decode cX1_settlesGrown 57 = .ok (.aload_n 0, 1) := by decide +kernel
theorem dX1_settlesGrown_58 : decode cX1_settlesGrown 58 = .ok (.getfield 26, 3) := by decide +kernel
theorem dX1_settlesGrown_61 : decode cX1_settlesGrown 61 = .ok (.iconst 1, 1) := by decide +kernel
theorem dX1_settlesGrown_62 : decode cX1_settlesGrown 62 = .ok (.invokevirtual 87, 3) := by decide +kernel
theorem dX1_settlesGrown_65 : decode cX1_settlesGrown 65 = .ok (.aload_n 0, 1) := by decide +kernel
theorem dX1_settlesGrown_66 : decode cX1_settlesGrown 66 = .ok (.getfield 29, 3) := by decide +kernel
theorem dX1_settlesGrown_69 : decode cX1_settlesGrown 69 = .ok (.getfield 98, 3) := by decide +kernel
theorem dX1_settlesGrown_72 : decode cX1_settlesGrown 72 = .ok (.ifCond .ne 17, 3) := by decide +kernel
theorem dX1_settlesGrown_75 : decode cX1_settlesGrown 75 = .ok (.aload_n 0, 1) := by decide +kernel
theorem dX1_settlesGrown_76 : decode cX1_settlesGrown 76 = .ok (.getfield 29, 3) := by decide +kernel
theorem dX1_settlesGrown_79 : decode cX1_settlesGrown 79 = .ok (.getfield 134, 3) := by decide +kernel
theorem dX1_settlesGrown_82 : decode cX1_settlesGrown 82 = .ok (.ifCond .eq 7, 3) := by decide +kernel
theorem dX1_settlesGrown_85 : decode cX1_settlesGrown 85 = .ok (.iconst 1, 1) := by decide +kernel
theorem dX1_settlesGrown_86 : decode cX1_settlesGrown 86 = .ok (.goto 4, 3) := by decide +kernel
theorem dX1_settlesGrown_89 : decode cX1_settlesGrown 89 = .ok (.iconst 0, 1) := by decide +kernel
theorem dX1_settlesGrown_90 : decode cX1_settlesGrown 90 = .ok (.ireturn, 1) := by decide +kernel
theorem dX1_editsThatChange_0 : decode cX1_editsThatChange 0 = .ok (.aload_n 0, 1) := by decide +kernel
theorem dX1_editsThatChange_1 : decode cX1_editsThatChange 1 = .ok (.getfield 26, 3) := by decide +kernel
theorem dX1_editsThatChange_4 : decode cX1_editsThatChange 4 = .ok (.aload_n 0, 1) := by decide +kernel
theorem dX1_editsThatChange_5 : decode cX1_editsThatChange 5 = .ok (.getfield 22, 3) := by decide +kernel
theorem dX1_editsThatChange_8 : decode cX1_editsThatChange 8 = .ok (.invokevirtual 36, 3) := by decide +kernel
theorem dX1_editsThatChange_11 : decode cX1_editsThatChange 11 = .ok (.iload_n 2, 1) := by decide +kernel
theorem dX1_editsThatChange_12 : decode cX1_editsThatChange 12 = .ok (.i2l, 1) := by decide +kernel
theorem dX1_editsThatChange_13 : decode cX1_editsThatChange 13 = .ok (.lstore_n 3, 1) := by decide +kernel
theorem dX1_editsThatChange_14 : decode cX1_editsThatChange 14 = .ok (.iconst 0, 1) := by decide +kernel
theorem dX1_editsThatChange_15 : decode cX1_editsThatChange 15 = .ok (.istore 5, 2) := by decide +kernel
theorem dX1_editsThatChange_17 : decode cX1_editsThatChange 17 = .ok (.iconst 0, 1) := by decide +kernel
theorem dX1_editsThatChange_18 : decode cX1_editsThatChange 18 = .ok (.istore 6, 2) := by decide +kernel
theorem dX1_editsThatChange_20 : decode cX1_editsThatChange 20 = .ok (.iload 6, 2) := by decide +kernel
theorem dX1_editsThatChange_22 : decode cX1_editsThatChange 22 = .ok (.iload_n 1, 1) := by decide +kernel
theorem dX1_editsThatChange_23 : decode cX1_editsThatChange 23 = .ok (.if_icmp .ge 118, 3) := by decide +kernel
theorem dX1_editsThatChange_26 : decode cX1_editsThatChange 26 = .ok (.aload_n 0, 1) := by decide +kernel
theorem dX1_editsThatChange_27 : decode cX1_editsThatChange 27 = .ok (.getfield 26, 3) := by decide +kernel
theorem dX1_editsThatChange_30 : decode cX1_editsThatChange 30 = .ok (.getfield 55, 3) := by decide +kernel
theorem dX1_editsThatChange_33 : decode cX1_editsThatChange 33 = .ok (.ifCond .le 108, 3) := by decide +kernel
theorem dX1_editsThatChange_36 : decode cX1_editsThatChange 36 = .ok (.lload_n 3, 1) := by decide +kernel
theorem dX1_editsThatChange_37 : decode cX1_editsThatChange 37 = .ok (.ldc2_w 138, 3) := by decide +kernel
theorem dX1_editsThatChange_40 : decode cX1_editsThatChange 40 = .ok (.lmul, 1) := by decide +kernel
theorem dX1_editsThatChange_41 : decode cX1_editsThatChange 41 = .ok (.ldc2_w 140, 3) := by decide +kernel
theorem dX1_editsThatChange_44 : decode cX1_editsThatChange 44 = .ok (.lrem, 1) := by decide +kernel
theorem dX1_editsThatChange_45 : decode cX1_editsThatChange 45 = .ok (.lstore_n 3, 1) := by decide +kernel
theorem dX1_editsThatChange_46 : decode cX1_editsThatChange 46 = .ok (.lload_n 3, 1) := by decide +kernel
theorem dX1_editsThatChange_47 : decode cX1_editsThatChange 47 = .ok (.aload_n 0, 1) := by decide +kernel
theorem dX1_editsThatChange_48 : decode cX1_editsThatChange 48 = .ok (.getfield 26, 3) := by decide +kernel
theorem dX1_editsThatChange_51 : decode cX1_editsThatChange 51 = .ok (.getfield 55, 3) := by decide +kernel
theorem dX1_editsThatChange_54 : decode cX1_editsThatChange 54 = .ok (.i2l, 1) := by decide +kernel
theorem dX1_editsThatChange_55 : decode cX1_editsThatChange 55 = .ok (.lrem, 1) := by decide +kernel
theorem dX1_editsThatChange_56 : decode cX1_editsThatChange 56 = .ok (.l2i, 1) := by decide +kernel
theorem dX1_editsThatChange_57 : decode cX1_editsThatChange 57 = .ok (.istore 7, 2) := by decide +kernel
theorem dX1_editsThatChange_59 : decode cX1_editsThatChange 59 = .ok (.aload_n 0, 1) := by decide +kernel
theorem dX1_editsThatChange_60 : decode cX1_editsThatChange 60 = .ok (.getfield 26, 3) := by decide +kernel
theorem dX1_editsThatChange_63 : decode cX1_editsThatChange 63 = .ok (.getfield 111, 3) := by decide +kernel
theorem dX1_editsThatChange_66 : decode cX1_editsThatChange 66 = .ok (.iload 7, 2) := by decide +kernel
theorem dX1_editsThatChange_68 : decode cX1_editsThatChange 68 = .ok (.iaload, 1) := by decide +kernel
theorem dX1_editsThatChange_69 : decode cX1_editsThatChange 69 = .ok (.iconst 4, 1) := by decide +kernel
theorem dX1_editsThatChange_70 : decode cX1_editsThatChange 70 = .ok (.if_icmp .ne 24, 3) := by decide +kernel
theorem dX1_editsThatChange_73 : decode cX1_editsThatChange 73 = .ok (.aload_n 0, 1) := by decide +kernel
theorem dX1_editsThatChange_74 : decode cX1_editsThatChange 74 = .ok (.getfield 26, 3) := by decide +kernel
theorem dX1_editsThatChange_77 : decode cX1_editsThatChange 77 = .ok (.getfield 59, 3) := by decide +kernel
theorem dX1_editsThatChange_80 : decode cX1_editsThatChange 80 = .ok (.iload 7, 2) := by decide +kernel
theorem dX1_editsThatChange_82 : decode cX1_editsThatChange 82 = .ok (.lload_n 3, 1) := by decide +kernel
theorem dX1_editsThatChange_83 : decode cX1_editsThatChange 83 = .ok (.ldc2_w 142, 3) := by decide +kernel
theorem dX1_editsThatChange_86 : decode cX1_editsThatChange 86 = .ok (.lrem, 1) := by decide +kernel
theorem dX1_editsThatChange_87 : decode cX1_editsThatChange 87 = .ok (.l2i, 1) := by decide +kernel
theorem dX1_editsThatChange_88 : decode cX1_editsThatChange 88 = .ok (.iconst 1, 1) := by decide +kernel
theorem dX1_editsThatChange_89 : decode cX1_editsThatChange 89 = .ok (.iadd, 1) := by decide +kernel
theorem dX1_editsThatChange_90 : decode cX1_editsThatChange 90 = .ok (.iastore, 1) := by decide +kernel
theorem dX1_editsThatChange_91 : decode cX1_editsThatChange 91 = .ok (.goto 27, 3) := by decide +kernel
theorem dX1_editsThatChange_94 : decode cX1_editsThatChange 94 = .ok (.aload_n 0, 1) := by decide +kernel
theorem dX1_editsThatChange_95 : decode cX1_editsThatChange 95 = .ok (.getfield 26, 3) := by decide +kernel
theorem dX1_editsThatChange_98 : decode cX1_editsThatChange 98 = .ok (.iload 7, 2) := by decide +kernel
theorem dX1_editsThatChange_100 : decode cX1_editsThatChange 100 = .ok (.invokevirtual 62, 3) := by decide +kernel
theorem dX1_editsThatChange_103 : decode cX1_editsThatChange 103 = .ok (.ifCond .eq 15, 3) := by decide +kernel
theorem dX1_editsThatChange_106 : decode cX1_editsThatChange 106 = .ok (.aload_n 0, 1) := by decide +kernel
theorem dX1_editsThatChange_107 : decode cX1_editsThatChange 107 = .ok (.getfield 26, 3) := by decide +kernel
theorem dX1_editsThatChange_110 : decode cX1_editsThatChange 110 = .ok (.getfield 59, 3) := by decide +kernel
theorem dX1_editsThatChange_113 : decode cX1_editsThatChange 113 = .ok (.iload 7, 2) := by decide +kernel
theorem dX1_editsThatChange_115 : decode cX1_editsThatChange 115 = .ok (.iload 7, 2) := by decide +kernel
theorem dX1_editsThatChange_117 : decode cX1_editsThatChange 117 = .ok (.iastore, 1) := by decide +kernel
theorem dX1_editsThatChange_118 : decode cX1_editsThatChange 118 = .ok (.aload_n 0, 1) := by decide +kernel
theorem dX1_editsThatChange_119 : decode cX1_editsThatChange 119 = .ok (.getfield 29, 3) := by decide +kernel
theorem dX1_editsThatChange_122 : decode cX1_editsThatChange 122 = .ok (.aload_n 0, 1) := by decide +kernel
theorem dX1_editsThatChange_123 : decode cX1_editsThatChange 123 = .ok (.getfield 26, 3) := by decide +kernel
theorem dX1_editsThatChange_126 : decode cX1_editsThatChange 126 = .ok (.invokevirtual 42, 3) := by decide +kernel
theorem dX1_editsThatChange_129 : decode cX1_editsThatChange 129 = .ok (.ifCond .le 6, 3) := by decide +kernel
theorem dX1_editsThatChange_132 : decode cX1_editsThatChange 132 = .ok (.iinc 5 1, 3) := by decide +kernel
theorem dX1_editsThatChange_135 : decode cX1_editsThatChange 135 = .ok (.iinc 6 1, 3) := by decide +kernel
theorem dX1_editsThatChange_138 : decode cX1_editsThatChange 138 = .ok (.goto (-118), 3) := by decide +kernel
theorem dX1_editsThatChange_141 : decode cX1_editsThatChange 141 = .ok (.iload 5, 2) := by decide +kernel
theorem dX1_editsThatChange_143 : decode cX1_editsThatChange 143 = .ok (.ireturn, 1) := by decide +kernel
theorem dX2_init_0 : decode cX2_init 0 = .ok (.aload_n 0, 1) := by decide +kernel
theorem dX2_init_1 : decode cX2_init 1 = .ok (.invokespecial 3, 3) := by decide +kernel
theorem dX2_init_4 : decode cX2_init 4 = .ok (.aload_n 0, 1) := by decide +kernel
theorem dX2_init_5 : decode cX2_init 5 = .ok (.bipush 12, 2) := by decide +kernel
theorem dX2_init_7 : decode cX2_init 7 = .ok (.newarray .int, 2) := by decide +kernel
theorem dX2_init_9 : decode cX2_init 9 = .ok (.putfield 9, 3) := by decide +kernel
theorem dX2_init_12 : decode cX2_init 12 = .ok (.aload_n 0, 1) := by decide +kernel
theorem dX2_init_13 : decode cX2_init 13 = .ok (.bipush 12, 2) := by decide +kernel
theorem dX2_init_15 : decode cX2_init 15 = .ok (.newarray .int, 2) := by decide +kernel
theorem dX2_init_17 : decode cX2_init 17 = .ok (.putfield 15, 3) := by decide +kernel
theorem dX2_init_20 : decode cX2_init 20 = .ok (.aload_n 0, 1) := by decide +kernel
theorem dX2_init_21 : decode cX2_init 21 = .ok (.bipush 12, 2) := by decide +kernel
theorem dX2_init_23 : decode cX2_init 23 = .ok (.newarray .int, 2) := by decide +kernel
theorem dX2_init_25 : decode cX2_init 25 = .ok (.putfield 18, 3) := by decide +kernel
theorem dX2_init_28 : decode cX2_init 28 = .ok (.return_, 1) := by decide +kernel
theorem dX2_setOut_0 : decode cX2_setOut 0 = .ok (.aload_n 1, 1) := by decide +kernel
theorem dX2_setOut_1 : decode cX2_setOut 1 = .ok (.getfield 21, 3) := by decide +kernel
theorem dX2_setOut_4 : decode cX2_setOut 4 = .ok (.istore_n 3, 1) := by decide +kernel
theorem dX2_setOut_5 : decode cX2_setOut 5 = .ok (.iconst 0, 1) := by decide +kernel
theorem dX2_setOut_6 : decode cX2_setOut 6 = .ok (.istore 4, 2) := by decide +kernel
theorem dX2_setOut_8 : decode cX2_setOut 8 = .ok (.iconst 0, 1) := by decide +kernel
theorem dX2_setOut_9 : decode cX2_setOut 9 = .ok (.istore 5, 2) := by decide +kernel
theorem dX2_setOut_11 : decode cX2_setOut 11 = .ok (.iconst 0, 1) := by decide +kernel
theorem dX2_setOut_12 : decode cX2_setOut 12 = .ok (.istore 6, 2) := by decide +kernel
theorem dX2_setOut_14 : decode cX2_setOut 14 = .ok (.iload 6, 2) := by decide +kernel
theorem dX2_setOut_16 : decode cX2_setOut 16 = .ok (.aload_n 1, 1) := by decide +kernel
theorem dX2_setOut_17 : decode cX2_setOut 17 = .ok (.getfield 27, 3) := by decide +kernel
theorem dX2_setOut_20 : decode cX2_setOut 20 = .ok (.if_icmp .ge 141, 3) := by decide +kernel
theorem dX2_setOut_23 : decode cX2_setOut 23 = .ok (.aload_n 1, 1) := by decide +kernel
theorem dX2_setOut_24 : decode cX2_setOut 24 = .ok (.getfield 30, 3) := by decide +kernel
theorem dX2_setOut_27 : decode cX2_setOut 27 = .ok (.iload 6, 2) := by decide +kernel
theorem dX2_setOut_29 : decode cX2_setOut 29 = .ok (.iaload, 1) := by decide +kernel
theorem dX2_setOut_30 : decode cX2_setOut 30 = .ok (.iconst 5, 1) := by decide +kernel
theorem dX2_setOut_31 : decode cX2_setOut 31 = .ok (.if_icmp .ne 7, 3) := by decide +kernel
theorem dX2_setOut_34 : decode cX2_setOut 34 = .ok (.iconst 1, 1) := by decide +kernel
theorem dX2_setOut_35 : decode cX2_setOut 35 = .ok (.goto 4, 3) := by decide +kernel
theorem dX2_setOut_38 : decode cX2_setOut 38 = .ok (.iconst 0, 1) := by decide +kernel
theorem dX2_setOut_39 : decode cX2_setOut 39 = .ok (.istore 7, 2) := by decide +kernel
theorem dX2_setOut_41 : decode cX2_setOut 41 = .ok (.aload_n 1, 1) := by decide +kernel
theorem dX2_setOut_42 : decode cX2_setOut 42 = .ok (.aload_n 1, 1) := by decide +kernel
theorem dX2_setOut_43 : decode cX2_setOut 43 = .ok (.getfield 33, 3) := by decide +kernel
theorem dX2_setOut_46 : decode cX2_setOut 46 = .ok (.iload 6, 2) := by decide +kernel
theorem dX2_setOut_48 : decode cX2_setOut 48 = .ok (.invokevirtual 36, 3) := by decide +kernel
theorem dX2_setOut_51 : decode cX2_setOut 51 = .ok (.iload 6, 2) := by decide +kernel
theorem dX2_setOut_53 : decode cX2_setOut 53 = .ok (.iload_n 2, 1) := by decide +kernel
theorem dX2_setOut_54 : decode cX2_setOut 54 = .ok (.if_icmp .ne 7, 3) := by decide +kernel
theorem dX2_setOut_57 : decode cX2_setOut 57 = .ok (.iconst 1, 1) := by decide +kernel
theorem dX2_setOut_58 : decode cX2_setOut 58 = .ok (.goto 4, 3) := by decide +kernel
theorem dX2_setOut_61 : decode cX2_setOut 61 = .ok (.iconst 0, 1) := by decide +kernel
theorem dX2_setOut_62 : decode cX2_setOut 62 = .ok (.iadd, 1) := by decide +kernel
theorem dX2_setOut_63 : decode cX2_setOut 63 = .ok (.istore 8, 2) := by decide +kernel
theorem dX2_setOut_65 : decode cX2_setOut 65 = .ok (.iload 7, 2) := by decide +kernel
theorem dX2_setOut_67 : decode cX2_setOut 67 = .ok (.ifCond .ne 41, 3) := by decide +kernel
theorem dX2_setOut_70 : decode cX2_setOut 70 = .ok (.iload 5, 2) := by decide +kernel
theorem dX2_setOut_72 : decode cX2_setOut 72 = .ok (.ifCond .le 36, 3) := by decide +kernel
theorem dX2_setOut_75 : decode cX2_setOut 75 = .ok (.iload 5, 2) := by decide +kernel
theorem dX2_setOut_77 : decode cX2_setOut 77 = .ok (.iload 8, 2) := by decide +kernel
theorem dX2_setOut_79 : decode cX2_setOut 79 = .ok (.iadd, 1) := by decide +kernel
theorem dX2_setOut_80 : decode cX2_setOut 80 = .ok (.aload_n 1, 1) := by decide +kernel
theorem dX2_setOut_81 : decode cX2_setOut 81 = .ok (.getfield 40, 3) := by decide +kernel
theorem dX2_setOut_84 : decode cX2_setOut 84 = .ok (.if_icmp .le 24, 3) := by decide +kernel
theorem dX2_setOut_87 : decode cX2_setOut 87 = .ok (.iconst 0, 1) := by decide +kernel
theorem dX2_setOut_88 : decode cX2_setOut 88 = .ok (.istore 5, 2) := by decide +kernel
theorem dX2_setOut_90 : decode cX2_setOut 90 = .ok (.iinc 4 1, 3) := by decide +kernel
theorem dX2_setOut_93 : decode cX2_setOut 93 = .ok (.iload 4, 2) := by decide +kernel
theorem dX2_setOut_95 : decode cX2_setOut 95 = .ok (.aload_n 1, 1) := by decide +kernel
theorem dX2_setOut_96 : decode cX2_setOut 96 = .ok (.getfield 43, 3) := by decide +kernel
theorem dX2_setOut_99 : decode cX2_setOut 99 = .ok (.if_icmp .lt 9, 3) := by decide +kernel
theorem dX2_setOut_102 : decode cX2_setOut 102 = .ok (.iconst 0, 1) := by decide +kernel
theorem dX2_setOut_103 : decode cX2_setOut 103 = .ok (.istore 4, 2) := by decide +kernel
theorem dX2_setOut_105 : decode cX2_setOut 105 = .ok (.iinc 3 1, 3) := by decide +kernel
theorem dX2_setOut_108 : decode cX2_setOut 108 = .ok (.aload_n 0, 1) := by decide +kernel
theorem dX2_setOut_109 : decode cX2_setOut 109 = .ok (.getfield 9, 3) := by decide +kernel
theorem dX2_setOut_112 : decode cX2_setOut 112 = .ok (.iload 6, 2) := by decide +kernel
theorem dX2_setOut_114 : decode cX2_setOut 114 = .ok (.iload_n 3, 1) := by decide +kernel
theorem dX2_setOut_115 : decode cX2_setOut 115 = .ok (.iastore, 1) := by decide +kernel
theorem dX2_setOut_116 : decode cX2_setOut 116 = .ok (.aload_n 0, 1) := by decide +kernel
theorem dX2_setOut_117 : decode cX2_setOut 117 = .ok (.getfield 15, 3) := by decide +kernel
theorem dX2_setOut_120 : decode cX2_setOut 120 = .ok (.iload 6, 2) := by decide +kernel
theorem dX2_setOut_122 : decode cX2_setOut 122 = .ok (.iload 4, 2) := by decide +kernel
theorem dX2_setOut_124 : decode cX2_setOut 124 = .ok (.iastore, 1) := by decide +kernel
theorem dX2_setOut_125 : decode cX2_setOut 125 = .ok (.aload_n 0, 1) := by decide +kernel
theorem dX2_setOut_126 : decode cX2_setOut 126 = .ok (.getfield 18, 3) := by decide +kernel
theorem dX2_setOut_129 : decode cX2_setOut 129 = .ok (.iload 6, 2) := by decide +kernel
theorem dX2_setOut_131 : decode cX2_setOut 131 = .ok (.iload 5, 2) := by decide +kernel
theorem dX2_setOut_133 : decode cX2_setOut 133 = .ok (.iastore, 1) := by decide +kernel
theorem dX2_setOut_134 : decode cX2_setOut 134 = .ok (.iload 5, 2) := by decide +kernel
theorem dX2_setOut_136 : decode cX2_setOut 136 = .ok (.iload 8, 2) := by decide +kernel
theorem dX2_setOut_138 : decode cX2_setOut 138 = .ok (.iadd, 1) := by decide +kernel
theorem dX2_setOut_139 : decode cX2_setOut 139 = .ok (.istore 5, 2) := by decide +kernel
theorem dX2_setOut_141 : decode cX2_setOut 141 = .ok (.iload 7, 2) := by decide +kernel
theorem dX2_setOut_143 : decode cX2_setOut 143 = .ok (.ifCond .eq 12, 3) := by decide +kernel
theorem dX2_setOut_146 : decode cX2_setOut 146 = .ok (.iinc 3 1, 3) := by decide +kernel
theorem dX2_setOut_149 : decode cX2_setOut 149 = .ok (.iconst 0, 1) := by decide +kernel
theorem dX2_setOut_150 : decode cX2_setOut 150 = .ok (.istore 4, 2) := by decide +kernel
theorem dX2_setOut_152 : decode cX2_setOut 152 = .ok (.iconst 0, 1) := by decide +kernel
theorem dX2_setOut_153 : decode cX2_setOut 153 = .ok (.istore 5, 2) := by decide +kernel
theorem dX2_setOut_155 : decode cX2_setOut 155 = .ok (.iinc 6 1, 3) := by decide +kernel
theorem dX2_setOut_158 : decode cX2_setOut 158 = .ok (.goto (-144), 3) := by decide +kernel
theorem dX2_setOut_161 : decode cX2_setOut 161 = .ok (.return_, 1) := by decide +kernel
theorem dX2_hasElsewhere_0 : decode cX2_hasElsewhere 0 = .ok (.aload_n 0, 1) := by decide +kernel
theorem dX2_hasElsewhere_1 : decode cX2_hasElsewhere 1 = .ok (.getfield 9, 3) := by decide +kernel
theorem dX2_hasElsewhere_4 : decode cX2_hasElsewhere 4 = .ok (.iload_n 1, 1) := by decide +kernel
theorem dX2_hasElsewhere_5 : decode cX2_hasElsewhere 5 = .ok (.iaload, 1) := by decide +kernel
theorem dX2_hasElsewhere_6 : decode cX2_hasElsewhere 6 = .ok (.aload_n 2, 1) := by decide +kernel
theorem dX2_hasElsewhere_7 : decode cX2_hasElsewhere 7 = .ok (.getfield 9, 3) := by decide +kernel
theorem dX2_hasElsewhere_10 : decode cX2_hasElsewhere 10 = .ok (.iload_n 1, 1) := by decide +kernel
theorem dX2_hasElsewhere_11 : decode cX2_hasElsewhere 11 = .ok (.iaload, 1) := by decide +kernel
theorem dX2_hasElsewhere_12 : decode cX2_hasElsewhere 12 = .ok (.if_icmp .ne 33, 3) := by decide +kernel
theorem dX2_hasElsewhere_15 : decode cX2_hasElsewhere 15 = .ok (.aload_n 0, 1) := by decide +kernel
theorem dX2_hasElsewhere_16 : decode cX2_hasElsewhere 16 = .ok (.getfield 15, 3) := by decide +kernel
theorem dX2_hasElsewhere_19 : decode cX2_hasElsewhere 19 = .ok (.iload_n 1, 1) := by decide +kernel
theorem dX2_hasElsewhere_20 : decode cX2_hasElsewhere 20 = .ok (.iaload, 1) := by decide +kernel
theorem dX2_hasElsewhere_21 : decode cX2_hasElsewhere 21 = .ok (.aload_n 2, 1) := by decide +kernel
theorem dX2_hasElsewhere_22 : decode cX2_hasElsewhere 22 = .ok (.getfield 15, 3) := by decide +kernel
theorem dX2_hasElsewhere_25 : decode cX2_hasElsewhere 25 = .ok (.iload_n 1, 1) := by decide +kernel
theorem dX2_hasElsewhere_26 : decode cX2_hasElsewhere 26 = .ok (.iaload, 1) := by decide +kernel
theorem dX2_hasElsewhere_27 : decode cX2_hasElsewhere 27 = .ok (.if_icmp .ne 18, 3) := by decide +kernel
theorem dX2_hasElsewhere_30 : decode cX2_hasElsewhere 30 = .ok (.aload_n 0, 1) := by decide +kernel
theorem dX2_hasElsewhere_31 : decode cX2_hasElsewhere 31 = .ok (.getfield 18, 3) := by decide +kernel
theorem dX2_hasElsewhere_34 : decode cX2_hasElsewhere 34 = .ok (.iload_n 1, 1) := by decide +kernel
theorem dX2_hasElsewhere_35 : decode cX2_hasElsewhere 35 = .ok (.iaload, 1) := by decide +kernel
theorem dX2_hasElsewhere_36 : decode cX2_hasElsewhere 36 = .ok (.aload_n 2, 1) := by decide +kernel
theorem dX2_hasElsewhere_37 : decode cX2_hasElsewhere 37 = .ok (.getfield 18, 3) := by decide +kernel
theorem dX2_hasElsewhere_40 : decode cX2_hasElsewhere 40 = .ok (.iload_n 1, 1) := by decide +kernel
theorem dX2_hasElsewhere_41 : decode cX2_hasElsewhere 41 = .ok (.iaload, 1) := by decide +kernel
theorem dX2_hasElsewhere_42 : decode cX2_hasElsewhere 42 = .ok (.if_icmp .eq 7, 3) := by decide +kernel
theorem dX2_hasElsewhere_45 : decode cX2_hasElsewhere 45 = .ok (.iconst 1, 1) := by decide +kernel
theorem dX2_hasElsewhere_46 : decode cX2_hasElsewhere 46 = .ok (.goto 4, 3) := by decide +kernel
theorem dX2_hasElsewhere_49 : decode cX2_hasElsewhere 49 = .ok (.iconst 0, 1) := by decide +kernel
theorem dX2_hasElsewhere_50 : decode cX2_hasElsewhere 50 = .ok (.ireturn, 1) := by decide +kernel
theorem dX3_init_0 : decode cX3_init 0 = .ok (.aload_n 0, 1) := by decide +kernel
theorem dX3_init_1 : decode cX3_init 1 = .ok (.invokespecial 1, 3) := by decide +kernel
theorem dX3_init_4 : decode cX3_init 4 = .ok (.aload_n 0, 1) := by decide +kernel
theorem dX3_init_5 : decode cX3_init 5 = .ok (.bipush 24, 2) := by decide +kernel
theorem dX3_init_7 : decode cX3_init 7 = .ok (.anewarray 9, 3) := by decide +kernel
theorem dX3_init_10 : decode cX3_init 10 = .ok (.putfield 11, 3) := by decide +kernel
theorem dX3_init_13 : decode cX3_init 13 = .ok (.iconst 0, 1) := by decide +kernel
theorem dX3_init_14 : decode cX3_init 14 = .ok (.istore_n 1, 1) := by decide +kernel
theorem dX3_init_15 : decode cX3_init 15 = .ok (.iload_n 1, 1) := by decide +kernel
theorem dX3_init_16 : decode cX3_init 16 = .ok (.bipush 24, 2) := by decide +kernel
theorem dX3_init_18 : decode cX3_init 18 = .ok (.if_icmp .ge 22, 3) := by decide +kernel
theorem dX3_init_21 : decode cX3_init 21 = .ok (.aload_n 0, 1) := by decide +kernel
theorem dX3_init_22 : decode cX3_init 22 = .ok (.getfield 11, 3) := by decide +kernel
theorem dX3_init_25 : decode cX3_init 25 = .ok (.iload_n 1, 1) := by decide +kernel
theorem dX3_init_26 : decode cX3_init 26 = .ok (.new 9, 3) := by decide +kernel
theorem dX3_init_29 : decode cX3_init 29 = .ok (.dup, 1) := by decide +kernel
theorem dX3_init_30 : decode cX3_init 30 = .ok (.invokespecial 15, 3) := by decide +kernel
theorem dX3_init_33 : decode cX3_init 33 = .ok (.aastore, 1) := by decide +kernel
theorem dX3_init_34 : decode cX3_init 34 = .ok (.iinc 1 1, 3) := by decide +kernel
theorem dX3_init_37 : decode cX3_init 37 = .ok (.goto (-22), 3) := by decide +kernel
theorem dX3_init_40 : decode cX3_init 40 = .ok (.return_, 1) := by decide +kernel
theorem dX3_remember_0 : decode cX3_remember 0 = .ok (.aload_n 0, 1) := by decide +kernel
theorem dX3_remember_1 : decode cX3_remember 1 = .ok (.getfield 11, 3) := by decide +kernel
theorem dX3_remember_4 : decode cX3_remember 4 = .ok (.aload_n 0, 1) := by decide +kernel
theorem dX3_remember_5 : decode cX3_remember 5 = .ok (.getfield 16, 3) := by decide +kernel
theorem dX3_remember_8 : decode cX3_remember 8 = .ok (.aload_n 0, 1) := by decide +kernel
theorem dX3_remember_9 : decode cX3_remember 9 = .ok (.getfield 20, 3) := by decide +kernel
theorem dX3_remember_12 : decode cX3_remember 12 = .ok (.iadd, 1) := by decide +kernel
theorem dX3_remember_13 : decode cX3_remember 13 = .ok (.bipush 24, 2) := by decide +kernel
theorem dX3_remember_15 : decode cX3_remember 15 = .ok (.irem, 1) := by decide +kernel
theorem dX3_remember_16 : decode cX3_remember 16 = .ok (.aaload, 1) := by decide +kernel
theorem dX3_remember_17 : decode cX3_remember 17 = .ok (.aload_n 1, 1) := by decide +kernel
theorem dX3_remember_18 : decode cX3_remember 18 = .ok (.invokevirtual 23, 3) := by decide +kernel
theorem dX3_remember_21 : decode cX3_remember 21 = .ok (.aload_n 0, 1) := by decide +kernel
theorem dX3_remember_22 : decode cX3_remember 22 = .ok (.getfield 20, 3) := by decide +kernel
theorem dX3_remember_25 : decode cX3_remember 25 = .ok (.bipush 24, 2) := by decide +kernel
theorem dX3_remember_27 : decode cX3_remember 27 = .ok (.if_icmp .ge 16, 3) := by decide +kernel
theorem dX3_remember_30 : decode cX3_remember 30 = .ok (.aload_n 0, 1) := by decide +kernel
theorem dX3_remember_31 : decode cX3_remember 31 = .ok (.dup, 1) := by decide +kernel
theorem dX3_remember_32 : decode cX3_remember 32 = .ok (.getfield 20, 3) := by decide +kernel
theorem dX3_remember_35 : decode cX3_remember 35 = .ok (.iconst 1, 1) := by decide +kernel
theorem dX3_remember_36 : decode cX3_remember 36 = .ok (.iadd, 1) := by decide +kernel
theorem dX3_remember_37 : decode cX3_remember 37 = .ok (.putfield 20, 3) := by decide +kernel
theorem dX3_remember_40 : decode cX3_remember 40 = .ok (.goto 16, 3) := by decide +kernel
theorem dX3_remember_43 : decode cX3_remember 43 = .ok (.aload_n 0, 1) := by decide +kernel
theorem dX3_remember_44 : decode cX3_remember 44 = .ok (.aload_n 0, 1) := by decide +kernel
theorem dX3_remember_45 : decode cX3_remember 45 = .ok (.getfield 16, 3) := by decide +kernel
theorem dX3_remember_48 : decode cX3_remember 48 = .ok (.iconst 1, 1) := by decide +kernel
theorem dX3_remember_49 : decode cX3_remember 49 = .ok (.iadd, 1) := by decide +kernel
theorem dX3_remember_50 : decode cX3_remember 50 = .ok (.bipush 24, 2) := by decide +kernel
theorem dX3_remember_52 : decode cX3_remember 52 = .ok (.irem, 1) := by decide +kernel
theorem dX3_remember_53 : decode cX3_remember 53 = .ok (.putfield 16, 3) := by decide +kernel
theorem dX3_remember_56 : decode cX3_remember 56 = .ok (.return_, 1) := by decide +kernel
theorem dX3_bringBack_0 : decode cX3_bringBack 0 = .ok (.aload_n 0, 1) := by decide +kernel
theorem dX3_bringBack_1 : decode cX3_bringBack 1 = .ok (.getfield 20, 3) := by decide +kernel
theorem dX3_bringBack_4 : decode cX3_bringBack 4 = .ok (.ifCond .le 34, 3) := by decide +kernel
theorem dX3_bringBack_7 : decode cX3_bringBack 7 = .ok (.aload_n 0, 1) := by decide +kernel
theorem dX3_bringBack_8 : decode cX3_bringBack 8 = .ok (.dup, 1) := by decide +kernel
theorem dX3_bringBack_9 : decode cX3_bringBack 9 = .ok (.getfield 20, 3) := by decide +kernel
theorem dX3_bringBack_12 : decode cX3_bringBack 12 = .ok (.iconst 1, 1) := by decide +kernel
theorem dX3_bringBack_13 : decode cX3_bringBack 13 = .ok (.isub, 1) := by decide +kernel
theorem dX3_bringBack_14 : decode cX3_bringBack 14 = .ok (.putfield 20, 3) := by decide +kernel
theorem dX3_bringBack_17 : decode cX3_bringBack 17 = .ok (.aload_n 1, 1) := by decide +kernel
theorem dX3_bringBack_18 : decode cX3_bringBack 18 = .ok (.aload_n 0, 1) := by decide +kernel
theorem dX3_bringBack_19 : decode cX3_bringBack 19 = .ok (.getfield 11, 3) := by decide +kernel
theorem dX3_bringBack_22 : decode cX3_bringBack 22 = .ok (.aload_n 0, 1) := by decide +kernel
theorem dX3_bringBack_23 : decode cX3_bringBack 23 = .ok (.getfield 16, 3) := by decide +kernel
theorem dX3_bringBack_26 : decode cX3_bringBack 26 = .ok (.aload_n 0, 1) := by decide +kernel
theorem dX3_bringBack_27 : decode cX3_bringBack 27 = .ok (.getfield 20, 3) := by decide +kernel
theorem dX3_bringBack_30 : decode cX3_bringBack 30 = .ok (.iadd, 1) := by decide +kernel
theorem dX3_bringBack_31 : decode cX3_bringBack 31 = .ok (.bipush 24, 2) := by decide +kernel
theorem dX3_bringBack_33 : decode cX3_bringBack 33 = .ok (.irem, 1) := by decide +kernel
theorem dX3_bringBack_34 : decode cX3_bringBack 34 = .ok (.aaload, 1) := by decide +kernel
theorem dX3_bringBack_35 : decode cX3_bringBack 35 = .ok (.invokevirtual 23, 3) := by decide +kernel
theorem dX3_bringBack_38 : decode cX3_bringBack 38 = .ok (.return_, 1) := by decide +kernel
theorem dX3_forget_0 : decode cX3_forget 0 = .ok (.aload_n 0, 1) := by decide +kernel
theorem dX3_forget_1 : decode cX3_forget 1 = .ok (.iconst 0, 1) := by decide +kernel
theorem dX3_forget_2 : decode cX3_forget 2 = .ok (.putfield 20, 3) := by decide +kernel
theorem dX3_forget_5 : decode cX3_forget 5 = .ok (.return_, 1) := by decide +kernel
theorem dX4_init_0 : decode cX4_init 0 = .ok (.aload_n 0, 1) := by decide +kernel
theorem dX4_init_1 : decode cX4_init 1 = .ok (.invokespecial 3, 3) := by decide +kernel
theorem dX4_init_4 : decode cX4_init 4 = .ok (.aload_n 0, 1) := by decide +kernel
theorem dX4_init_5 : decode cX4_init 5 = .ok (.iconst 0, 1) := by decide +kernel
theorem dX4_init_6 : decode cX4_init 6 = .ok (.newarray .int, 2) := by decide +kernel
theorem dX4_init_8 : decode cX4_init 8 = .ok (.putfield 9, 3) := by decide +kernel
theorem dX4_init_11 : decode cX4_init 11 = .ok (.return_, 1) := by decide +kernel
theorem dX4_reads_0 : decode cX4_reads 0 = .ok (.aload_n 0, 1) := by decide +kernel
theorem dX4_reads_1 : decode cX4_reads 1 = .ok (.aload_n 1, 1) := by decide +kernel
theorem dX4_reads_2 : decode cX4_reads 2 = .ok (.putfield 9, 3) := by decide +kernel
theorem dX4_reads_5 : decode cX4_reads 5 = .ok (.aload_n 0, 1) := by decide +kernel
theorem dX4_reads_6 : decode cX4_reads 6 = .ok (.iload_n 2, 1) := by decide +kernel
theorem dX4_reads_7 : decode cX4_reads 7 = .ok (.aload_n 1, 1) := by decide +kernel
theorem dX4_reads_8 : decode cX4_reads 8 = .ok (.arraylength, 1) := by decide +kernel
theorem dX4_reads_9 : decode cX4_reads 9 = .ok (.invokestatic 15, 3) := by decide +kernel
theorem dX4_reads_12 : decode cX4_reads 12 = .ok (.putfield 21, 3) := by decide +kernel
theorem dX4_reads_15 : decode cX4_reads 15 = .ok (.aload_n 0, 1) := by decide +kernel
theorem dX4_reads_16 : decode cX4_reads 16 = .ok (.iconst 0, 1) := by decide +kernel
theorem dX4_reads_17 : decode cX4_reads 17 = .ok (.putfield 25, 3) := by decide +kernel
theorem dX4_reads_20 : decode cX4_reads 20 = .ok (.aload_n 0, 1) := by decide +kernel
theorem dX4_reads_21 : decode cX4_reads 21 = .ok (.iconst 0, 1) := by decide +kernel
theorem dX4_reads_22 : decode cX4_reads 22 = .ok (.putfield 28, 3) := by decide +kernel
theorem dX4_reads_25 : decode cX4_reads 25 = .ok (.aload_n 3, 1) := by decide +kernel
theorem dX4_reads_26 : decode cX4_reads 26 = .ok (.iconst 0, 1) := by decide +kernel
theorem dX4_reads_27 : decode cX4_reads 27 = .ok (.putfield 31, 3) := by decide +kernel
theorem dX4_reads_30 : decode cX4_reads 30 = .ok (.aload_n 3, 1) := by decide +kernel
theorem dX4_reads_31 : decode cX4_reads 31 = .ok (.iconst 0, 1) := by decide +kernel
theorem dX4_reads_32 : decode cX4_reads 32 = .ok (.putfield 36, 3) := by decide +kernel
theorem dX4_reads_35 : decode cX4_reads 35 = .ok (.aload_n 0, 1) := by decide +kernel
theorem dX4_reads_36 : decode cX4_reads 36 = .ok (.aload_n 3, 1) := by decide +kernel
theorem dX4_reads_37 : decode cX4_reads 37 = .ok (.invokevirtual 39, 3) := by decide +kernel
theorem dX4_reads_40 : decode cX4_reads 40 = .ok (.iconst 0, 1) := by decide +kernel
theorem dX4_reads_41 : decode cX4_reads 41 = .ok (.istore 4, 2) := by decide +kernel
theorem dX4_reads_43 : decode cX4_reads 43 = .ok (.iload 4, 2) := by decide +kernel
theorem dX4_reads_45 : decode cX4_reads 45 = .ok (.aload_n 0, 1) := by decide +kernel
theorem dX4_reads_46 : decode cX4_reads 46 = .ok (.getfield 21, 3) := by decide +kernel
theorem dX4_reads_49 : decode cX4_reads 49 = .ok (.if_icmp .ge 39, 3) := by decide +kernel
theorem dX4_reads_52 : decode cX4_reads 52 = .ok (.aload_n 0, 1) := by decide +kernel
theorem dX4_reads_53 : decode cX4_reads 53 = .ok (.getfield 28, 3) := by decide +kernel
theorem dX4_reads_56 : decode cX4_reads 56 = .ok (.ifCond .ne 32, 3) := by decide +kernel
theorem dX4_reads_59 : decode cX4_reads 59 = .ok (.aload_n 0, 1) := by decide +kernel
theorem dX4_reads_60 : decode cX4_reads 60 = .ok (.getfield 25, 3) := by decide +kernel
theorem dX4_reads_63 : decode cX4_reads 63 = .ok (.aload_n 0, 1) := by decide +kernel
theorem dX4_reads_64 : decode cX4_reads 64 = .ok (.getfield 21, 3) := by decide +kernel
theorem dX4_reads_67 : decode cX4_reads 67 = .ok (.if_icmp .lt 10, 3) := by decide +kernel
theorem dX4_reads_70 : decode cX4_reads 70 = .ok (.aload_n 3, 1) := by decide +kernel
theorem dX4_reads_71 : decode cX4_reads 71 = .ok (.getfield 31, 3) := by decide +kernel
theorem dX4_reads_74 : decode cX4_reads 74 = .ok (.ifCond .ne 14, 3) := by decide +kernel
theorem dX4_reads_77 : decode cX4_reads 77 = .ok (.aload_n 0, 1) := by decide +kernel
theorem dX4_reads_78 : decode cX4_reads 78 = .ok (.aload_n 3, 1) := by decide +kernel
theorem dX4_reads_79 : decode cX4_reads 79 = .ok (.invokevirtual 43, 3) := by decide +kernel
theorem dX4_reads_82 : decode cX4_reads 82 = .ok (.iinc 4 1, 3) := by decide +kernel
theorem dX4_reads_85 : decode cX4_reads 85 = .ok (.goto (-42), 3) := by decide +kernel
theorem dX4_reads_88 : decode cX4_reads 88 = .ok (.aload_n 0, 1) := by decide +kernel
theorem dX4_reads_89 : decode cX4_reads 89 = .ok (.aload_n 3, 1) := by decide +kernel
theorem dX4_reads_90 : decode cX4_reads 90 = .ok (.invokevirtual 46, 3) := by decide +kernel
theorem dX4_reads_93 : decode cX4_reads 93 = .ok (.aload_n 3, 1) := by decide +kernel
theorem dX4_reads_94 : decode cX4_reads 94 = .ok (.invokevirtual 49, 3) := by decide +kernel
theorem dX4_reads_97 : decode cX4_reads 97 = .ok (.aload_n 0, 1) := by decide +kernel
theorem dX4_reads_98 : decode cX4_reads 98 = .ok (.getfield 28, 3) := by decide +kernel
theorem dX4_reads_101 : decode cX4_reads 101 = .ok (.ifCond .ne 7, 3) := by decide +kernel
theorem dX4_reads_104 : decode cX4_reads 104 = .ok (.iconst 1, 1) := by decide +kernel
theorem dX4_reads_105 : decode cX4_reads 105 = .ok (.goto 4, 3) := by decide +kernel
theorem dX4_reads_108 : decode cX4_reads 108 = .ok (.iconst 0, 1) := by decide +kernel
theorem dX4_reads_109 : decode cX4_reads 109 = .ok (.ireturn, 1) := by decide +kernel
theorem dX4_readLaw_0 : decode cX4_readLaw 0 = .ok (.aload_n 0, 1) := by decide +kernel
theorem dX4_readLaw_1 : decode cX4_readLaw 1 = .ok (.bipush 119, 2) := by decide +kernel
theorem dX4_readLaw_3 : decode cX4_readLaw 3 = .ok (.invokevirtual 52, 3) := by decide +kernel
theorem dX4_readLaw_6 : decode cX4_readLaw 6 = .ok (.aload_n 1, 1) := by decide +kernel
theorem dX4_readLaw_7 : decode cX4_readLaw 7 = .ok (.aload_n 0, 1) := by decide +kernel
theorem dX4_readLaw_8 : decode cX4_readLaw 8 = .ok (.iconst 4, 1) := by decide +kernel
theorem dX4_readLaw_9 : decode cX4_readLaw 9 = .ok (.bipush 20, 2) := by decide +kernel
theorem dX4_readLaw_11 : decode cX4_readLaw 11 = .ok (.invokevirtual 56, 3) := by decide +kernel
theorem dX4_readLaw_14 : decode cX4_readLaw 14 = .ok (.putfield 59, 3) := by decide +kernel
theorem dX4_readLaw_17 : decode cX4_readLaw 17 = .ok (.aload_n 0, 1) := by decide +kernel
theorem dX4_readLaw_18 : decode cX4_readLaw 18 = .ok (.bipush 44, 2) := by decide +kernel
theorem dX4_readLaw_20 : decode cX4_readLaw 20 = .ok (.invokevirtual 52, 3) := by decide +kernel
theorem dX4_readLaw_23 : decode cX4_readLaw 23 = .ok (.aload_n 1, 1) := by decide +kernel
theorem dX4_readLaw_24 : decode cX4_readLaw 24 = .ok (.aload_n 0, 1) := by decide +kernel
theorem dX4_readLaw_25 : decode cX4_readLaw 25 = .ok (.iconst 1, 1) := by decide +kernel
theorem dX4_readLaw_26 : decode cX4_readLaw 26 = .ok (.iconst 5, 1) := by decide +kernel
theorem dX4_readLaw_27 : decode cX4_readLaw 27 = .ok (.invokevirtual 56, 3) := by decide +kernel
theorem dX4_readLaw_30 : decode cX4_readLaw 30 = .ok (.putfield 62, 3) := by decide +kernel
theorem dX4_readLaw_33 : decode cX4_readLaw 33 = .ok (.aload_n 0, 1) := by decide +kernel
theorem dX4_readLaw_34 : decode cX4_readLaw 34 = .ok (.bipush 44, 2) := by decide +kernel
theorem dX4_readLaw_36 : decode cX4_readLaw 36 = .ok (.invokevirtual 52, 3) := by decide +kernel
theorem dX4_readLaw_39 : decode cX4_readLaw 39 = .ok (.aload_n 1, 1) := by decide +kernel
theorem dX4_readLaw_40 : decode cX4_readLaw 40 = .ok (.aload_n 0, 1) := by decide +kernel
theorem dX4_readLaw_41 : decode cX4_readLaw 41 = .ok (.iconst 1, 1) := by decide +kernel
theorem dX4_readLaw_42 : decode cX4_readLaw 42 = .ok (.bipush 87, 2) := by decide +kernel
theorem dX4_readLaw_44 : decode cX4_readLaw 44 = .ok (.invokevirtual 56, 3) := by decide +kernel
theorem dX4_readLaw_47 : decode cX4_readLaw 47 = .ok (.putfield 65, 3) := by decide +kernel
theorem dX4_readLaw_50 : decode cX4_readLaw 50 = .ok (.aload_n 0, 1) := by decide +kernel
theorem dX4_readLaw_51 : decode cX4_readLaw 51 = .ok (.bipush 59, 2) := by decide +kernel
theorem dX4_readLaw_53 : decode cX4_readLaw 53 = .ok (.invokevirtual 52, 3) := by decide +kernel
theorem dX4_readLaw_56 : decode cX4_readLaw 56 = .ok (.return_, 1) := by decide +kernel
theorem dX4_readItem_0 : decode cX4_readItem 0 = .ok (.aload_n 0, 1) := by decide +kernel
theorem dX4_readItem_1 : decode cX4_readItem 1 = .ok (.getfield 25, 3) := by decide +kernel
theorem dX4_readItem_4 : decode cX4_readItem 4 = .ok (.aload_n 0, 1) := by decide +kernel
theorem dX4_readItem_5 : decode cX4_readItem 5 = .ok (.getfield 21, 3) := by decide +kernel
theorem dX4_readItem_8 : decode cX4_readItem 8 = .ok (.if_icmp .ge 15, 3) := by decide +kernel
theorem dX4_readItem_11 : decode cX4_readItem 11 = .ok (.aload_n 0, 1) := by decide +kernel
theorem dX4_readItem_12 : decode cX4_readItem 12 = .ok (.getfield 9, 3) := by decide +kernel
theorem dX4_readItem_15 : decode cX4_readItem 15 = .ok (.aload_n 0, 1) := by decide +kernel
theorem dX4_readItem_16 : decode cX4_readItem 16 = .ok (.getfield 25, 3) := by decide +kernel
theorem dX4_readItem_19 : decode cX4_readItem 19 = .ok (.iaload, 1) := by decide +kernel
theorem dX4_readItem_20 : decode cX4_readItem 20 = .ok (.goto 5, 3) := by decide +kernel
theorem dX4_readItem_23 : decode cX4_readItem 23 = .ok (.bipush 32, 2) := by decide +kernel
theorem dX4_readItem_25 : decode cX4_readItem 25 = .ok (.invokestatic 68, 3) := by decide +kernel
theorem dX4_readItem_28 : decode cX4_readItem 28 = .ok (.istore_n 2, 1) := by decide +kernel
theorem dX4_readItem_29 : decode cX4_readItem 29 = .ok (.iload_n 2, 1) := by decide +kernel
theorem dX4_readItem_30 : decode cX4_readItem 30 = .ok (.ldc 72, 2) := by decide +kernel
theorem dX4_readItem_32 : decode cX4_readItem 32 = .ok (.if_icmp .ne 9, 3) := by decide +kernel
theorem dX4_readItem_35 : decode cX4_readItem 35 = .ok (.aload_n 0, 1) := by decide +kernel
theorem dX4_readItem_36 : decode cX4_readItem 36 = .ok (.iconst 1, 1) := by decide +kernel
theorem dX4_readItem_37 : decode cX4_readItem 37 = .ok (.putfield 28, 3) := by decide +kernel
theorem dX4_readItem_40 : decode cX4_readItem 40 = .ok (.return_, 1) := by decide +kernel
theorem dX4_readItem_41 : decode cX4_readItem 41 = .ok (.aload_n 1, 1) := by decide +kernel
theorem dX4_readItem_42 : decode cX4_readItem 42 = .ok (.getfield 31, 3) := by decide +kernel
theorem dX4_readItem_45 : decode cX4_readItem 45 = .ok (.bipush 12, 2) := by decide +kernel
theorem dX4_readItem_47 : decode cX4_readItem 47 = .ok (.if_icmp .lt 9, 3) := by decide +kernel
theorem dX4_readItem_50 : decode cX4_readItem 50 = .ok (.aload_n 0, 1) := by decide +kernel
theorem dX4_readItem_51 : decode cX4_readItem 51 = .ok (.iconst 3, 1) := by decide +kernel
theorem dX4_readItem_52 : decode cX4_readItem 52 = .ok (.putfield 28, 3) := by decide +kernel
theorem dX4_readItem_55 : decode cX4_readItem 55 = .ok (.return_, 1) := by decide +kernel
theorem dX4_readItem_56 : decode cX4_readItem 56 = .ok (.aload_n 0, 1) := by decide +kernel
theorem dX4_readItem_57 : decode cX4_readItem 57 = .ok (.dup, 1) := by decide +kernel
theorem dX4_readItem_58 : decode cX4_readItem 58 = .ok (.getfield 25, 3) := by decide +kernel
theorem dX4_readItem_61 : decode cX4_readItem 61 = .ok (.iconst 1, 1) := by decide +kernel
theorem dX4_readItem_62 : decode cX4_readItem 62 = .ok (.iadd, 1) := by decide +kernel
theorem dX4_readItem_63 : decode cX4_readItem 63 = .ok (.putfield 25, 3) := by decide +kernel
theorem dX4_readItem_66 : decode cX4_readItem 66 = .ok (.aload_n 1, 1) := by decide +kernel
theorem dX4_readItem_67 : decode cX4_readItem 67 = .ok (.getfield 73, 3) := by decide +kernel
theorem dX4_readItem_70 : decode cX4_readItem 70 = .ok (.aload_n 1, 1) := by decide +kernel
theorem dX4_readItem_71 : decode cX4_readItem 71 = .ok (.getfield 31, 3) := by decide +kernel
theorem dX4_readItem_74 : decode cX4_readItem 74 = .ok (.iload_n 2, 1) := by decide +kernel
theorem dX4_readItem_75 : decode cX4_readItem 75 = .ok (.iastore, 1) := by decide +kernel
theorem dX4_readItem_76 : decode cX4_readItem 76 = .ok (.aload_n 1, 1) := by decide +kernel
theorem dX4_readItem_77 : decode cX4_readItem 77 = .ok (.getfield 76, 3) := by decide +kernel
theorem dX4_readItem_80 : decode cX4_readItem 80 = .ok (.aload_n 1, 1) := by decide +kernel
theorem dX4_readItem_81 : decode cX4_readItem 81 = .ok (.getfield 31, 3) := by decide +kernel
theorem dX4_readItem_84 : decode cX4_readItem 84 = .ok (.aload_n 0, 1) := by decide +kernel
theorem dX4_readItem_85 : decode cX4_readItem 85 = .ok (.iload_n 2, 1) := by decide +kernel
theorem dX4_readItem_86 : decode cX4_readItem 86 = .ok (.invokevirtual 79, 3) := by decide +kernel
theorem dX4_readItem_89 : decode cX4_readItem 89 = .ok (.iastore, 1) := by decide +kernel
theorem dX4_readItem_90 : decode cX4_readItem 90 = .ok (.aload_n 1, 1) := by decide +kernel
theorem dX4_readItem_91 : decode cX4_readItem 91 = .ok (.dup, 1) := by decide +kernel
theorem dX4_readItem_92 : decode cX4_readItem 92 = .ok (.getfield 31, 3) := by decide +kernel
theorem dX4_readItem_95 : decode cX4_readItem 95 = .ok (.iconst 1, 1) := by decide +kernel
theorem dX4_readItem_96 : decode cX4_readItem 96 = .ok (.iadd, 1) := by decide +kernel
theorem dX4_readItem_97 : decode cX4_readItem 97 = .ok (.putfield 31, 3) := by decide +kernel
theorem dX4_readItem_100 : decode cX4_readItem 100 = .ok (.aload_n 0, 1) := by decide +kernel
theorem dX4_readItem_101 : decode cX4_readItem 101 = .ok (.bipush 59, 2) := by decide +kernel
theorem dX4_readItem_103 : decode cX4_readItem 103 = .ok (.invokevirtual 52, 3) := by decide +kernel
theorem dX4_readItem_106 : decode cX4_readItem 106 = .ok (.return_, 1) := by decide +kernel
theorem dX4_readNumberOf_0 : decode cX4_readNumberOf 0 = .ok (.iload_n 1, 1) := by decide +kernel
theorem dX4_readNumberOf_1 : decode cX4_readNumberOf 1 = .ok (.iconst 5, 1) := by decide +kernel
theorem dX4_readNumberOf_2 : decode cX4_readNumberOf 2 = .ok (.if_icmp .ne 5, 3) := by decide +kernel
theorem dX4_readNumberOf_5 : decode cX4_readNumberOf 5 = .ok (.iconst 0, 1) := by decide +kernel
theorem dX4_readNumberOf_6 : decode cX4_readNumberOf 6 = .ok (.ireturn, 1) := by decide +kernel
theorem dX4_readNumberOf_7 : decode cX4_readNumberOf 7 = .ok (.iload_n 1, 1) := by decide +kernel
theorem dX4_readNumberOf_8 : decode cX4_readNumberOf 8 = .ok (.iconst 4, 1) := by decide +kernel
theorem dX4_readNumberOf_9 : decode cX4_readNumberOf 9 = .ok (.if_icmp .ne 13, 3) := by decide +kernel
theorem dX4_readNumberOf_12 : decode cX4_readNumberOf 12 = .ok (.aload_n 0, 1) := by decide +kernel
theorem dX4_readNumberOf_13 : decode cX4_readNumberOf 13 = .ok (.iconst 1, 1) := by decide +kernel
theorem dX4_readNumberOf_14 : decode cX4_readNumberOf 14 = .ok (.bipush 20, 2) := by decide +kernel
theorem dX4_readNumberOf_16 : decode cX4_readNumberOf 16 = .ok (.invokevirtual 56, 3) := by decide +kernel
theorem dX4_readNumberOf_19 : decode cX4_readNumberOf 19 = .ok (.goto 10, 3) := by decide +kernel
theorem dX4_readNumberOf_22 : decode cX4_readNumberOf 22 = .ok (.aload_n 0, 1) := by decide +kernel
theorem dX4_readNumberOf_23 : decode cX4_readNumberOf 23 = .ok (.iconst 0, 1) := by decide +kernel
theorem dX4_readNumberOf_24 : decode cX4_readNumberOf 24 = .ok (.bipush 11, 2) := by decide +kernel
theorem dX4_readNumberOf_26 : decode cX4_readNumberOf 26 = .ok (.invokevirtual 56, 3) := by decide +kernel
theorem dX4_readNumberOf_29 : decode cX4_readNumberOf 29 = .ok (.ireturn, 1) := by decide +kernel
theorem dX4_readSign_0 : decode cX4_readSign 0 = .ok (.aload_n 0, 1) := by decide +kernel
theorem dX4_readSign_1 : decode cX4_readSign 1 = .ok (.getfield 28, 3) := by decide +kernel
theorem dX4_readSign_4 : decode cX4_readSign 4 = .ok (.ifCond .eq 4, 3) := by decide +kernel
theorem dX4_readSign_7 : decode cX4_readSign 7 = .ok (.return_, 1) := by decide +kernel
theorem dX4_readSign_8 : decode cX4_readSign 8 = .ok (.aload_n 0, 1) := by decide +kernel
theorem dX4_readSign_9 : decode cX4_readSign 9 = .ok (.getfield 25, 3) := by decide +kernel
theorem dX4_readSign_12 : decode cX4_readSign 12 = .ok (.aload_n 0, 1) := by decide +kernel
theorem dX4_readSign_13 : decode cX4_readSign 13 = .ok (.getfield 21, 3) := by decide +kernel
theorem dX4_readSign_16 : decode cX4_readSign 16 = .ok (.if_icmp .ge 29, 3) := by decide +kernel
theorem dX4_readSign_19 : decode cX4_readSign 19 = .ok (.aload_n 0, 1) := by decide +kernel
theorem dX4_readSign_20 : decode cX4_readSign 20 = .ok (.getfield 9, 3) := by decide +kernel
theorem dX4_readSign_23 : decode cX4_readSign 23 = .ok (.aload_n 0, 1) := by decide +kernel
theorem dX4_readSign_24 : decode cX4_readSign 24 = .ok (.getfield 25, 3) := by decide +kernel
theorem dX4_readSign_27 : decode cX4_readSign 27 = .ok (.iaload, 1) := by decide +kernel
theorem dX4_readSign_28 : decode cX4_readSign 28 = .ok (.iload_n 1, 1) := by decide +kernel
theorem dX4_readSign_29 : decode cX4_readSign 29 = .ok (.if_icmp .ne 16, 3) := by decide +kernel
theorem dX4_readSign_32 : decode cX4_readSign 32 = .ok (.aload_n 0, 1) := by decide +kernel
theorem dX4_readSign_33 : decode cX4_readSign 33 = .ok (.dup, 1) := by decide +kernel
theorem dX4_readSign_34 : decode cX4_readSign 34 = .ok (.getfield 25, 3) := by decide +kernel
theorem dX4_readSign_37 : decode cX4_readSign 37 = .ok (.iconst 1, 1) := by decide +kernel
theorem dX4_readSign_38 : decode cX4_readSign 38 = .ok (.iadd, 1) := by decide +kernel
theorem dX4_readSign_39 : decode cX4_readSign 39 = .ok (.putfield 25, 3) := by decide +kernel
theorem dX4_readSign_42 : decode cX4_readSign 42 = .ok (.goto 8, 3) := by decide +kernel
theorem dX4_readSign_45 : decode cX4_readSign 45 = .ok (.aload_n 0, 1) := by decide +kernel
theorem dX4_readSign_46 : decode cX4_readSign 46 = .ok (.iconst 1, 1) := by decide +kernel
theorem dX4_readSign_47 : decode cX4_readSign 47 = .ok (.putfield 28, 3) := by decide +kernel
theorem dX4_readSign_50 : decode cX4_readSign 50 = .ok (.return_, 1) := by decide +kernel
theorem dX4_readNumber_0 : decode cX4_readNumber 0 = .ok (.aload_n 0, 1) := by decide +kernel
theorem dX4_readNumber_1 : decode cX4_readNumber 1 = .ok (.getfield 28, 3) := by decide +kernel
theorem dX4_readNumber_4 : decode cX4_readNumber 4 = .ok (.ifCond .eq 5, 3) := by decide +kernel
theorem dX4_readNumber_7 : decode cX4_readNumber 7 = .ok (.iconst 0, 1) := by decide +kernel
theorem dX4_readNumber_8 : decode cX4_readNumber 8 = .ok (.ireturn, 1) := by decide +kernel
theorem dX4_readNumber_9 : decode cX4_readNumber 9 = .ok (.aload_n 0, 1) := by decide +kernel
theorem dX4_readNumber_10 : decode cX4_readNumber 10 = .ok (.getfield 25, 3) := by decide +kernel
theorem dX4_readNumber_13 : decode cX4_readNumber 13 = .ok (.istore_n 3, 1) := by decide +kernel
theorem dX4_readNumber_14 : decode cX4_readNumber 14 = .ok (.iconst 0, 1) := by decide +kernel
theorem dX4_readNumber_15 : decode cX4_readNumber 15 = .ok (.istore 4, 2) := by decide +kernel
theorem dX4_readNumber_17 : decode cX4_readNumber 17 = .ok (.iload_n 3, 1) := by decide +kernel
theorem dX4_readNumber_18 : decode cX4_readNumber 18 = .ok (.aload_n 0, 1) := by decide +kernel
theorem dX4_readNumber_19 : decode cX4_readNumber 19 = .ok (.getfield 21, 3) := by decide +kernel
theorem dX4_readNumber_22 : decode cX4_readNumber 22 = .ok (.if_icmp .ge 58, 3) := by decide +kernel
theorem dX4_readNumber_25 : decode cX4_readNumber 25 = .ok (.iload_n 3, 1) := by decide +kernel
theorem dX4_readNumber_26 : decode cX4_readNumber 26 = .ok (.aload_n 0, 1) := by decide +kernel
theorem dX4_readNumber_27 : decode cX4_readNumber 27 = .ok (.getfield 25, 3) := by decide +kernel
theorem dX4_readNumber_30 : decode cX4_readNumber 30 = .ok (.iconst 3, 1) := by decide +kernel
theorem dX4_readNumber_31 : decode cX4_readNumber 31 = .ok (.iadd, 1) := by decide +kernel
theorem dX4_readNumber_32 : decode cX4_readNumber 32 = .ok (.if_icmp .ge 48, 3) := by decide +kernel
theorem dX4_readNumber_35 : decode cX4_readNumber 35 = .ok (.aload_n 0, 1) := by decide +kernel
theorem dX4_readNumber_36 : decode cX4_readNumber 36 = .ok (.getfield 9, 3) := by decide +kernel
theorem dX4_readNumber_39 : decode cX4_readNumber 39 = .ok (.iload_n 3, 1) := by decide +kernel
theorem dX4_readNumber_40 : decode cX4_readNumber 40 = .ok (.iaload, 1) := by decide +kernel
theorem dX4_readNumber_41 : decode cX4_readNumber 41 = .ok (.bipush 48, 2) := by decide +kernel
theorem dX4_readNumber_43 : decode cX4_readNumber 43 = .ok (.if_icmp .lt 37, 3) := by decide +kernel
theorem dX4_readNumber_46 : decode cX4_readNumber 46 = .ok (.aload_n 0, 1) := by decide +kernel
theorem dX4_readNumber_47 : decode cX4_readNumber 47 = .ok (.getfield 9, 3) := by decide +kernel
theorem dX4_readNumber_50 : decode cX4_readNumber 50 = .ok (.iload_n 3, 1) := by decide +kernel
theorem dX4_readNumber_51 : decode cX4_readNumber 51 = .ok (.iaload, 1) := by decide +kernel
theorem dX4_readNumber_52 : decode cX4_readNumber 52 = .ok (.bipush 57, 2) := by decide +kernel
theorem dX4_readNumber_54 : decode cX4_readNumber 54 = .ok (.if_icmp .gt 26, 3) := by decide +kernel
theorem dX4_readNumber_57 : decode cX4_readNumber 57 = .ok (.iload 4, 2) := by decide +kernel
theorem dX4_readNumber_59 : decode cX4_readNumber 59 = .ok (.bipush 10, 2) := by decide +kernel
theorem dX4_readNumber_61 : decode cX4_readNumber 61 = .ok (.imul, 1) := by decide +kernel
theorem dX4_readNumber_62 : decode cX4_readNumber 62 = .ok (.aload_n 0, 1) := by decide +kernel
theorem dX4_readNumber_63 : decode cX4_readNumber 63 = .ok (.getfield 9, 3) := by decide +kernel
theorem dX4_readNumber_66 : decode cX4_readNumber 66 = .ok (.iload_n 3, 1) := by decide +kernel
theorem dX4_readNumber_67 : decode cX4_readNumber 67 = .ok (.iaload, 1) := by decide +kernel
theorem dX4_readNumber_68 : decode cX4_readNumber 68 = .ok (.iadd, 1) := by decide +kernel
theorem dX4_readNumber_69 : decode cX4_readNumber 69 = .ok (.bipush 48, 2) := by decide +kernel
theorem dX4_readNumber_71 : decode cX4_readNumber 71 = .ok (.isub, 1) := by decide +kernel
theorem dX4_readNumber_72 : decode cX4_readNumber 72 = .ok (.istore 4, 2) := by decide +kernel
theorem dX4_readNumber_74 : decode cX4_readNumber 74 = .ok (.iinc 3 1, 3) := by decide +kernel
theorem dX4_readNumber_77 : decode cX4_readNumber 77 = .ok (.goto (-60), 3) := by decide +kernel
theorem dX4_readNumber_80 : decode cX4_readNumber 80 = .ok (.iload_n 3, 1) := by decide +kernel
theorem dX4_readNumber_81 : decode cX4_readNumber 81 = .ok (.aload_n 0, 1) := by decide +kernel
theorem dX4_readNumber_82 : decode cX4_readNumber 82 = .ok (.getfield 25, 3) := by decide +kernel
theorem dX4_readNumber_85 : decode cX4_readNumber 85 = .ok (.if_icmp .eq 13, 3) := by decide +kernel
theorem dX4_readNumber_88 : decode cX4_readNumber 88 = .ok (.iload_n 3, 1) := by decide +kernel
theorem dX4_readNumber_89 : decode cX4_readNumber 89 = .ok (.aload_n 0, 1) := by decide +kernel
theorem dX4_readNumber_90 : decode cX4_readNumber 90 = .ok (.getfield 25, 3) := by decide +kernel
theorem dX4_readNumber_93 : decode cX4_readNumber 93 = .ok (.iconst 3, 1) := by decide +kernel
theorem dX4_readNumber_94 : decode cX4_readNumber 94 = .ok (.iadd, 1) := by decide +kernel
theorem dX4_readNumber_95 : decode cX4_readNumber 95 = .ok (.if_icmp .ne 11, 3) := by decide +kernel
theorem dX4_readNumber_98 : decode cX4_readNumber 98 = .ok (.aload_n 0, 1) := by decide +kernel
theorem dX4_readNumber_99 : decode cX4_readNumber 99 = .ok (.iconst 1, 1) := by decide +kernel
theorem dX4_readNumber_100 : decode cX4_readNumber 100 = .ok (.putfield 28, 3) := by decide +kernel
theorem dX4_readNumber_103 : decode cX4_readNumber 103 = .ok (.goto 28, 3) := by decide +kernel
theorem dX4_readNumber_106 : decode cX4_readNumber 106 = .ok (.iload 4, 2) := by decide +kernel
theorem dX4_readNumber_108 : decode cX4_readNumber 108 = .ok (.iload_n 1, 1) := by decide +kernel
theorem dX4_readNumber_109 : decode cX4_readNumber 109 = .ok (.if_icmp .lt 9, 3) := by decide +kernel
theorem dX4_readNumber_112 : decode cX4_readNumber 112 = .ok (.iload 4, 2) := by decide +kernel
theorem dX4_readNumber_114 : decode cX4_readNumber 114 = .ok (.iload_n 2, 1) := by decide +kernel
theorem dX4_readNumber_115 : decode cX4_readNumber 115 = .ok (.if_icmp .le 11, 3) := by decide +kernel
theorem dX4_readNumber_118 : decode cX4_readNumber 118 = .ok (.aload_n 0, 1) := by decide +kernel
theorem dX4_readNumber_119 : decode cX4_readNumber 119 = .ok (.iconst 2, 1) := by decide +kernel
theorem dX4_readNumber_120 : decode cX4_readNumber 120 = .ok (.putfield 28, 3) := by decide +kernel
theorem dX4_readNumber_123 : decode cX4_readNumber 123 = .ok (.goto 8, 3) := by decide +kernel
theorem dX4_readNumber_126 : decode cX4_readNumber 126 = .ok (.aload_n 0, 1) := by decide +kernel
theorem dX4_readNumber_127 : decode cX4_readNumber 127 = .ok (.iload_n 3, 1) := by decide +kernel
theorem dX4_readNumber_128 : decode cX4_readNumber 128 = .ok (.putfield 25, 3) := by decide +kernel
theorem dX4_readNumber_131 : decode cX4_readNumber 131 = .ok (.iload 4, 2) := by decide +kernel
theorem dX4_readNumber_133 : decode cX4_readNumber 133 = .ok (.ireturn, 1) := by decide +kernel
theorem dX4_lookAtReferences_0 : decode cX4_lookAtReferences 0 = .ok (.iconst 0, 1) := by decide +kernel
theorem dX4_lookAtReferences_1 : decode cX4_lookAtReferences 1 = .ok (.istore_n 2, 1) := by decide +kernel
theorem dX4_lookAtReferences_2 : decode cX4_lookAtReferences 2 = .ok (.iload_n 2, 1) := by decide +kernel
theorem dX4_lookAtReferences_3 : decode cX4_lookAtReferences 3 = .ok (.aload_n 1, 1) := by decide +kernel
theorem dX4_lookAtReferences_4 : decode cX4_lookAtReferences 4 = .ok (.getfield 31, 3) := by decide +kernel
theorem dX4_lookAtReferences_7 : decode cX4_lookAtReferences 7 = .ok (.if_icmp .ge 40, 3) := by decide +kernel
theorem dX4_lookAtReferences_10 : decode cX4_lookAtReferences 10 = .ok (.aload_n 0, 1) := by decide +kernel
theorem dX4_lookAtReferences_11 : decode cX4_lookAtReferences 11 = .ok (.getfield 28, 3) := by decide +kernel
theorem dX4_lookAtReferences_14 : decode cX4_lookAtReferences 14 = .ok (.ifCond .ne 33, 3) := by decide +kernel
theorem dX4_lookAtReferences_17 : decode cX4_lookAtReferences 17 = .ok (.aload_n 1, 1) := by decide +kernel
theorem dX4_lookAtReferences_18 : decode cX4_lookAtReferences 18 = .ok (.aload_n 1, 1) := by decide +kernel
theorem dX4_lookAtReferences_19 : decode cX4_lookAtReferences 19 = .ok (.getfield 73, 3) := by decide +kernel
theorem dX4_lookAtReferences_22 : decode cX4_lookAtReferences 22 = .ok (.iload_n 2, 1) := by decide +kernel
theorem dX4_lookAtReferences_23 : decode cX4_lookAtReferences 23 = .ok (.iaload, 1) := by decide +kernel
theorem dX4_lookAtReferences_24 : decode cX4_lookAtReferences 24 = .ok (.aload_n 1, 1) := by decide +kernel
theorem dX4_lookAtReferences_25 : decode cX4_lookAtReferences 25 = .ok (.getfield 76, 3) := by decide +kernel
theorem dX4_lookAtReferences_28 : decode cX4_lookAtReferences 28 = .ok (.iload_n 2, 1) := by decide +kernel
theorem dX4_lookAtReferences_29 : decode cX4_lookAtReferences 29 = .ok (.iaload, 1) := by decide +kernel
theorem dX4_lookAtReferences_30 : decode cX4_lookAtReferences 30 = .ok (.invokevirtual 82, 3) := by decide +kernel
theorem dX4_lookAtReferences_33 : decode cX4_lookAtReferences 33 = .ok (.ifCond .ne 8, 3) := by decide +kernel
theorem dX4_lookAtReferences_36 : decode cX4_lookAtReferences 36 = .ok (.aload_n 0, 1) := by decide +kernel
theorem dX4_lookAtReferences_37 : decode cX4_lookAtReferences 37 = .ok (.iconst 4, 1) := by decide +kernel
theorem dX4_lookAtReferences_38 : decode cX4_lookAtReferences 38 = .ok (.putfield 28, 3) := by decide +kernel
theorem dX4_lookAtReferences_41 : decode cX4_lookAtReferences 41 = .ok (.iinc 2 1, 3) := by decide +kernel
theorem dX4_lookAtReferences_44 : decode cX4_lookAtReferences 44 = .ok (.goto (-42), 3) := by decide +kernel
theorem dX4_lookAtReferences_47 : decode cX4_lookAtReferences 47 = .ok (.return_, 1) := by decide +kernel
theorem dX4_kindOf_0 : decode cX4_kindOf 0 = .ok (.iload_n 0, 1) := by decide +kernel
theorem dX4_kindOf_1 : decode cX4_kindOf 1 = .ok (.tableswitch 85 102 116 #[83, 85, 85, 85, 85, 77, 85, 81, 85, 85, 85, 85, 79, 85, 75], 75) := by decide +kernel
theorem dX4_kindOf_76 : decode cX4_kindOf 76 = .ok (.iconst 4, 1) := by decide +kernel
theorem dX4_kindOf_77 : decode cX4_kindOf 77 = .ok (.ireturn, 1) := by decide +kernel
theorem dX4_kindOf_78 : decode cX4_kindOf 78 = .ok (.iconst 5, 1) := by decide +kernel
theorem dX4_kindOf_79 : decode cX4_kindOf 79 = .ok (.ireturn, 1) := by decide +kernel
theorem dX4_kindOf_80 : decode cX4_kindOf 80 = .ok (.iconst 1, 1) := by decide +kernel
theorem dX4_kindOf_81 : decode cX4_kindOf 81 = .ok (.ireturn, 1) := by decide +kernel
theorem dX4_kindOf_82 : decode cX4_kindOf 82 = .ok (.iconst 2, 1) := by decide +kernel
theorem dX4_kindOf_83 : decode cX4_kindOf 83 = .ok (.ireturn, 1) := by decide +kernel
theorem dX4_kindOf_84 : decode cX4_kindOf 84 = .ok (.iconst 3, 1) := by decide +kernel
theorem dX4_kindOf_85 : decode cX4_kindOf 85 = .ok (.ireturn, 1) := by decide +kernel
theorem dX4_kindOf_86 : decode cX4_kindOf 86 = .ok (.ldc 72, 2) := by decide +kernel
theorem dX4_kindOf_88 : decode cX4_kindOf 88 = .ok (.ireturn, 1) := by decide +kernel
theorem dX5_init_0 : decode cX5_init 0 = .ok (.aload_n 0, 1) := by decide +kernel
theorem dX5_init_1 : decode cX5_init 1 = .ok (.invokespecial 1, 3) := by decide +kernel
theorem dX5_init_4 : decode cX5_init 4 = .ok (.aload_n 0, 1) := by decide +kernel
theorem dX5_init_5 : decode cX5_init 5 = .ok (.bipush 8, 2) := by decide +kernel
theorem dX5_init_7 : decode cX5_init 7 = .ok (.newarray .int, 2) := by decide +kernel
theorem dX5_init_9 : decode cX5_init 9 = .ok (.putfield 9, 3) := by decide +kernel
theorem dX5_init_12 : decode cX5_init 12 = .ok (.aload_n 0, 1) := by decide +kernel
theorem dX5_init_13 : decode cX5_init 13 = .ok (.bipush 8, 2) := by decide +kernel
theorem dX5_init_15 : decode cX5_init 15 = .ok (.newarray .int, 2) := by decide +kernel
theorem dX5_init_17 : decode cX5_init 17 = .ok (.putfield 13, 3) := by decide +kernel
theorem dX5_init_20 : decode cX5_init 20 = .ok (.aload_n 0, 1) := by decide +kernel
theorem dX5_init_21 : decode cX5_init 21 = .ok (.bipush 8, 2) := by decide +kernel
theorem dX5_init_23 : decode cX5_init 23 = .ok (.bipush 40, 2) := by decide +kernel
theorem dX5_init_25 : decode cX5_init 25 = .ok (.multianewarray 16 2, 4) := by decide +kernel
theorem dX5_init_29 : decode cX5_init 29 = .ok (.putfield 18, 3) := by decide +kernel
theorem dX5_init_32 : decode cX5_init 32 = .ok (.aload_n 0, 1) := by decide +kernel
theorem dX5_init_33 : decode cX5_init 33 = .ok (.getfield 9, 3) := by decide +kernel
theorem dX5_init_36 : decode cX5_init 36 = .ok (.iconst (-1), 1) := by decide +kernel
theorem dX5_init_37 : decode cX5_init 37 = .ok (.invokestatic 21, 3) := by decide +kernel
theorem dX5_init_40 : decode cX5_init 40 = .ok (.return_, 1) := by decide +kernel
theorem dX5_isNumber_0 : decode cX5_isNumber 0 = .ok (.iload_n 0, 1) := by decide +kernel
theorem dX5_isNumber_1 : decode cX5_isNumber 1 = .ok (.ifCond .lt 13, 3) := by decide +kernel
theorem dX5_isNumber_4 : decode cX5_isNumber 4 = .ok (.iload_n 0, 1) := by decide +kernel
theorem dX5_isNumber_5 : decode cX5_isNumber 5 = .ok (.bipush 8, 2) := by decide +kernel
theorem dX5_isNumber_7 : decode cX5_isNumber 7 = .ok (.if_icmp .ge 7, 3) := by decide +kernel
theorem dX5_isNumber_10 : decode cX5_isNumber 10 = .ok (.iconst 1, 1) := by decide +kernel
theorem dX5_isNumber_11 : decode cX5_isNumber 11 = .ok (.goto 4, 3) := by decide +kernel
theorem dX5_isNumber_14 : decode cX5_isNumber 14 = .ok (.iconst 0, 1) := by decide +kernel
theorem dX5_isNumber_15 : decode cX5_isNumber 15 = .ok (.ireturn, 1) := by decide +kernel
theorem dX5_isLane_0 : decode cX5_isLane 0 = .ok (.iload_n 0, 1) := by decide +kernel
theorem dX5_isLane_1 : decode cX5_isLane 1 = .ok (.ifCond .lt 12, 3) := by decide +kernel
theorem dX5_isLane_4 : decode cX5_isLane 4 = .ok (.iload_n 0, 1) := by decide +kernel
theorem dX5_isLane_5 : decode cX5_isLane 5 = .ok (.iconst 2, 1) := by decide +kernel
theorem dX5_isLane_6 : decode cX5_isLane 6 = .ok (.if_icmp .gt 7, 3) := by decide +kernel
theorem dX5_isLane_9 : decode cX5_isLane 9 = .ok (.iconst 1, 1) := by decide +kernel
theorem dX5_isLane_10 : decode cX5_isLane 10 = .ok (.goto 4, 3) := by decide +kernel
theorem dX5_isLane_13 : decode cX5_isLane 13 = .ok (.iconst 0, 1) := by decide +kernel
theorem dX5_isLane_14 : decode cX5_isLane 14 = .ok (.ireturn, 1) := by decide +kernel
theorem dX5_isMissing_0 : decode cX5_isMissing 0 = .ok (.aload_n 0, 1) := by decide +kernel
theorem dX5_isMissing_1 : decode cX5_isMissing 1 = .ok (.getfield 9, 3) := by decide +kernel
theorem dX5_isMissing_4 : decode cX5_isMissing 4 = .ok (.iload_n 1, 1) := by decide +kernel
theorem dX5_isMissing_5 : decode cX5_isMissing 5 = .ok (.iaload, 1) := by decide +kernel
theorem dX5_isMissing_6 : decode cX5_isMissing 6 = .ok (.iconst (-1), 1) := by decide +kernel
theorem dX5_isMissing_7 : decode cX5_isMissing 7 = .ok (.if_icmp .ne 7, 3) := by decide +kernel
theorem dX5_isMissing_10 : decode cX5_isMissing 10 = .ok (.iconst 1, 1) := by decide +kernel
theorem dX5_isMissing_11 : decode cX5_isMissing 11 = .ok (.goto 4, 3) := by decide +kernel
theorem dX5_isMissing_14 : decode cX5_isMissing 14 = .ok (.iconst 0, 1) := by decide +kernel
theorem dX5_isMissing_15 : decode cX5_isMissing 15 = .ok (.ireturn, 1) := by decide +kernel
theorem dX5_areOfOneLane_0 : decode cX5_areOfOneLane 0 = .ok (.aload_n 0, 1) := by decide +kernel
theorem dX5_areOfOneLane_1 : decode cX5_areOfOneLane 1 = .ok (.getfield 9, 3) := by decide +kernel
theorem dX5_areOfOneLane_4 : decode cX5_areOfOneLane 4 = .ok (.iload_n 1, 1) := by decide +kernel
theorem dX5_areOfOneLane_5 : decode cX5_areOfOneLane 5 = .ok (.iaload, 1) := by decide +kernel
theorem dX5_areOfOneLane_6 : decode cX5_areOfOneLane 6 = .ok (.aload_n 0, 1) := by decide +kernel
theorem dX5_areOfOneLane_7 : decode cX5_areOfOneLane 7 = .ok (.getfield 9, 3) := by decide +kernel
theorem dX5_areOfOneLane_10 : decode cX5_areOfOneLane 10 = .ok (.iload_n 2, 1) := by decide +kernel
theorem dX5_areOfOneLane_11 : decode cX5_areOfOneLane 11 = .ok (.iaload, 1) := by decide +kernel
theorem dX5_areOfOneLane_12 : decode cX5_areOfOneLane 12 = .ok (.if_icmp .ne 7, 3) := by decide +kernel
theorem dX5_areOfOneLane_15 : decode cX5_areOfOneLane 15 = .ok (.iconst 1, 1) := by decide +kernel
theorem dX5_areOfOneLane_16 : decode cX5_areOfOneLane 16 = .ok (.goto 4, 3) := by decide +kernel
theorem dX5_areOfOneLane_19 : decode cX5_areOfOneLane 19 = .ok (.iconst 0, 1) := by decide +kernel
theorem dX5_areOfOneLane_20 : decode cX5_areOfOneLane 20 = .ok (.ireturn, 1) := by decide +kernel
theorem dX5_hasPlaces_0 : decode cX5_hasPlaces 0 = .ok (.iload_n 2, 1) := by decide +kernel
theorem dX5_hasPlaces_1 : decode cX5_hasPlaces 1 = .ok (.ifCond .lt 33, 3) := by decide +kernel
theorem dX5_hasPlaces_4 : decode cX5_hasPlaces 4 = .ok (.iload_n 3, 1) := by decide +kernel
theorem dX5_hasPlaces_5 : decode cX5_hasPlaces 5 = .ok (.ifCond .lt 29, 3) := by decide +kernel
theorem dX5_hasPlaces_8 : decode cX5_hasPlaces 8 = .ok (.iload_n 2, 1) := by decide +kernel
theorem dX5_hasPlaces_9 : decode cX5_hasPlaces 9 = .ok (.aload_n 0, 1) := by decide +kernel
theorem dX5_hasPlaces_10 : decode cX5_hasPlaces 10 = .ok (.getfield 13, 3) := by decide +kernel
theorem dX5_hasPlaces_13 : decode cX5_hasPlaces 13 = .ok (.iload_n 1, 1) := by decide +kernel
theorem dX5_hasPlaces_14 : decode cX5_hasPlaces 14 = .ok (.iaload, 1) := by decide +kernel
theorem dX5_hasPlaces_15 : decode cX5_hasPlaces 15 = .ok (.if_icmp .gt 19, 3) := by decide +kernel
theorem dX5_hasPlaces_18 : decode cX5_hasPlaces 18 = .ok (.iload_n 3, 1) := by decide +kernel
theorem dX5_hasPlaces_19 : decode cX5_hasPlaces 19 = .ok (.aload_n 0, 1) := by decide +kernel
theorem dX5_hasPlaces_20 : decode cX5_hasPlaces 20 = .ok (.getfield 13, 3) := by decide +kernel
theorem dX5_hasPlaces_23 : decode cX5_hasPlaces 23 = .ok (.iload_n 1, 1) := by decide +kernel
theorem dX5_hasPlaces_24 : decode cX5_hasPlaces 24 = .ok (.iaload, 1) := by decide +kernel
theorem dX5_hasPlaces_25 : decode cX5_hasPlaces 25 = .ok (.iload_n 2, 1) := by decide +kernel
theorem dX5_hasPlaces_26 : decode cX5_hasPlaces 26 = .ok (.isub, 1) := by decide +kernel
theorem dX5_hasPlaces_27 : decode cX5_hasPlaces 27 = .ok (.if_icmp .gt 7, 3) := by decide +kernel
theorem dX5_hasPlaces_30 : decode cX5_hasPlaces 30 = .ok (.iconst 1, 1) := by decide +kernel
theorem dX5_hasPlaces_31 : decode cX5_hasPlaces 31 = .ok (.goto 4, 3) := by decide +kernel
theorem dX5_hasPlaces_34 : decode cX5_hasPlaces 34 = .ok (.iconst 0, 1) := by decide +kernel
theorem dX5_hasPlaces_35 : decode cX5_hasPlaces 35 = .ok (.ireturn, 1) := by decide +kernel
theorem dX5_make_0 : decode cX5_make 0 = .ok (.aload_n 0, 1) := by decide +kernel
theorem dX5_make_1 : decode cX5_make 1 = .ok (.getfield 9, 3) := by decide +kernel
theorem dX5_make_4 : decode cX5_make 4 = .ok (.iload_n 1, 1) := by decide +kernel
theorem dX5_make_5 : decode cX5_make 5 = .ok (.iload_n 2, 1) := by decide +kernel
theorem dX5_make_6 : decode cX5_make 6 = .ok (.iastore, 1) := by decide +kernel
theorem dX5_make_7 : decode cX5_make 7 = .ok (.aload_n 0, 1) := by decide +kernel
theorem dX5_make_8 : decode cX5_make 8 = .ok (.getfield 13, 3) := by decide +kernel
theorem dX5_make_11 : decode cX5_make 11 = .ok (.iload_n 1, 1) := by decide +kernel
theorem dX5_make_12 : decode cX5_make 12 = .ok (.iload_n 3, 1) := by decide +kernel
theorem dX5_make_13 : decode cX5_make 13 = .ok (.iastore, 1) := by decide +kernel
theorem dX5_make_14 : decode cX5_make 14 = .ok (.aload_n 0, 1) := by decide +kernel
theorem dX5_make_15 : decode cX5_make 15 = .ok (.getfield 18, 3) := by decide +kernel
theorem dX5_make_18 : decode cX5_make 18 = .ok (.iload_n 1, 1) := by decide +kernel
theorem dX5_make_19 : decode cX5_make 19 = .ok (.aaload, 1) := by decide +kernel
theorem dX5_make_20 : decode cX5_make 20 = .ok (.iconst 0, 1) := by decide +kernel
theorem dX5_make_21 : decode cX5_make 21 = .ok (.invokestatic 21, 3) := by decide +kernel
theorem dX5_make_24 : decode cX5_make 24 = .ok (.return_, 1) := by decide +kernel
theorem dX5_put_0 : decode cX5_put 0 = .ok (.aload_n 0, 1) := by decide +kernel
theorem dX5_put_1 : decode cX5_put 1 = .ok (.getfield 18, 3) := by decide +kernel
theorem dX5_put_4 : decode cX5_put 4 = .ok (.iload_n 1, 1) := by decide +kernel
theorem dX5_put_5 : decode cX5_put 5 = .ok (.aaload, 1) := by decide +kernel
theorem dX5_put_6 : decode cX5_put 6 = .ok (.iload_n 2, 1) := by decide +kernel
theorem dX5_put_7 : decode cX5_put 7 = .ok (.aload_n 0, 1) := by decide +kernel
theorem dX5_put_8 : decode cX5_put 8 = .ok (.getfield 9, 3) := by decide +kernel
theorem dX5_put_11 : decode cX5_put 11 = .ok (.iload_n 1, 1) := by decide +kernel
theorem dX5_put_12 : decode cX5_put 12 = .ok (.iaload, 1) := by decide +kernel
theorem dX5_put_13 : decode cX5_put 13 = .ok (.ifCond .ne 8, 3) := by decide +kernel
theorem dX5_put_16 : decode cX5_put 16 = .ok (.iload_n 3, 1) := by decide +kernel
theorem dX5_put_17 : decode cX5_put 17 = .ok (.i2b, 1) := by decide +kernel
theorem dX5_put_18 : decode cX5_put 18 = .ok (.goto 19, 3) := by decide +kernel
theorem dX5_put_21 : decode cX5_put 21 = .ok (.aload_n 0, 1) := by decide +kernel
theorem dX5_put_22 : decode cX5_put 22 = .ok (.getfield 9, 3) := by decide +kernel
theorem dX5_put_25 : decode cX5_put 25 = .ok (.iload_n 1, 1) := by decide +kernel
theorem dX5_put_26 : decode cX5_put 26 = .ok (.iaload, 1) := by decide +kernel
theorem dX5_put_27 : decode cX5_put 27 = .ok (.iconst 1, 1) := by decide +kernel
theorem dX5_put_28 : decode cX5_put 28 = .ok (.if_icmp .ne 8, 3) := by decide +kernel
theorem dX5_put_31 : decode cX5_put 31 = .ok (.iload_n 3, 1) := by decide +kernel
theorem dX5_put_32 : decode cX5_put 32 = .ok (.i2s, 1) := by decide +kernel
theorem dX5_put_33 : decode cX5_put 33 = .ok (.goto 4, 3) := by decide +kernel
theorem dX5_put_36 : decode cX5_put 36 = .ok (.iload_n 3, 1) := by decide +kernel
theorem dX5_put_37 : decode cX5_put 37 = .ok (.iastore, 1) := by decide +kernel
theorem dX5_put_38 : decode cX5_put 38 = .ok (.aload_n 0, 1) := by decide +kernel
theorem dX5_put_39 : decode cX5_put 39 = .ok (.getfield 18, 3) := by decide +kernel
theorem dX5_put_42 : decode cX5_put 42 = .ok (.iload_n 1, 1) := by decide +kernel
theorem dX5_put_43 : decode cX5_put 43 = .ok (.aaload, 1) := by decide +kernel
theorem dX5_put_44 : decode cX5_put 44 = .ok (.iload_n 2, 1) := by decide +kernel
theorem dX5_put_45 : decode cX5_put 45 = .ok (.iaload, 1) := by decide +kernel
theorem dX5_put_46 : decode cX5_put 46 = .ok (.ireturn, 1) := by decide +kernel
theorem dX5_carry_0 : decode cX5_carry 0 = .ok (.aload_n 0, 1) := by decide +kernel
theorem dX5_carry_1 : decode cX5_carry 1 = .ok (.getfield 18, 3) := by decide +kernel
theorem dX5_carry_4 : decode cX5_carry 4 = .ok (.iload_n 1, 1) := by decide +kernel
theorem dX5_carry_5 : decode cX5_carry 5 = .ok (.aaload, 1) := by decide +kernel
theorem dX5_carry_6 : decode cX5_carry 6 = .ok (.iload_n 2, 1) := by decide +kernel
theorem dX5_carry_7 : decode cX5_carry 7 = .ok (.aload_n 0, 1) := by decide +kernel
theorem dX5_carry_8 : decode cX5_carry 8 = .ok (.getfield 18, 3) := by decide +kernel
theorem dX5_carry_11 : decode cX5_carry 11 = .ok (.iload_n 3, 1) := by decide +kernel
theorem dX5_carry_12 : decode cX5_carry 12 = .ok (.aaload, 1) := by decide +kernel
theorem dX5_carry_13 : decode cX5_carry 13 = .ok (.iload 4, 2) := by decide +kernel
theorem dX5_carry_15 : decode cX5_carry 15 = .ok (.iload 5, 2) := by decide +kernel
theorem dX5_carry_17 : decode cX5_carry 17 = .ok (.invokestatic 27, 3) := by decide +kernel
theorem dX5_carry_20 : decode cX5_carry 20 = .ok (.return_, 1) := by decide +kernel
theorem dX5_lose_0 : decode cX5_lose 0 = .ok (.aload_n 0, 1) := by decide +kernel
theorem dX5_lose_1 : decode cX5_lose 1 = .ok (.getfield 9, 3) := by decide +kernel
theorem dX5_lose_4 : decode cX5_lose 4 = .ok (.iload_n 1, 1) := by decide +kernel
theorem dX5_lose_5 : decode cX5_lose 5 = .ok (.iconst (-1), 1) := by decide +kernel
theorem dX5_lose_6 : decode cX5_lose 6 = .ok (.iastore, 1) := by decide +kernel
theorem dX5_lose_7 : decode cX5_lose 7 = .ok (.aload_n 0, 1) := by decide +kernel
theorem dX5_lose_8 : decode cX5_lose 8 = .ok (.getfield 13, 3) := by decide +kernel
theorem dX5_lose_11 : decode cX5_lose 11 = .ok (.iload_n 1, 1) := by decide +kernel
theorem dX5_lose_12 : decode cX5_lose 12 = .ok (.iaload, 1) := by decide +kernel
theorem dX5_lose_13 : decode cX5_lose 13 = .ok (.ireturn, 1) := by decide +kernel
theorem dX5_present_0 : decode cX5_present 0 = .ok (.iconst 0, 1) := by decide +kernel
theorem dX5_present_1 : decode cX5_present 1 = .ok (.istore_n 1, 1) := by decide +kernel
theorem dX5_present_2 : decode cX5_present 2 = .ok (.iconst 0, 1) := by decide +kernel
theorem dX5_present_3 : decode cX5_present 3 = .ok (.istore_n 2, 1) := by decide +kernel
theorem dX5_present_4 : decode cX5_present 4 = .ok (.iload_n 2, 1) := by decide +kernel
theorem dX5_present_5 : decode cX5_present 5 = .ok (.bipush 8, 2) := by decide +kernel
theorem dX5_present_7 : decode cX5_present 7 = .ok (.if_icmp .ge 20, 3) := by decide +kernel
theorem dX5_present_10 : decode cX5_present 10 = .ok (.aload_n 0, 1) := by decide +kernel
theorem dX5_present_11 : decode cX5_present 11 = .ok (.iload_n 2, 1) := by decide +kernel
theorem dX5_present_12 : decode cX5_present 12 = .ok (.invokevirtual 33, 3) := by decide +kernel
theorem dX5_present_15 : decode cX5_present 15 = .ok (.ifCond .ne 6, 3) := by decide +kernel
theorem dX5_present_18 : decode cX5_present 18 = .ok (.iinc 1 1, 3) := by decide +kernel
theorem dX5_present_21 : decode cX5_present 21 = .ok (.iinc 2 1, 3) := by decide +kernel
theorem dX5_present_24 : decode cX5_present 24 = .ok (.goto (-20), 3) := by decide +kernel
theorem dX5_present_27 : decode cX5_present 27 = .ok (.iload_n 1, 1) := by decide +kernel
theorem dX5_present_28 : decode cX5_present 28 = .ok (.ireturn, 1) := by decide +kernel
theorem dX6_init_0 : decode cX6_init 0 = .ok (.aload_n 0, 1) := by decide +kernel
theorem dX6_init_1 : decode cX6_init 1 = .ok (.invokespecial 3, 3) := by decide +kernel
theorem dX6_init_4 : decode cX6_init 4 = .ok (.aload_n 0, 1) := by decide +kernel
theorem dX6_init_5 : decode cX6_init 5 = .ok (.new 9, 3) := by decide +kernel
theorem dX6_init_8 : decode cX6_init 8 = .ok (.dup, 1) := by decide +kernel
theorem dX6_init_9 : decode cX6_init 9 = .ok (.invokespecial 11, 3) := by decide +kernel
theorem dX6_init_12 : decode cX6_init 12 = .ok (.putfield 12, 3) := by decide +kernel
theorem dX6_init_15 : decode cX6_init 15 = .ok (.aload_n 0, 1) := by decide +kernel
theorem dX6_init_16 : decode cX6_init 16 = .ok (.sipush 200, 3) := by decide +kernel
theorem dX6_init_19 : decode cX6_init 19 = .ok (.bipush 12, 2) := by decide +kernel
theorem dX6_init_21 : decode cX6_init 21 = .ok (.multianewarray 18 2, 4) := by decide +kernel
theorem dX6_init_25 : decode cX6_init 25 = .ok (.putfield 20, 3) := by decide +kernel
theorem dX6_init_28 : decode cX6_init 28 = .ok (.return_, 1) := by decide +kernel
theorem dX6_outlined_0 : decode cX6_outlined 0 = .ok (.aload_n 0, 1) := by decide +kernel
theorem dX6_outlined_1 : decode cX6_outlined 1 = .ok (.getfield 12, 3) := by decide +kernel
theorem dX6_outlined_4 : decode cX6_outlined 4 = .ok (.aload_n 1, 1) := by decide +kernel
theorem dX6_outlined_5 : decode cX6_outlined 5 = .ok (.iconst (-1), 1) := by decide +kernel
theorem dX6_outlined_6 : decode cX6_outlined 6 = .ok (.invokevirtual 23, 3) := by decide +kernel
theorem dX6_outlined_9 : decode cX6_outlined 9 = .ok (.aload_n 0, 1) := by decide +kernel
theorem dX6_outlined_10 : decode cX6_outlined 10 = .ok (.getfield 12, 3) := by decide +kernel
theorem dX6_outlined_13 : decode cX6_outlined 13 = .ok (.areturn, 1) := by decide +kernel
theorem dX6_goRound_0 : decode cX6_goRound 0 = .ok (.aload_n 0, 1) := by decide +kernel
theorem dX6_goRound_1 : decode cX6_goRound 1 = .ok (.getfield 12, 3) := by decide +kernel
theorem dX6_goRound_4 : decode cX6_goRound 4 = .ok (.aload_n 1, 1) := by decide +kernel
theorem dX6_goRound_5 : decode cX6_goRound 5 = .ok (.iconst (-1), 1) := by decide +kernel
theorem dX6_goRound_6 : decode cX6_goRound 6 = .ok (.invokevirtual 23, 3) := by decide +kernel
theorem dX6_goRound_9 : decode cX6_goRound 9 = .ok (.iconst 0, 1) := by decide +kernel
theorem dX6_goRound_10 : decode cX6_goRound 10 = .ok (.istore_n 2, 1) := by decide +kernel
theorem dX6_goRound_11 : decode cX6_goRound 11 = .ok (.iconst 0, 1) := by decide +kernel
theorem dX6_goRound_12 : decode cX6_goRound 12 = .ok (.istore_n 3, 1) := by decide +kernel
theorem dX6_goRound_13 : decode cX6_goRound 13 = .ok (.iload_n 3, 1) := by decide +kernel
theorem dX6_goRound_14 : decode cX6_goRound 14 = .ok (.aload_n 1, 1) := by decide +kernel
theorem dX6_goRound_15 : decode cX6_goRound 15 = .ok (.getfield 27, 3) := by decide +kernel
theorem dX6_goRound_18 : decode cX6_goRound 18 = .ok (.if_icmp .ge 45, 3) := by decide +kernel
theorem dX6_goRound_21 : decode cX6_goRound 21 = .ok (.aload_n 1, 1) := by decide +kernel
theorem dX6_goRound_22 : decode cX6_goRound 22 = .ok (.getfield 33, 3) := by decide +kernel
theorem dX6_goRound_25 : decode cX6_goRound 25 = .ok (.iload_n 3, 1) := by decide +kernel
theorem dX6_goRound_26 : decode cX6_goRound 26 = .ok (.iaload, 1) := by decide +kernel
theorem dX6_goRound_27 : decode cX6_goRound 27 = .ok (.aload_n 0, 1) := by decide +kernel
theorem dX6_goRound_28 : decode cX6_goRound 28 = .ok (.getfield 12, 3) := by decide +kernel
theorem dX6_goRound_31 : decode cX6_goRound 31 = .ok (.getfield 37, 3) := by decide +kernel
theorem dX6_goRound_34 : decode cX6_goRound 34 = .ok (.iload_n 3, 1) := by decide +kernel
theorem dX6_goRound_35 : decode cX6_goRound 35 = .ok (.iaload, 1) := by decide +kernel
theorem dX6_goRound_36 : decode cX6_goRound 36 = .ok (.if_icmp .eq 21, 3) := by decide +kernel
theorem dX6_goRound_39 : decode cX6_goRound 39 = .ok (.iinc 2 1, 3) := by decide +kernel
theorem dX6_goRound_42 : decode cX6_goRound 42 = .ok (.aload_n 1, 1) := by decide +kernel
theorem dX6_goRound_43 : decode cX6_goRound 43 = .ok (.getfield 33, 3) := by decide +kernel
theorem dX6_goRound_46 : decode cX6_goRound 46 = .ok (.iload_n 3, 1) := by decide +kernel
theorem dX6_goRound_47 : decode cX6_goRound 47 = .ok (.aload_n 0, 1) := by decide +kernel
theorem dX6_goRound_48 : decode cX6_goRound 48 = .ok (.getfield 12, 3) := by decide +kernel
theorem dX6_goRound_51 : decode cX6_goRound 51 = .ok (.getfield 37, 3) := by decide +kernel
theorem dX6_goRound_54 : decode cX6_goRound 54 = .ok (.iload_n 3, 1) := by decide +kernel
theorem dX6_goRound_55 : decode cX6_goRound 55 = .ok (.iaload, 1) := by decide +kernel
theorem dX6_goRound_56 : decode cX6_goRound 56 = .ok (.iastore, 1) := by decide +kernel
theorem dX6_goRound_57 : decode cX6_goRound 57 = .ok (.iinc 3 1, 3) := by decide +kernel
theorem dX6_goRound_60 : decode cX6_goRound 60 = .ok (.goto (-47), 3) := by decide +kernel
theorem dX6_goRound_63 : decode cX6_goRound 63 = .ok (.iload_n 2, 1) := by decide +kernel
theorem dX6_goRound_64 : decode cX6_goRound 64 = .ok (.ireturn, 1) := by decide +kernel
theorem dX6_bringToRest_0 : decode cX6_bringToRest 0 = .ok (.aload_n 0, 1) := by decide +kernel
theorem dX6_bringToRest_1 : decode cX6_bringToRest 1 = .ok (.iconst 0, 1) := by decide +kernel
theorem dX6_bringToRest_2 : decode cX6_bringToRest 2 = .ok (.putfield 40, 3) := by decide +kernel
theorem dX6_bringToRest_5 : decode cX6_bringToRest 5 = .ok (.aload_n 0, 1) := by decide +kernel
theorem dX6_bringToRest_6 : decode cX6_bringToRest 6 = .ok (.iconst 0, 1) := by decide +kernel
theorem dX6_bringToRest_7 : decode cX6_bringToRest 7 = .ok (.putfield 43, 3) := by decide +kernel
theorem dX6_bringToRest_10 : decode cX6_bringToRest 10 = .ok (.aload_n 0, 1) := by decide +kernel
theorem dX6_bringToRest_11 : decode cX6_bringToRest 11 = .ok (.iconst 0, 1) := by decide +kernel
theorem dX6_bringToRest_12 : decode cX6_bringToRest 12 = .ok (.putfield 46, 3) := by decide +kernel
theorem dX6_bringToRest_15 : decode cX6_bringToRest 15 = .ok (.aload_n 0, 1) := by decide +kernel
theorem dX6_bringToRest_16 : decode cX6_bringToRest 16 = .ok (.iconst 0, 1) := by decide +kernel
theorem dX6_bringToRest_17 : decode cX6_bringToRest 17 = .ok (.putfield 49, 3) := by decide +kernel
theorem dX6_bringToRest_20 : decode cX6_bringToRest 20 = .ok (.aload_n 0, 1) := by decide +kernel
theorem dX6_bringToRest_21 : decode cX6_bringToRest 21 = .ok (.aload_n 0, 1) := by decide +kernel
theorem dX6_bringToRest_22 : decode cX6_bringToRest 22 = .ok (.aload_n 1, 1) := by decide +kernel
theorem dX6_bringToRest_23 : decode cX6_bringToRest 23 = .ok (.invokevirtual 52, 3) := by decide +kernel
theorem dX6_bringToRest_26 : decode cX6_bringToRest 26 = .ok (.putfield 56, 3) := by decide +kernel
theorem dX6_bringToRest_29 : decode cX6_bringToRest 29 = .ok (.aload_n 0, 1) := by decide +kernel
theorem dX6_bringToRest_30 : decode cX6_bringToRest 30 = .ok (.getfield 56, 3) := by decide +kernel
theorem dX6_bringToRest_33 : decode cX6_bringToRest 33 = .ok (.ifCond .ne 80, 3) := by decide +kernel
theorem dX6_bringToRest_36 : decode cX6_bringToRest 36 = .ok (.aload_n 0, 1) := by decide +kernel
theorem dX6_bringToRest_37 : decode cX6_bringToRest 37 = .ok (.getfield 40, 3) := by decide +kernel
theorem dX6_bringToRest_40 : decode cX6_bringToRest 40 = .ok (.sipush 200, 3) := by decide +kernel
theorem dX6_bringToRest_43 : decode cX6_bringToRest 43 = .ok (.if_icmp .ge 70, 3) := by decide +kernel
theorem dX6_bringToRest_46 : decode cX6_bringToRest 46 = .ok (.aload_n 0, 1) := by decide +kernel
theorem dX6_bringToRest_47 : decode cX6_bringToRest 47 = .ok (.aload_n 1, 1) := by decide +kernel
theorem dX6_bringToRest_48 : decode cX6_bringToRest 48 = .ok (.invokevirtual 60, 3) := by decide +kernel
theorem dX6_bringToRest_51 : decode cX6_bringToRest 51 = .ok (.aload_n 0, 1) := by decide +kernel
theorem dX6_bringToRest_52 : decode cX6_bringToRest 52 = .ok (.getfield 12, 3) := by decide +kernel
theorem dX6_bringToRest_55 : decode cX6_bringToRest 55 = .ok (.getfield 37, 3) := by decide +kernel
theorem dX6_bringToRest_58 : decode cX6_bringToRest 58 = .ok (.iconst 0, 1) := by decide +kernel
theorem dX6_bringToRest_59 : decode cX6_bringToRest 59 = .ok (.aload_n 1, 1) := by decide +kernel
theorem dX6_bringToRest_60 : decode cX6_bringToRest 60 = .ok (.getfield 33, 3) := by decide +kernel
theorem dX6_bringToRest_63 : decode cX6_bringToRest 63 = .ok (.iconst 0, 1) := by decide +kernel
theorem dX6_bringToRest_64 : decode cX6_bringToRest 64 = .ok (.bipush 12, 2) := by decide +kernel
theorem dX6_bringToRest_66 : decode cX6_bringToRest 66 = .ok (.invokestatic 64, 3) := by decide +kernel
theorem dX6_bringToRest_69 : decode cX6_bringToRest 69 = .ok (.aload_n 0, 1) := by decide +kernel
theorem dX6_bringToRest_70 : decode cX6_bringToRest 70 = .ok (.dup, 1) := by decide +kernel
theorem dX6_bringToRest_71 : decode cX6_bringToRest 71 = .ok (.getfield 40, 3) := by decide +kernel
theorem dX6_bringToRest_74 : decode cX6_bringToRest 74 = .ok (.iconst 1, 1) := by decide +kernel
theorem dX6_bringToRest_75 : decode cX6_bringToRest 75 = .ok (.iadd, 1) := by decide +kernel
theorem dX6_bringToRest_76 : decode cX6_bringToRest 76 = .ok (.putfield 40, 3) := by decide +kernel
theorem dX6_bringToRest_79 : decode cX6_bringToRest 79 = .ok (.aload_n 0, 1) := by decide +kernel
theorem dX6_bringToRest_80 : decode cX6_bringToRest 80 = .ok (.aload_n 1, 1) := by decide +kernel
theorem dX6_bringToRest_81 : decode cX6_bringToRest 81 = .ok (.invokevirtual 70, 3) := by decide +kernel
theorem dX6_bringToRest_84 : decode cX6_bringToRest 84 = .ok (.istore_n 3, 1) := by decide +kernel
theorem dX6_bringToRest_85 : decode cX6_bringToRest 85 = .ok (.iload_n 3, 1) := by decide +kernel
theorem dX6_bringToRest_86 : decode cX6_bringToRest 86 = .ok (.iconst (-1), 1) := by decide +kernel
theorem dX6_bringToRest_87 : decode cX6_bringToRest 87 = .ok (.if_icmp .eq 14, 3) := by decide +kernel
theorem dX6_bringToRest_90 : decode cX6_bringToRest 90 = .ok (.aload_n 0, 1) := by decide +kernel
theorem dX6_bringToRest_91 : decode cX6_bringToRest 91 = .ok (.aload_n 1, 1) := by decide +kernel
theorem dX6_bringToRest_92 : decode cX6_bringToRest 92 = .ok (.iload_n 3, 1) := by decide +kernel
theorem dX6_bringToRest_93 : decode cX6_bringToRest 93 = .ok (.invokevirtual 74, 3) := by decide +kernel
theorem dX6_bringToRest_96 : decode cX6_bringToRest 96 = .ok (.iload_n 2, 1) := by decide +kernel
theorem dX6_bringToRest_97 : decode cX6_bringToRest 97 = .ok (.ifCond .eq 4, 3) := by decide +kernel
theorem dX6_bringToRest_100 : decode cX6_bringToRest 100 = .ok (.return_, 1) := by decide +kernel
theorem dX6_bringToRest_101 : decode cX6_bringToRest 101 = .ok (.aload_n 0, 1) := by decide +kernel
theorem dX6_bringToRest_102 : decode cX6_bringToRest 102 = .ok (.aload_n 0, 1) := by decide +kernel
theorem dX6_bringToRest_103 : decode cX6_bringToRest 103 = .ok (.aload_n 1, 1) := by decide +kernel
theorem dX6_bringToRest_104 : decode cX6_bringToRest 104 = .ok (.invokevirtual 52, 3) := by decide +kernel
theorem dX6_bringToRest_107 : decode cX6_bringToRest 107 = .ok (.putfield 56, 3) := by decide +kernel
theorem dX6_bringToRest_110 : decode cX6_bringToRest 110 = .ok (.goto (-81), 3) := by decide +kernel
theorem dX6_bringToRest_113 : decode cX6_bringToRest 113 = .ok (.return_, 1) := by decide +kernel
theorem dX6_keep_0 : decode cX6_keep 0 = .ok (.aload_n 0, 1) := by decide +kernel
theorem dX6_keep_1 : decode cX6_keep 1 = .ok (.getfield 49, 3) := by decide +kernel
theorem dX6_keep_4 : decode cX6_keep 4 = .ok (.aload_n 0, 1) := by decide +kernel
theorem dX6_keep_5 : decode cX6_keep 5 = .ok (.getfield 20, 3) := by decide +kernel
theorem dX6_keep_8 : decode cX6_keep 8 = .ok (.arraylength, 1) := by decide +kernel
theorem dX6_keep_9 : decode cX6_keep 9 = .ok (.if_icmp .ge 33, 3) := by decide +kernel
theorem dX6_keep_12 : decode cX6_keep 12 = .ok (.aload_n 1, 1) := by decide +kernel
theorem dX6_keep_13 : decode cX6_keep 13 = .ok (.getfield 33, 3) := by decide +kernel
theorem dX6_keep_16 : decode cX6_keep 16 = .ok (.iconst 0, 1) := by decide +kernel
theorem dX6_keep_17 : decode cX6_keep 17 = .ok (.aload_n 0, 1) := by decide +kernel
theorem dX6_keep_18 : decode cX6_keep 18 = .ok (.getfield 20, 3) := by decide +kernel
theorem dX6_keep_21 : decode cX6_keep 21 = .ok (.aload_n 0, 1) := by decide +kernel
theorem dX6_keep_22 : decode cX6_keep 22 = .ok (.getfield 49, 3) := by decide +kernel
theorem dX6_keep_25 : decode cX6_keep 25 = .ok (.aaload, 1) := by decide +kernel
theorem dX6_keep_26 : decode cX6_keep 26 = .ok (.iconst 0, 1) := by decide +kernel
theorem dX6_keep_27 : decode cX6_keep 27 = .ok (.bipush 12, 2) := by decide +kernel
theorem dX6_keep_29 : decode cX6_keep 29 = .ok (.invokestatic 64, 3) := by decide +kernel
theorem dX6_keep_32 : decode cX6_keep 32 = .ok (.aload_n 0, 1) := by decide +kernel
theorem dX6_keep_33 : decode cX6_keep 33 = .ok (.dup, 1) := by decide +kernel
theorem dX6_keep_34 : decode cX6_keep 34 = .ok (.getfield 49, 3) := by decide +kernel
theorem dX6_keep_37 : decode cX6_keep 37 = .ok (.iconst 1, 1) := by decide +kernel
theorem dX6_keep_38 : decode cX6_keep 38 = .ok (.iadd, 1) := by decide +kernel
theorem dX6_keep_39 : decode cX6_keep 39 = .ok (.putfield 49, 3) := by decide +kernel
theorem dX6_keep_42 : decode cX6_keep 42 = .ok (.return_, 1) := by decide +kernel
theorem dX6_ringSince_0 : decode cX6_ringSince 0 = .ok (.aload_n 0, 1) := by decide +kernel
theorem dX6_ringSince_1 : decode cX6_ringSince 1 = .ok (.getfield 49, 3) := by decide +kernel
theorem dX6_ringSince_4 : decode cX6_ringSince 4 = .ok (.iconst 2, 1) := by decide +kernel
theorem dX6_ringSince_5 : decode cX6_ringSince 5 = .ok (.isub, 1) := by decide +kernel
theorem dX6_ringSince_6 : decode cX6_ringSince 6 = .ok (.istore_n 2, 1) := by decide +kernel
theorem dX6_ringSince_7 : decode cX6_ringSince 7 = .ok (.iload_n 2, 1) := by decide +kernel
theorem dX6_ringSince_8 : decode cX6_ringSince 8 = .ok (.ifCond .lt 24, 3) := by decide +kernel
theorem dX6_ringSince_11 : decode cX6_ringSince 11 = .ok (.aload_n 1, 1) := by decide +kernel
theorem dX6_ringSince_12 : decode cX6_ringSince 12 = .ok (.aload_n 0, 1) := by decide +kernel
theorem dX6_ringSince_13 : decode cX6_ringSince 13 = .ok (.getfield 20, 3) := by decide +kernel
theorem dX6_ringSince_16 : decode cX6_ringSince 16 = .ok (.iload_n 2, 1) := by decide +kernel
theorem dX6_ringSince_17 : decode cX6_ringSince 17 = .ok (.aaload, 1) := by decide +kernel
theorem dX6_ringSince_18 : decode cX6_ringSince 18 = .ok (.invokestatic 77, 3) := by decide +kernel
theorem dX6_ringSince_21 : decode cX6_ringSince 21 = .ok (.ifCond .eq 5, 3) := by decide +kernel
theorem dX6_ringSince_24 : decode cX6_ringSince 24 = .ok (.iload_n 2, 1) := by decide +kernel
theorem dX6_ringSince_25 : decode cX6_ringSince 25 = .ok (.ireturn, 1) := by decide +kernel
theorem dX6_ringSince_26 : decode cX6_ringSince 26 = .ok (.iinc 2 (-1), 3) := by decide +kernel
theorem dX6_ringSince_29 : decode cX6_ringSince 29 = .ok (.goto (-22), 3) := by decide +kernel
theorem dX6_ringSince_32 : decode cX6_ringSince 32 = .ok (.iconst (-1), 1) := by decide +kernel
theorem dX6_ringSince_33 : decode cX6_ringSince 33 = .ok (.ireturn, 1) := by decide +kernel
theorem dX6_freezeSince_0 : decode cX6_freezeSince 0 = .ok (.iconst 0, 1) := by decide +kernel
theorem dX6_freezeSince_1 : decode cX6_freezeSince 1 = .ok (.istore_n 3, 1) := by decide +kernel
theorem dX6_freezeSince_2 : decode cX6_freezeSince 2 = .ok (.iload_n 3, 1) := by decide +kernel
theorem dX6_freezeSince_3 : decode cX6_freezeSince 3 = .ok (.aload_n 1, 1) := by decide +kernel
theorem dX6_freezeSince_4 : decode cX6_freezeSince 4 = .ok (.getfield 27, 3) := by decide +kernel
theorem dX6_freezeSince_7 : decode cX6_freezeSince 7 = .ok (.if_icmp .ge 16, 3) := by decide +kernel
theorem dX6_freezeSince_10 : decode cX6_freezeSince 10 = .ok (.aload_n 0, 1) := by decide +kernel
theorem dX6_freezeSince_11 : decode cX6_freezeSince 11 = .ok (.aload_n 1, 1) := by decide +kernel
theorem dX6_freezeSince_12 : decode cX6_freezeSince 12 = .ok (.iload_n 3, 1) := by decide +kernel
theorem dX6_freezeSince_13 : decode cX6_freezeSince 13 = .ok (.iload_n 2, 1) := by decide +kernel
theorem dX6_freezeSince_14 : decode cX6_freezeSince 14 = .ok (.invokevirtual 81, 3) := by decide +kernel
theorem dX6_freezeSince_17 : decode cX6_freezeSince 17 = .ok (.iinc 3 1, 3) := by decide +kernel
theorem dX6_freezeSince_20 : decode cX6_freezeSince 20 = .ok (.goto (-18), 3) := by decide +kernel
theorem dX6_freezeSince_23 : decode cX6_freezeSince 23 = .ok (.aload_n 0, 1) := by decide +kernel
theorem dX6_freezeSince_24 : decode cX6_freezeSince 24 = .ok (.dup, 1) := by decide +kernel
theorem dX6_freezeSince_25 : decode cX6_freezeSince 25 = .ok (.getfield 43, 3) := by decide +kernel
theorem dX6_freezeSince_28 : decode cX6_freezeSince 28 = .ok (.iconst 1, 1) := by decide +kernel
theorem dX6_freezeSince_29 : decode cX6_freezeSince 29 = .ok (.iadd, 1) := by decide +kernel
theorem dX6_freezeSince_30 : decode cX6_freezeSince 30 = .ok (.putfield 43, 3) := by decide +kernel
theorem dX6_freezeSince_33 : decode cX6_freezeSince 33 = .ok (.aload_n 0, 1) := by decide +kernel
theorem dX6_freezeSince_34 : decode cX6_freezeSince 34 = .ok (.getfield 43, 3) := by decide +kernel
theorem dX6_freezeSince_37 : decode cX6_freezeSince 37 = .ok (.iconst 1, 1) := by decide +kernel
theorem dX6_freezeSince_38 : decode cX6_freezeSince 38 = .ok (.if_icmp .ne 13, 3) := by decide +kernel
theorem dX6_freezeSince_41 : decode cX6_freezeSince 41 = .ok (.aload_n 0, 1) := by decide +kernel
theorem dX6_freezeSince_42 : decode cX6_freezeSince 42 = .ok (.aload_n 0, 1) := by decide +kernel
theorem dX6_freezeSince_43 : decode cX6_freezeSince 43 = .ok (.getfield 49, 3) := by decide +kernel
theorem dX6_freezeSince_46 : decode cX6_freezeSince 46 = .ok (.iload_n 2, 1) := by decide +kernel
theorem dX6_freezeSince_47 : decode cX6_freezeSince 47 = .ok (.isub, 1) := by decide +kernel
theorem dX6_freezeSince_48 : decode cX6_freezeSince 48 = .ok (.putfield 46, 3) := by decide +kernel
theorem dX6_freezeSince_51 : decode cX6_freezeSince 51 = .ok (.aload_n 0, 1) := by decide +kernel
theorem dX6_freezeSince_52 : decode cX6_freezeSince 52 = .ok (.iconst 0, 1) := by decide +kernel
theorem dX6_freezeSince_53 : decode cX6_freezeSince 53 = .ok (.putfield 49, 3) := by decide +kernel
theorem dX6_freezeSince_56 : decode cX6_freezeSince 56 = .ok (.return_, 1) := by decide +kernel
theorem dX6_freezeIfRestless_0 : decode cX6_freezeIfRestless 0 = .ok (.aload_n 1, 1) := by decide +kernel
theorem dX6_freezeIfRestless_1 : decode cX6_freezeIfRestless 1 = .ok (.aload_n 1, 1) := by decide +kernel
theorem dX6_freezeIfRestless_2 : decode cX6_freezeIfRestless 2 = .ok (.getfield 33, 3) := by decide +kernel
theorem dX6_freezeIfRestless_5 : decode cX6_freezeIfRestless 5 = .ok (.iload_n 2, 1) := by decide +kernel
theorem dX6_freezeIfRestless_6 : decode cX6_freezeIfRestless 6 = .ok (.invokevirtual 85, 3) := by decide +kernel
theorem dX6_freezeIfRestless_9 : decode cX6_freezeIfRestless 9 = .ok (.istore 4, 2) := by decide +kernel
theorem dX6_freezeIfRestless_11 : decode cX6_freezeIfRestless 11 = .ok (.iload 4, 2) := by decide +kernel
theorem dX6_freezeIfRestless_13 : decode cX6_freezeIfRestless 13 = .ok (.istore 5, 2) := by decide +kernel
theorem dX6_freezeIfRestless_15 : decode cX6_freezeIfRestless 15 = .ok (.iload_n 3, 1) := by decide +kernel
theorem dX6_freezeIfRestless_16 : decode cX6_freezeIfRestless 16 = .ok (.istore 6, 2) := by decide +kernel
theorem dX6_freezeIfRestless_18 : decode cX6_freezeIfRestless 18 = .ok (.iload 6, 2) := by decide +kernel
theorem dX6_freezeIfRestless_20 : decode cX6_freezeIfRestless 20 = .ok (.aload_n 0, 1) := by decide +kernel
theorem dX6_freezeIfRestless_21 : decode cX6_freezeIfRestless 21 = .ok (.getfield 49, 3) := by decide +kernel
theorem dX6_freezeIfRestless_24 : decode cX6_freezeIfRestless 24 = .ok (.if_icmp .ge 41, 3) := by decide +kernel
theorem dX6_freezeIfRestless_27 : decode cX6_freezeIfRestless 27 = .ok (.aload_n 1, 1) := by decide +kernel
theorem dX6_freezeIfRestless_28 : decode cX6_freezeIfRestless 28 = .ok (.aload_n 0, 1) := by decide +kernel
theorem dX6_freezeIfRestless_29 : decode cX6_freezeIfRestless 29 = .ok (.getfield 20, 3) := by decide +kernel
theorem dX6_freezeIfRestless_32 : decode cX6_freezeIfRestless 32 = .ok (.iload 6, 2) := by decide +kernel
theorem dX6_freezeIfRestless_34 : decode cX6_freezeIfRestless 34 = .ok (.aaload, 1) := by decide +kernel
theorem dX6_freezeIfRestless_35 : decode cX6_freezeIfRestless 35 = .ok (.iload_n 2, 1) := by decide +kernel
theorem dX6_freezeIfRestless_36 : decode cX6_freezeIfRestless 36 = .ok (.invokevirtual 85, 3) := by decide +kernel
theorem dX6_freezeIfRestless_39 : decode cX6_freezeIfRestless 39 = .ok (.istore 7, 2) := by decide +kernel
theorem dX6_freezeIfRestless_41 : decode cX6_freezeIfRestless 41 = .ok (.iload 4, 2) := by decide +kernel
theorem dX6_freezeIfRestless_43 : decode cX6_freezeIfRestless 43 = .ok (.iload 7, 2) := by decide +kernel
theorem dX6_freezeIfRestless_45 : decode cX6_freezeIfRestless 45 = .ok (.invokestatic 89, 3) := by decide +kernel
theorem dX6_freezeIfRestless_48 : decode cX6_freezeIfRestless 48 = .ok (.istore 4, 2) := by decide +kernel
theorem dX6_freezeIfRestless_50 : decode cX6_freezeIfRestless 50 = .ok (.iload 5, 2) := by decide +kernel
theorem dX6_freezeIfRestless_52 : decode cX6_freezeIfRestless 52 = .ok (.iload 7, 2) := by decide +kernel
theorem dX6_freezeIfRestless_54 : decode cX6_freezeIfRestless 54 = .ok (.invokestatic 95, 3) := by decide +kernel
theorem dX6_freezeIfRestless_57 : decode cX6_freezeIfRestless 57 = .ok (.istore 5, 2) := by decide +kernel
theorem dX6_freezeIfRestless_59 : decode cX6_freezeIfRestless 59 = .ok (.iinc 6 1, 3) := by decide +kernel
theorem dX6_freezeIfRestless_62 : decode cX6_freezeIfRestless 62 = .ok (.goto (-44), 3) := by decide +kernel
theorem dX6_freezeIfRestless_65 : decode cX6_freezeIfRestless 65 = .ok (.iload 4, 2) := by decide +kernel
theorem dX6_freezeIfRestless_67 : decode cX6_freezeIfRestless 67 = .ok (.iload 5, 2) := by decide +kernel
theorem dX6_freezeIfRestless_69 : decode cX6_freezeIfRestless 69 = .ok (.if_icmp .eq 11, 3) := by decide +kernel
theorem dX6_freezeIfRestless_72 : decode cX6_freezeIfRestless 72 = .ok (.aload_n 1, 1) := by decide +kernel
theorem dX6_freezeIfRestless_73 : decode cX6_freezeIfRestless 73 = .ok (.getfield 98, 3) := by decide +kernel
theorem dX6_freezeIfRestless_76 : decode cX6_freezeIfRestless 76 = .ok (.iload_n 2, 1) := by decide +kernel
theorem dX6_freezeIfRestless_77 : decode cX6_freezeIfRestless 77 = .ok (.iload 5, 2) := by decide +kernel
theorem dX6_freezeIfRestless_79 : decode cX6_freezeIfRestless 79 = .ok (.iastore, 1) := by decide +kernel
theorem dX6_freezeIfRestless_80 : decode cX6_freezeIfRestless 80 = .ok (.return_, 1) := by decide +kernel
theorem dX6_isAtRest_0 : decode cX6_isAtRest 0 = .ok (.aload_n 0, 1) := by decide +kernel
theorem dX6_isAtRest_1 : decode cX6_isAtRest 1 = .ok (.getfield 12, 3) := by decide +kernel
theorem dX6_isAtRest_4 : decode cX6_isAtRest 4 = .ok (.aload_n 1, 1) := by decide +kernel
theorem dX6_isAtRest_5 : decode cX6_isAtRest 5 = .ok (.iconst (-1), 1) := by decide +kernel
theorem dX6_isAtRest_6 : decode cX6_isAtRest 6 = .ok (.invokevirtual 23, 3) := by decide +kernel
theorem dX6_isAtRest_9 : decode cX6_isAtRest 9 = .ok (.aload_n 1, 1) := by decide +kernel
theorem dX6_isAtRest_10 : decode cX6_isAtRest 10 = .ok (.aload_n 0, 1) := by decide +kernel
theorem dX6_isAtRest_11 : decode cX6_isAtRest 11 = .ok (.getfield 12, 3) := by decide +kernel
theorem dX6_isAtRest_14 : decode cX6_isAtRest 14 = .ok (.getfield 37, 3) := by decide +kernel
theorem dX6_isAtRest_17 : decode cX6_isAtRest 17 = .ok (.invokestatic 77, 3) := by decide +kernel
theorem dX6_isAtRest_20 : decode cX6_isAtRest 20 = .ok (.ireturn, 1) := by decide +kernel
theorem dX6_areSame_0 : decode cX6_areSame 0 = .ok (.iconst 0, 1) := by decide +kernel
theorem dX6_areSame_1 : decode cX6_areSame 1 = .ok (.istore_n 2, 1) := by decide +kernel
theorem dX6_areSame_2 : decode cX6_areSame 2 = .ok (.iload_n 2, 1) := by decide +kernel
theorem dX6_areSame_3 : decode cX6_areSame 3 = .ok (.aload_n 0, 1) := by decide +kernel
theorem dX6_areSame_4 : decode cX6_areSame 4 = .ok (.getfield 27, 3) := by decide +kernel
theorem dX6_areSame_7 : decode cX6_areSame 7 = .ok (.if_icmp .ge 23, 3) := by decide +kernel
theorem dX6_areSame_10 : decode cX6_areSame 10 = .ok (.aload_n 0, 1) := by decide +kernel
theorem dX6_areSame_11 : decode cX6_areSame 11 = .ok (.getfield 33, 3) := by decide +kernel
theorem dX6_areSame_14 : decode cX6_areSame 14 = .ok (.iload_n 2, 1) := by decide +kernel
theorem dX6_areSame_15 : decode cX6_areSame 15 = .ok (.iaload, 1) := by decide +kernel
theorem dX6_areSame_16 : decode cX6_areSame 16 = .ok (.aload_n 1, 1) := by decide +kernel
theorem dX6_areSame_17 : decode cX6_areSame 17 = .ok (.iload_n 2, 1) := by decide +kernel
theorem dX6_areSame_18 : decode cX6_areSame 18 = .ok (.iaload, 1) := by decide +kernel
theorem dX6_areSame_19 : decode cX6_areSame 19 = .ok (.if_icmp .eq 5, 3) := by decide +kernel
theorem dX6_areSame_22 : decode cX6_areSame 22 = .ok (.iconst 0, 1) := by decide +kernel
theorem dX6_areSame_23 : decode cX6_areSame 23 = .ok (.ireturn, 1) := by decide +kernel
theorem dX6_areSame_24 : decode cX6_areSame 24 = .ok (.iinc 2 1, 3) := by decide +kernel
theorem dX6_areSame_27 : decode cX6_areSame 27 = .ok (.goto (-25), 3) := by decide +kernel
theorem dX6_areSame_30 : decode cX6_areSame 30 = .ok (.iconst 1, 1) := by decide +kernel
theorem dX6_areSame_31 : decode cX6_areSame 31 = .ok (.ireturn, 1) := by decide +kernel
theorem dX7_init_0 : decode cX7_init 0 = .ok (.aload_n 0, 1) := by decide +kernel
theorem dX7_init_1 : decode cX7_init 1 = .ok (.invokespecial 3, 3) := by decide +kernel
theorem dX7_init_4 : decode cX7_init 4 = .ok (.aload_n 0, 1) := by decide +kernel
theorem dX7_init_5 : decode cX7_init 5 = .ok (.bipush 12, 2) := by decide +kernel
theorem dX7_init_7 : decode cX7_init 7 = .ok (.newarray .int, 2) := by decide +kernel
theorem dX7_init_9 : decode cX7_init 9 = .ok (.putfield 9, 3) := by decide +kernel
theorem dX7_init_12 : decode cX7_init 12 = .ok (.aload_n 0, 1) := by decide +kernel
theorem dX7_init_13 : decode cX7_init 13 = .ok (.bipush 12, 2) := by decide +kernel
theorem dX7_init_15 : decode cX7_init 15 = .ok (.newarray .int, 2) := by decide +kernel
theorem dX7_init_17 : decode cX7_init 17 = .ok (.putfield 15, 3) := by decide +kernel
theorem dX7_init_20 : decode cX7_init 20 = .ok (.aload_n 0, 1) := by decide +kernel
theorem dX7_init_21 : decode cX7_init 21 = .ok (.bipush 12, 2) := by decide +kernel
theorem dX7_init_23 : decode cX7_init 23 = .ok (.newarray .int, 2) := by decide +kernel
theorem dX7_init_25 : decode cX7_init 25 = .ok (.putfield 18, 3) := by decide +kernel
theorem dX7_init_28 : decode cX7_init 28 = .ok (.aload_n 0, 1) := by decide +kernel
theorem dX7_init_29 : decode cX7_init 29 = .ok (.bipush 12, 2) := by decide +kernel
theorem dX7_init_31 : decode cX7_init 31 = .ok (.newarray .int, 2) := by decide +kernel
theorem dX7_init_33 : decode cX7_init 33 = .ok (.putfield 21, 3) := by decide +kernel
theorem dX7_init_36 : decode cX7_init 36 = .ok (.return_, 1) := by decide +kernel
theorem dX7_takeFrom_0 : decode cX7_takeFrom 0 = .ok (.aload_n 0, 1) := by decide +kernel
theorem dX7_takeFrom_1 : decode cX7_takeFrom 1 = .ok (.aload_n 1, 1) := by decide +kernel
theorem dX7_takeFrom_2 : decode cX7_takeFrom 2 = .ok (.getfield 24, 3) := by decide +kernel
theorem dX7_takeFrom_5 : decode cX7_takeFrom 5 = .ok (.putfield 24, 3) := by decide +kernel
theorem dX7_takeFrom_8 : decode cX7_takeFrom 8 = .ok (.aload_n 0, 1) := by decide +kernel
theorem dX7_takeFrom_9 : decode cX7_takeFrom 9 = .ok (.aload_n 1, 1) := by decide +kernel
theorem dX7_takeFrom_10 : decode cX7_takeFrom 10 = .ok (.getfield 28, 3) := by decide +kernel
theorem dX7_takeFrom_13 : decode cX7_takeFrom 13 = .ok (.putfield 28, 3) := by decide +kernel
theorem dX7_takeFrom_16 : decode cX7_takeFrom 16 = .ok (.aload_n 0, 1) := by decide +kernel
theorem dX7_takeFrom_17 : decode cX7_takeFrom 17 = .ok (.aload_n 1, 1) := by decide +kernel
theorem dX7_takeFrom_18 : decode cX7_takeFrom 18 = .ok (.getfield 31, 3) := by decide +kernel
theorem dX7_takeFrom_21 : decode cX7_takeFrom 21 = .ok (.putfield 31, 3) := by decide +kernel
theorem dX7_takeFrom_24 : decode cX7_takeFrom 24 = .ok (.aload_n 0, 1) := by decide +kernel
theorem dX7_takeFrom_25 : decode cX7_takeFrom 25 = .ok (.aload_n 1, 1) := by decide +kernel
theorem dX7_takeFrom_26 : decode cX7_takeFrom 26 = .ok (.getfield 34, 3) := by decide +kernel
theorem dX7_takeFrom_29 : decode cX7_takeFrom 29 = .ok (.putfield 34, 3) := by decide +kernel
theorem dX7_takeFrom_32 : decode cX7_takeFrom 32 = .ok (.aload_n 0, 1) := by decide +kernel
theorem dX7_takeFrom_33 : decode cX7_takeFrom 33 = .ok (.aload_n 1, 1) := by decide +kernel
theorem dX7_takeFrom_34 : decode cX7_takeFrom 34 = .ok (.getfield 37, 3) := by decide +kernel
theorem dX7_takeFrom_37 : decode cX7_takeFrom 37 = .ok (.putfield 37, 3) := by decide +kernel
theorem dX7_takeFrom_40 : decode cX7_takeFrom 40 = .ok (.aload_n 1, 1) := by decide +kernel
theorem dX7_takeFrom_41 : decode cX7_takeFrom 41 = .ok (.getfield 9, 3) := by decide +kernel
theorem dX7_takeFrom_44 : decode cX7_takeFrom 44 = .ok (.iconst 0, 1) := by decide +kernel
theorem dX7_takeFrom_45 : decode cX7_takeFrom 45 = .ok (.aload_n 0, 1) := by decide +kernel
theorem dX7_takeFrom_46 : decode cX7_takeFrom 46 = .ok (.getfield 9, 3) := by decide +kernel
theorem dX7_takeFrom_49 : decode cX7_takeFrom 49 = .ok (.iconst 0, 1) := by decide +kernel
theorem dX7_takeFrom_50 : decode cX7_takeFrom 50 = .ok (.bipush 12, 2) := by decide +kernel
theorem dX7_takeFrom_52 : decode cX7_takeFrom 52 = .ok (.invokestatic 40, 3) := by decide +kernel
theorem dX7_takeFrom_55 : decode cX7_takeFrom 55 = .ok (.aload_n 1, 1) := by decide +kernel
theorem dX7_takeFrom_56 : decode cX7_takeFrom 56 = .ok (.getfield 15, 3) := by decide +kernel
theorem dX7_takeFrom_59 : decode cX7_takeFrom 59 = .ok (.iconst 0, 1) := by decide +kernel
theorem dX7_takeFrom_60 : decode cX7_takeFrom 60 = .ok (.aload_n 0, 1) := by decide +kernel
theorem dX7_takeFrom_61 : decode cX7_takeFrom 61 = .ok (.getfield 15, 3) := by decide +kernel
theorem dX7_takeFrom_64 : decode cX7_takeFrom 64 = .ok (.iconst 0, 1) := by decide +kernel
theorem dX7_takeFrom_65 : decode cX7_takeFrom 65 = .ok (.bipush 12, 2) := by decide +kernel
theorem dX7_takeFrom_67 : decode cX7_takeFrom 67 = .ok (.invokestatic 40, 3) := by decide +kernel
theorem dX7_takeFrom_70 : decode cX7_takeFrom 70 = .ok (.aload_n 1, 1) := by decide +kernel
theorem dX7_takeFrom_71 : decode cX7_takeFrom 71 = .ok (.getfield 18, 3) := by decide +kernel
theorem dX7_takeFrom_74 : decode cX7_takeFrom 74 = .ok (.iconst 0, 1) := by decide +kernel
theorem dX7_takeFrom_75 : decode cX7_takeFrom 75 = .ok (.aload_n 0, 1) := by decide +kernel
theorem dX7_takeFrom_76 : decode cX7_takeFrom 76 = .ok (.getfield 18, 3) := by decide +kernel
theorem dX7_takeFrom_79 : decode cX7_takeFrom 79 = .ok (.iconst 0, 1) := by decide +kernel
theorem dX7_takeFrom_80 : decode cX7_takeFrom 80 = .ok (.bipush 12, 2) := by decide +kernel
theorem dX7_takeFrom_82 : decode cX7_takeFrom 82 = .ok (.invokestatic 40, 3) := by decide +kernel
theorem dX7_takeFrom_85 : decode cX7_takeFrom 85 = .ok (.aload_n 1, 1) := by decide +kernel
theorem dX7_takeFrom_86 : decode cX7_takeFrom 86 = .ok (.getfield 21, 3) := by decide +kernel
theorem dX7_takeFrom_89 : decode cX7_takeFrom 89 = .ok (.iconst 0, 1) := by decide +kernel
theorem dX7_takeFrom_90 : decode cX7_takeFrom 90 = .ok (.aload_n 0, 1) := by decide +kernel
theorem dX7_takeFrom_91 : decode cX7_takeFrom 91 = .ok (.getfield 21, 3) := by decide +kernel
theorem dX7_takeFrom_94 : decode cX7_takeFrom 94 = .ok (.iconst 0, 1) := by decide +kernel
theorem dX7_takeFrom_95 : decode cX7_takeFrom 95 = .ok (.bipush 12, 2) := by decide +kernel
theorem dX7_takeFrom_97 : decode cX7_takeFrom 97 = .ok (.invokestatic 40, 3) := by decide +kernel
theorem dX7_takeFrom_100 : decode cX7_takeFrom 100 = .ok (.return_, 1) := by decide +kernel
theorem dX7_beginAnew_0 : decode cX7_beginAnew 0 = .ok (.aload_n 0, 1) := by decide +kernel
theorem dX7_beginAnew_1 : decode cX7_beginAnew 1 = .ok (.getfield 18, 3) := by decide +kernel
theorem dX7_beginAnew_4 : decode cX7_beginAnew 4 = .ok (.aload_n 0, 1) := by decide +kernel
theorem dX7_beginAnew_5 : decode cX7_beginAnew 5 = .ok (.getfield 34, 3) := by decide +kernel
theorem dX7_beginAnew_8 : decode cX7_beginAnew 8 = .ok (.invokestatic 46, 3) := by decide +kernel
theorem dX7_beginAnew_11 : decode cX7_beginAnew 11 = .ok (.aload_n 0, 1) := by decide +kernel
theorem dX7_beginAnew_12 : decode cX7_beginAnew 12 = .ok (.getfield 21, 3) := by decide +kernel
theorem dX7_beginAnew_15 : decode cX7_beginAnew 15 = .ok (.iconst 0, 1) := by decide +kernel
theorem dX7_beginAnew_16 : decode cX7_beginAnew 16 = .ok (.invokestatic 46, 3) := by decide +kernel
theorem dX7_beginAnew_19 : decode cX7_beginAnew 19 = .ok (.return_, 1) := by decide +kernel
theorem dX7_holds_0 : decode cX7_holds 0 = .ok (.iload_n 1, 1) := by decide +kernel
theorem dX7_holds_1 : decode cX7_holds 1 = .ok (.ifCond .lt 15, 3) := by decide +kernel
theorem dX7_holds_4 : decode cX7_holds 4 = .ok (.iload_n 1, 1) := by decide +kernel
theorem dX7_holds_5 : decode cX7_holds 5 = .ok (.aload_n 0, 1) := by decide +kernel
theorem dX7_holds_6 : decode cX7_holds 6 = .ok (.getfield 24, 3) := by decide +kernel
theorem dX7_holds_9 : decode cX7_holds 9 = .ok (.if_icmp .ge 7, 3) := by decide +kernel
theorem dX7_holds_12 : decode cX7_holds 12 = .ok (.iconst 1, 1) := by decide +kernel
theorem dX7_holds_13 : decode cX7_holds 13 = .ok (.goto 4, 3) := by decide +kernel
theorem dX7_holds_16 : decode cX7_holds 16 = .ok (.iconst 0, 1) := by decide +kernel
theorem dX7_holds_17 : decode cX7_holds 17 = .ok (.ireturn, 1) := by decide +kernel
theorem dX7_isReference_0 : decode cX7_isReference 0 = .ok (.aload_n 0, 1) := by decide +kernel
theorem dX7_isReference_1 : decode cX7_isReference 1 = .ok (.getfield 9, 3) := by decide +kernel
theorem dX7_isReference_4 : decode cX7_isReference 4 = .ok (.iload_n 1, 1) := by decide +kernel
theorem dX7_isReference_5 : decode cX7_isReference 5 = .ok (.iaload, 1) := by decide +kernel
theorem dX7_isReference_6 : decode cX7_isReference 6 = .ok (.iconst 1, 1) := by decide +kernel
theorem dX7_isReference_7 : decode cX7_isReference 7 = .ok (.if_icmp .lt 17, 3) := by decide +kernel
theorem dX7_isReference_10 : decode cX7_isReference 10 = .ok (.aload_n 0, 1) := by decide +kernel
theorem dX7_isReference_11 : decode cX7_isReference 11 = .ok (.getfield 9, 3) := by decide +kernel
theorem dX7_isReference_14 : decode cX7_isReference 14 = .ok (.iload_n 1, 1) := by decide +kernel
theorem dX7_isReference_15 : decode cX7_isReference 15 = .ok (.iaload, 1) := by decide +kernel
theorem dX7_isReference_16 : decode cX7_isReference 16 = .ok (.iconst 3, 1) := by decide +kernel
theorem dX7_isReference_17 : decode cX7_isReference 17 = .ok (.if_icmp .gt 7, 3) := by decide +kernel
theorem dX7_isReference_20 : decode cX7_isReference 20 = .ok (.iconst 1, 1) := by decide +kernel
theorem dX7_isReference_21 : decode cX7_isReference 21 = .ok (.goto 4, 3) := by decide +kernel
theorem dX7_isReference_24 : decode cX7_isReference 24 = .ok (.iconst 0, 1) := by decide +kernel
theorem dX7_isReference_25 : decode cX7_isReference 25 = .ok (.ireturn, 1) := by decide +kernel
theorem dX7_isOfKind_0 : decode cX7_isOfKind 0 = .ok (.iload_n 2, 1) := by decide +kernel
theorem dX7_isOfKind_1 : decode cX7_isOfKind 1 = .ok (.ifCond .eq 41, 3) := by decide +kernel
theorem dX7_isOfKind_4 : decode cX7_isOfKind 4 = .ok (.iload_n 2, 1) := by decide +kernel
theorem dX7_isOfKind_5 : decode cX7_isOfKind 5 = .ok (.aload_n 0, 1) := by decide +kernel
theorem dX7_isOfKind_6 : decode cX7_isOfKind 6 = .ok (.getfield 9, 3) := by decide +kernel
theorem dX7_isOfKind_9 : decode cX7_isOfKind 9 = .ok (.iload_n 1, 1) := by decide +kernel
theorem dX7_isOfKind_10 : decode cX7_isOfKind 10 = .ok (.iaload, 1) := by decide +kernel
theorem dX7_isOfKind_11 : decode cX7_isOfKind 11 = .ok (.if_icmp .eq 31, 3) := by decide +kernel
theorem dX7_isOfKind_14 : decode cX7_isOfKind 14 = .ok (.iload_n 2, 1) := by decide +kernel
theorem dX7_isOfKind_15 : decode cX7_isOfKind 15 = .ok (.iconst 1, 1) := by decide +kernel
theorem dX7_isOfKind_16 : decode cX7_isOfKind 16 = .ok (.if_icmp .ne 11, 3) := by decide +kernel
theorem dX7_isOfKind_19 : decode cX7_isOfKind 19 = .ok (.aload_n 0, 1) := by decide +kernel
theorem dX7_isOfKind_20 : decode cX7_isOfKind 20 = .ok (.iload_n 1, 1) := by decide +kernel
theorem dX7_isOfKind_21 : decode cX7_isOfKind 21 = .ok (.invokevirtual 52, 3) := by decide +kernel
theorem dX7_isOfKind_24 : decode cX7_isOfKind 24 = .ok (.ifCond .ne 18, 3) := by decide +kernel
theorem dX7_isOfKind_27 : decode cX7_isOfKind 27 = .ok (.iload_n 2, 1) := by decide +kernel
theorem dX7_isOfKind_28 : decode cX7_isOfKind 28 = .ok (.iconst 4, 1) := by decide +kernel
theorem dX7_isOfKind_29 : decode cX7_isOfKind 29 = .ok (.if_icmp .ne 17, 3) := by decide +kernel
theorem dX7_isOfKind_32 : decode cX7_isOfKind 32 = .ok (.aload_n 0, 1) := by decide +kernel
theorem dX7_isOfKind_33 : decode cX7_isOfKind 33 = .ok (.getfield 9, 3) := by decide +kernel
theorem dX7_isOfKind_36 : decode cX7_isOfKind 36 = .ok (.iload_n 1, 1) := by decide +kernel
theorem dX7_isOfKind_37 : decode cX7_isOfKind 37 = .ok (.iaload, 1) := by decide +kernel
theorem dX7_isOfKind_38 : decode cX7_isOfKind 38 = .ok (.iconst 5, 1) := by decide +kernel
theorem dX7_isOfKind_39 : decode cX7_isOfKind 39 = .ok (.if_icmp .ne 7, 3) := by decide +kernel
theorem dX7_isOfKind_42 : decode cX7_isOfKind 42 = .ok (.iconst 1, 1) := by decide +kernel
theorem dX7_isOfKind_43 : decode cX7_isOfKind 43 = .ok (.goto 4, 3) := by decide +kernel
theorem dX7_isOfKind_46 : decode cX7_isOfKind 46 = .ok (.iconst 0, 1) := by decide +kernel
theorem dX7_isOfKind_47 : decode cX7_isOfKind 47 = .ok (.ireturn, 1) := by decide +kernel
theorem dX7_mayBeNumber_0 : decode cX7_mayBeNumber 0 = .ok (.iload_n 1, 1) := by decide +kernel
theorem dX7_mayBeNumber_1 : decode cX7_mayBeNumber 1 = .ok (.iconst 5, 1) := by decide +kernel
theorem dX7_mayBeNumber_2 : decode cX7_mayBeNumber 2 = .ok (.if_icmp .ne 5, 3) := by decide +kernel
theorem dX7_mayBeNumber_5 : decode cX7_mayBeNumber 5 = .ok (.iconst 1, 1) := by decide +kernel
theorem dX7_mayBeNumber_6 : decode cX7_mayBeNumber 6 = .ok (.ireturn, 1) := by decide +kernel
theorem dX7_mayBeNumber_7 : decode cX7_mayBeNumber 7 = .ok (.iload_n 1, 1) := by decide +kernel
theorem dX7_mayBeNumber_8 : decode cX7_mayBeNumber 8 = .ok (.iconst 4, 1) := by decide +kernel
theorem dX7_mayBeNumber_9 : decode cX7_mayBeNumber 9 = .ok (.if_icmp .ne 22, 3) := by decide +kernel
theorem dX7_mayBeNumber_12 : decode cX7_mayBeNumber 12 = .ok (.iload_n 2, 1) := by decide +kernel
theorem dX7_mayBeNumber_13 : decode cX7_mayBeNumber 13 = .ok (.iconst 1, 1) := by decide +kernel
theorem dX7_mayBeNumber_14 : decode cX7_mayBeNumber 14 = .ok (.if_icmp .lt 13, 3) := by decide +kernel
theorem dX7_mayBeNumber_17 : decode cX7_mayBeNumber 17 = .ok (.iload_n 2, 1) := by decide +kernel
theorem dX7_mayBeNumber_18 : decode cX7_mayBeNumber 18 = .ok (.bipush 20, 2) := by decide +kernel
theorem dX7_mayBeNumber_20 : decode cX7_mayBeNumber 20 = .ok (.if_icmp .gt 7, 3) := by decide +kernel
theorem dX7_mayBeNumber_23 : decode cX7_mayBeNumber 23 = .ok (.iconst 1, 1) := by decide +kernel
theorem dX7_mayBeNumber_24 : decode cX7_mayBeNumber 24 = .ok (.goto 12, 3) := by decide +kernel
theorem dX7_mayBeNumber_27 : decode cX7_mayBeNumber 27 = .ok (.iconst 0, 1) := by decide +kernel
theorem dX7_mayBeNumber_28 : decode cX7_mayBeNumber 28 = .ok (.goto 8, 3) := by decide +kernel
theorem dX7_mayBeNumber_31 : decode cX7_mayBeNumber 31 = .ok (.aload_n 0, 1) := by decide +kernel
theorem dX7_mayBeNumber_32 : decode cX7_mayBeNumber 32 = .ok (.iload_n 2, 1) := by decide +kernel
theorem dX7_mayBeNumber_33 : decode cX7_mayBeNumber 33 = .ok (.invokevirtual 56, 3) := by decide +kernel
theorem dX7_mayBeNumber_36 : decode cX7_mayBeNumber 36 = .ok (.ireturn, 1) := by decide +kernel
theorem dX7_wideBy_0 : decode cX7_wideBy 0 = .ok (.aload_n 0, 1) := by decide +kernel
theorem dX7_wideBy_1 : decode cX7_wideBy 1 = .ok (.getfield 9, 3) := by decide +kernel
theorem dX7_wideBy_4 : decode cX7_wideBy 4 = .ok (.iload_n 2, 1) := by decide +kernel
theorem dX7_wideBy_5 : decode cX7_wideBy 5 = .ok (.iaload, 1) := by decide +kernel
theorem dX7_wideBy_6 : decode cX7_wideBy 6 = .ok (.iconst 4, 1) := by decide +kernel
theorem dX7_wideBy_7 : decode cX7_wideBy 7 = .ok (.if_icmp .ne 10, 3) := by decide +kernel
theorem dX7_wideBy_10 : decode cX7_wideBy 10 = .ok (.aload_n 0, 1) := by decide +kernel
theorem dX7_wideBy_11 : decode cX7_wideBy 11 = .ok (.getfield 15, 3) := by decide +kernel
theorem dX7_wideBy_14 : decode cX7_wideBy 14 = .ok (.iload_n 2, 1) := by decide +kernel
theorem dX7_wideBy_15 : decode cX7_wideBy 15 = .ok (.iaload, 1) := by decide +kernel
theorem dX7_wideBy_16 : decode cX7_wideBy 16 = .ok (.ireturn, 1) := by decide +kernel
theorem dX7_wideBy_17 : decode cX7_wideBy 17 = .ok (.aload_n 0, 1) := by decide +kernel
theorem dX7_wideBy_18 : decode cX7_wideBy 18 = .ok (.getfield 9, 3) := by decide +kernel
theorem dX7_wideBy_21 : decode cX7_wideBy 21 = .ok (.iload_n 2, 1) := by decide +kernel
theorem dX7_wideBy_22 : decode cX7_wideBy 22 = .ok (.iaload, 1) := by decide +kernel
theorem dX7_wideBy_23 : decode cX7_wideBy 23 = .ok (.iconst 5, 1) := by decide +kernel
theorem dX7_wideBy_24 : decode cX7_wideBy 24 = .ok (.if_icmp .ne 5, 3) := by decide +kernel
theorem dX7_wideBy_27 : decode cX7_wideBy 27 = .ok (.iconst 0, 1) := by decide +kernel
theorem dX7_wideBy_28 : decode cX7_wideBy 28 = .ok (.ireturn, 1) := by decide +kernel
theorem dX7_wideBy_29 : decode cX7_wideBy 29 = .ok (.aload_n 0, 1) := by decide +kernel
theorem dX7_wideBy_30 : decode cX7_wideBy 30 = .ok (.getfield 15, 3) := by decide +kernel
theorem dX7_wideBy_33 : decode cX7_wideBy 33 = .ok (.iload_n 2, 1) := by decide +kernel
theorem dX7_wideBy_34 : decode cX7_wideBy 34 = .ok (.iaload, 1) := by decide +kernel
theorem dX7_wideBy_35 : decode cX7_wideBy 35 = .ok (.istore_n 3, 1) := by decide +kernel
theorem dX7_wideBy_36 : decode cX7_wideBy 36 = .ok (.iload_n 3, 1) := by decide +kernel
theorem dX7_wideBy_37 : decode cX7_wideBy 37 = .ok (.ifCond .lt 17, 3) := by decide +kernel
theorem dX7_wideBy_40 : decode cX7_wideBy 40 = .ok (.iload_n 3, 1) := by decide +kernel
theorem dX7_wideBy_41 : decode cX7_wideBy 41 = .ok (.aload_n 0, 1) := by decide +kernel
theorem dX7_wideBy_42 : decode cX7_wideBy 42 = .ok (.getfield 24, 3) := by decide +kernel
theorem dX7_wideBy_45 : decode cX7_wideBy 45 = .ok (.if_icmp .ge 9, 3) := by decide +kernel
theorem dX7_wideBy_48 : decode cX7_wideBy 48 = .ok (.aload_n 1, 1) := by decide +kernel
theorem dX7_wideBy_49 : decode cX7_wideBy 49 = .ok (.iload_n 3, 1) := by decide +kernel
theorem dX7_wideBy_50 : decode cX7_wideBy 50 = .ok (.iaload, 1) := by decide +kernel
theorem dX7_wideBy_51 : decode cX7_wideBy 51 = .ok (.goto 7, 3) := by decide +kernel
theorem dX7_wideBy_54 : decode cX7_wideBy 54 = .ok (.aload_n 0, 1) := by decide +kernel
theorem dX7_wideBy_55 : decode cX7_wideBy 55 = .ok (.getfield 34, 3) := by decide +kernel
theorem dX7_wideBy_58 : decode cX7_wideBy 58 = .ok (.istore 4, 2) := by decide +kernel
theorem dX7_wideBy_60 : decode cX7_wideBy 60 = .ok (.aload_n 0, 1) := by decide +kernel
theorem dX7_wideBy_61 : decode cX7_wideBy 61 = .ok (.getfield 21, 3) := by decide +kernel
theorem dX7_wideBy_64 : decode cX7_wideBy 64 = .ok (.iload_n 2, 1) := by decide +kernel
theorem dX7_wideBy_65 : decode cX7_wideBy 65 = .ok (.iaload, 1) := by decide +kernel
theorem dX7_wideBy_66 : decode cX7_wideBy 66 = .ok (.aload_n 0, 1) := by decide +kernel
theorem dX7_wideBy_67 : decode cX7_wideBy 67 = .ok (.getfield 9, 3) := by decide +kernel
theorem dX7_wideBy_70 : decode cX7_wideBy 70 = .ok (.iload_n 2, 1) := by decide +kernel
theorem dX7_wideBy_71 : decode cX7_wideBy 71 = .ok (.iaload, 1) := by decide +kernel
theorem dX7_wideBy_72 : decode cX7_wideBy 72 = .ok (.iload 4, 2) := by decide +kernel
theorem dX7_wideBy_74 : decode cX7_wideBy 74 = .ok (.invokestatic 59, 3) := by decide +kernel
theorem dX7_wideBy_77 : decode cX7_wideBy 77 = .ok (.invokestatic 63, 3) := by decide +kernel
theorem dX7_wideBy_80 : decode cX7_wideBy 80 = .ok (.ireturn, 1) := by decide +kernel
theorem dX7_signOf_0 : decode cX7_signOf 0 = .ok (.new 68, 3) := by decide +kernel
theorem dX7_signOf_3 : decode cX7_signOf 3 = .ok (.dup, 1) := by decide +kernel
theorem dX7_signOf_4 : decode cX7_signOf 4 = .ok (.invokespecial 70, 3) := by decide +kernel
theorem dX7_signOf_7 : decode cX7_signOf 7 = .ok (.astore_n 3, 1) := by decide +kernel
theorem dX7_signOf_8 : decode cX7_signOf 8 = .ok (.aload_n 0, 1) := by decide +kernel
theorem dX7_signOf_9 : decode cX7_signOf 9 = .ok (.aload_n 0, 1) := by decide +kernel
theorem dX7_signOf_10 : decode cX7_signOf 10 = .ok (.getfield 15, 3) := by decide +kernel
theorem dX7_signOf_13 : decode cX7_signOf 13 = .ok (.iload_n 1, 1) := by decide +kernel
theorem dX7_signOf_14 : decode cX7_signOf 14 = .ok (.iaload, 1) := by decide +kernel
theorem dX7_signOf_15 : decode cX7_signOf 15 = .ok (.invokevirtual 56, 3) := by decide +kernel
theorem dX7_signOf_18 : decode cX7_signOf 18 = .ok (.ifCond .eq 17, 3) := by decide +kernel
theorem dX7_signOf_21 : decode cX7_signOf 21 = .ok (.aload_n 0, 1) := by decide +kernel
theorem dX7_signOf_22 : decode cX7_signOf 22 = .ok (.getfield 18, 3) := by decide +kernel
theorem dX7_signOf_25 : decode cX7_signOf 25 = .ok (.aload_n 0, 1) := by decide +kernel
theorem dX7_signOf_26 : decode cX7_signOf 26 = .ok (.getfield 15, 3) := by decide +kernel
theorem dX7_signOf_29 : decode cX7_signOf 29 = .ok (.iload_n 1, 1) := by decide +kernel
theorem dX7_signOf_30 : decode cX7_signOf 30 = .ok (.iaload, 1) := by decide +kernel
theorem dX7_signOf_31 : decode cX7_signOf 31 = .ok (.iaload, 1) := by decide +kernel
theorem dX7_signOf_32 : decode cX7_signOf 32 = .ok (.goto 7, 3) := by decide +kernel
theorem dX7_signOf_35 : decode cX7_signOf 35 = .ok (.aload_n 0, 1) := by decide +kernel
theorem dX7_signOf_36 : decode cX7_signOf 36 = .ok (.getfield 34, 3) := by decide +kernel
theorem dX7_signOf_39 : decode cX7_signOf 39 = .ok (.istore 4, 2) := by decide +kernel
theorem dX7_signOf_41 : decode cX7_signOf 41 = .ok (.aload_n 0, 1) := by decide +kernel
theorem dX7_signOf_42 : decode cX7_signOf 42 = .ok (.getfield 9, 3) := by decide +kernel
theorem dX7_signOf_45 : decode cX7_signOf 45 = .ok (.iload_n 1, 1) := by decide +kernel
theorem dX7_signOf_46 : decode cX7_signOf 46 = .ok (.iaload, 1) := by decide +kernel
theorem dX7_signOf_47 : decode cX7_signOf 47 = .ok (.iconst 2, 1) := by decide +kernel
theorem dX7_signOf_48 : decode cX7_signOf 48 = .ok (.if_icmp .ne 36, 3) := by decide +kernel
theorem dX7_signOf_51 : decode cX7_signOf 51 = .ok (.aload_n 3, 1) := by decide +kernel
theorem dX7_signOf_52 : decode cX7_signOf 52 = .ok (.iload 4, 2) := by decide +kernel
theorem dX7_signOf_54 : decode cX7_signOf 54 = .ok (.bipush 10, 2) := by decide +kernel
theorem dX7_signOf_56 : decode cX7_signOf 56 = .ok (.idiv, 1) := by decide +kernel
theorem dX7_signOf_57 : decode cX7_signOf 57 = .ok (.bipush 120, 2) := by decide +kernel
theorem dX7_signOf_59 : decode cX7_signOf 59 = .ok (.bipush 108, 2) := by decide +kernel
theorem dX7_signOf_61 : decode cX7_signOf 61 = .ok (.bipush 99, 2) := by decide +kernel
theorem dX7_signOf_63 : decode cX7_signOf 63 = .ok (.invokestatic 71, 3) := by decide +kernel
theorem dX7_signOf_66 : decode cX7_signOf 66 = .ok (.aload_n 3, 1) := by decide +kernel
theorem dX7_signOf_67 : decode cX7_signOf 67 = .ok (.iload 4, 2) := by decide +kernel
theorem dX7_signOf_69 : decode cX7_signOf 69 = .ok (.bipush 10, 2) := by decide +kernel
theorem dX7_signOf_71 : decode cX7_signOf 71 = .ok (.irem, 1) := by decide +kernel
theorem dX7_signOf_72 : decode cX7_signOf 72 = .ok (.bipush 105, 2) := by decide +kernel
theorem dX7_signOf_74 : decode cX7_signOf 74 = .ok (.bipush 118, 2) := by decide +kernel
theorem dX7_signOf_76 : decode cX7_signOf 76 = .ok (.bipush 120, 2) := by decide +kernel
theorem dX7_signOf_78 : decode cX7_signOf 78 = .ok (.invokestatic 71, 3) := by decide +kernel
theorem dX7_signOf_81 : decode cX7_signOf 81 = .ok (.goto 10, 3) := by decide +kernel
theorem dX7_signOf_84 : decode cX7_signOf 84 = .ok (.aload_n 3, 1) := by decide +kernel
theorem dX7_signOf_85 : decode cX7_signOf 85 = .ok (.iload 4, 2) := by decide +kernel
theorem dX7_signOf_87 : decode cX7_signOf 87 = .ok (.invokevirtual 75, 3) := by decide +kernel
theorem dX7_signOf_90 : decode cX7_signOf 90 = .ok (.pop, 1) := by decide +kernel
theorem dX7_signOf_91 : decode cX7_signOf 91 = .ok (.aload_n 0, 1) := by decide +kernel
theorem dX7_signOf_92 : decode cX7_signOf 92 = .ok (.getfield 9, 3) := by decide +kernel
theorem dX7_signOf_95 : decode cX7_signOf 95 = .ok (.iload_n 1, 1) := by decide +kernel
theorem dX7_signOf_96 : decode cX7_signOf 96 = .ok (.iaload, 1) := by decide +kernel
theorem dX7_signOf_97 : decode cX7_signOf 97 = .ok (.iconst 3, 1) := by decide +kernel
theorem dX7_signOf_98 : decode cX7_signOf 98 = .ok (.if_icmp .ne 10, 3) := by decide +kernel
theorem dX7_signOf_101 : decode cX7_signOf 101 = .ok (.aload_n 3, 1) := by decide +kernel
theorem dX7_signOf_102 : decode cX7_signOf 102 = .ok (.bipush 102, 2) := by decide +kernel
theorem dX7_signOf_104 : decode cX7_signOf 104 = .ok (.invokevirtual 79, 3) := by decide +kernel
theorem dX7_signOf_107 : decode cX7_signOf 107 = .ok (.pop, 1) := by decide +kernel
theorem dX7_signOf_108 : decode cX7_signOf 108 = .ok (.iload_n 2, 1) := by decide +kernel
theorem dX7_signOf_109 : decode cX7_signOf 109 = .ok (.ifCond .lt 17, 3) := by decide +kernel
theorem dX7_signOf_112 : decode cX7_signOf 112 = .ok (.iload_n 2, 1) := by decide +kernel
theorem dX7_signOf_113 : decode cX7_signOf 113 = .ok (.aload_n 3, 1) := by decide +kernel
theorem dX7_signOf_114 : decode cX7_signOf 114 = .ok (.invokevirtual 82, 3) := by decide +kernel
theorem dX7_signOf_117 : decode cX7_signOf 117 = .ok (.if_icmp .ge 9, 3) := by decide +kernel
theorem dX7_signOf_120 : decode cX7_signOf 120 = .ok (.aload_n 3, 1) := by decide +kernel
theorem dX7_signOf_121 : decode cX7_signOf 121 = .ok (.iload_n 2, 1) := by decide +kernel
theorem dX7_signOf_122 : decode cX7_signOf 122 = .ok (.invokevirtual 86, 3) := by decide +kernel
theorem dX7_signOf_125 : decode cX7_signOf 125 = .ok (.ireturn, 1) := by decide +kernel
theorem dX7_signOf_126 : decode cX7_signOf 126 = .ok (.iload_n 2, 1) := by decide +kernel
theorem dX7_signOf_127 : decode cX7_signOf 127 = .ok (.aload_n 0, 1) := by decide +kernel
theorem dX7_signOf_128 : decode cX7_signOf 128 = .ok (.getfield 21, 3) := by decide +kernel
theorem dX7_signOf_131 : decode cX7_signOf 131 = .ok (.iload_n 1, 1) := by decide +kernel
theorem dX7_signOf_132 : decode cX7_signOf 132 = .ok (.iaload, 1) := by decide +kernel
theorem dX7_signOf_133 : decode cX7_signOf 133 = .ok (.if_icmp .ge 8, 3) := by decide +kernel
theorem dX7_signOf_136 : decode cX7_signOf 136 = .ok (.bipush 32, 2) := by decide +kernel
theorem dX7_signOf_138 : decode cX7_signOf 138 = .ok (.goto 5, 3) := by decide +kernel
theorem dX7_signOf_141 : decode cX7_signOf 141 = .ok (.ldc 90, 2) := by decide +kernel
theorem dX7_signOf_143 : decode cX7_signOf 143 = .ok (.ireturn, 1) := by decide +kernel
theorem dX7_frozenBits_0 : decode cX7_frozenBits 0 = .ok (.iconst 0, 1) := by decide +kernel
theorem dX7_frozenBits_1 : decode cX7_frozenBits 1 = .ok (.istore_n 1, 1) := by decide +kernel
theorem dX7_frozenBits_2 : decode cX7_frozenBits 2 = .ok (.iconst 0, 1) := by decide +kernel
theorem dX7_frozenBits_3 : decode cX7_frozenBits 3 = .ok (.istore_n 2, 1) := by decide +kernel
theorem dX7_frozenBits_4 : decode cX7_frozenBits 4 = .ok (.iload_n 2, 1) := by decide +kernel
theorem dX7_frozenBits_5 : decode cX7_frozenBits 5 = .ok (.aload_n 0, 1) := by decide +kernel
theorem dX7_frozenBits_6 : decode cX7_frozenBits 6 = .ok (.getfield 24, 3) := by decide +kernel
theorem dX7_frozenBits_9 : decode cX7_frozenBits 9 = .ok (.if_icmp .ge 24, 3) := by decide +kernel
theorem dX7_frozenBits_12 : decode cX7_frozenBits 12 = .ok (.aload_n 0, 1) := by decide +kernel
theorem dX7_frozenBits_13 : decode cX7_frozenBits 13 = .ok (.getfield 21, 3) := by decide +kernel
end
section
theorem dX7_frozenBits_16 : decode cX7_frozenBits 16 = .ok (.iload_n 2, 1) := by decide +kernel
theorem dX7_frozenBits_17 : decode cX7_frozenBits 17 = .ok (.iaload, 1) := by decide +kernel
theorem dX7_frozenBits_18 : decode cX7_frozenBits 18 = .ok (.ifCond .le 9, 3) := by decide +kernel
theorem dX7_frozenBits_21 : decode cX7_frozenBits 21 = .ok (.iload_n 1, 1) := by decide +kernel
theorem dX7_frozenBits_22 : decode cX7_frozenBits 22 = .ok (.iconst 1, 1) := by decide +kernel
theorem dX7_frozenBits_23 : decode cX7_frozenBits 23 = .ok (.iload_n 2, 1) := by decide +kernel
theorem dX7_frozenBits_24 : decode cX7_frozenBits 24 = .ok (.ishl, 1) := by decide +kernel
theorem dX7_frozenBits_25 : decode cX7_frozenBits 25 = .ok (.ior, 1) := by decide +kernel
theorem dX7_frozenBits_26 : decode cX7_frozenBits 26 = .ok (.istore_n 1, 1) := by decide +kernel
theorem dX7_frozenBits_27 : decode cX7_frozenBits 27 = .ok (.iinc 2 1, 3) := by decide +kernel
theorem dX7_frozenBits_30 : decode cX7_frozenBits 30 = .ok (.goto (-26), 3) := by decide +kernel
theorem dX7_frozenBits_33 : decode cX7_frozenBits 33 = .ok (.iload_n 1, 1) := by decide +kernel
theorem dX7_frozenBits_34 : decode cX7_frozenBits 34 = .ok (.ireturn, 1) := by decide +kernel
theorem dX7_lastGuess_0 : decode cX7_lastGuess 0 = .ok (.aload_n 0, 1) := by decide +kernel
theorem dX7_lastGuess_1 : decode cX7_lastGuess 1 = .ok (.getfield 24, 3) := by decide +kernel
theorem dX7_lastGuess_4 : decode cX7_lastGuess 4 = .ok (.ifCond .le 17, 3) := by decide +kernel
theorem dX7_lastGuess_7 : decode cX7_lastGuess 7 = .ok (.aload_n 0, 1) := by decide +kernel
theorem dX7_lastGuess_8 : decode cX7_lastGuess 8 = .ok (.getfield 18, 3) := by decide +kernel
theorem dX7_lastGuess_11 : decode cX7_lastGuess 11 = .ok (.aload_n 0, 1) := by decide +kernel
theorem dX7_lastGuess_12 : decode cX7_lastGuess 12 = .ok (.getfield 24, 3) := by decide +kernel
theorem dX7_lastGuess_15 : decode cX7_lastGuess 15 = .ok (.iconst 1, 1) := by decide +kernel
theorem dX7_lastGuess_16 : decode cX7_lastGuess 16 = .ok (.isub, 1) := by decide +kernel
theorem dX7_lastGuess_17 : decode cX7_lastGuess 17 = .ok (.iaload, 1) := by decide +kernel
theorem dX7_lastGuess_18 : decode cX7_lastGuess 18 = .ok (.goto 5, 3) := by decide +kernel
theorem dX7_lastGuess_21 : decode cX7_lastGuess 21 = .ok (.ldc 90, 2) := by decide +kernel
theorem dX7_lastGuess_23 : decode cX7_lastGuess 23 = .ok (.ireturn, 1) := by decide +kernel
theorem dX7_signsOf_0 : decode cX7_signsOf 0 = .ok (.iload_n 0, 1) := by decide +kernel
theorem dX7_signsOf_1 : decode cX7_signsOf 1 = .ok (.iconst 2, 1) := by decide +kernel
theorem dX7_signsOf_2 : decode cX7_signsOf 2 = .ok (.if_icmp .ne 35, 3) := by decide +kernel
theorem dX7_signsOf_5 : decode cX7_signsOf 5 = .ok (.iload_n 1, 1) := by decide +kernel
theorem dX7_signsOf_6 : decode cX7_signsOf 6 = .ok (.ifCond .lt 29, 3) := by decide +kernel
theorem dX7_signsOf_9 : decode cX7_signsOf 9 = .ok (.iload_n 1, 1) := by decide +kernel
theorem dX7_signsOf_10 : decode cX7_signsOf 10 = .ok (.bipush 99, 2) := by decide +kernel
theorem dX7_signsOf_12 : decode cX7_signsOf 12 = .ok (.if_icmp .gt 23, 3) := by decide +kernel
theorem dX7_signsOf_15 : decode cX7_signsOf 15 = .ok (.getstatic 91, 3) := by decide +kernel
theorem dX7_signsOf_18 : decode cX7_signsOf 18 = .ok (.iload_n 1, 1) := by decide +kernel
theorem dX7_signsOf_19 : decode cX7_signsOf 19 = .ok (.bipush 10, 2) := by decide +kernel
theorem dX7_signsOf_21 : decode cX7_signsOf 21 = .ok (.idiv, 1) := by decide +kernel
theorem dX7_signsOf_22 : decode cX7_signsOf 22 = .ok (.iaload, 1) := by decide +kernel
theorem dX7_signsOf_23 : decode cX7_signsOf 23 = .ok (.getstatic 91, 3) := by decide +kernel
theorem dX7_signsOf_26 : decode cX7_signsOf 26 = .ok (.iload_n 1, 1) := by decide +kernel
theorem dX7_signsOf_27 : decode cX7_signsOf 27 = .ok (.bipush 10, 2) := by decide +kernel
theorem dX7_signsOf_29 : decode cX7_signsOf 29 = .ok (.irem, 1) := by decide +kernel
theorem dX7_signsOf_30 : decode cX7_signsOf 30 = .ok (.iaload, 1) := by decide +kernel
theorem dX7_signsOf_31 : decode cX7_signsOf 31 = .ok (.iadd, 1) := by decide +kernel
theorem dX7_signsOf_32 : decode cX7_signsOf 32 = .ok (.goto 4, 3) := by decide +kernel
theorem dX7_signsOf_35 : decode cX7_signsOf 35 = .ok (.iconst 0, 1) := by decide +kernel
theorem dX7_signsOf_36 : decode cX7_signsOf 36 = .ok (.ireturn, 1) := by decide +kernel
theorem dX7_signsOf_37 : decode cX7_signsOf 37 = .ok (.iload_n 1, 1) := by decide +kernel
theorem dX7_signsOf_38 : decode cX7_signsOf 38 = .ok (.bipush 10, 2) := by decide +kernel
theorem dX7_signsOf_40 : decode cX7_signsOf 40 = .ok (.if_icmp .ge 7, 3) := by decide +kernel
theorem dX7_signsOf_43 : decode cX7_signsOf 43 = .ok (.iconst 1, 1) := by decide +kernel
theorem dX7_signsOf_44 : decode cX7_signsOf 44 = .ok (.goto 4, 3) := by decide +kernel
theorem dX7_signsOf_47 : decode cX7_signsOf 47 = .ok (.iconst 2, 1) := by decide +kernel
theorem dX7_signsOf_48 : decode cX7_signsOf 48 = .ok (.istore_n 2, 1) := by decide +kernel
theorem dX7_signsOf_49 : decode cX7_signsOf 49 = .ok (.iload_n 0, 1) := by decide +kernel
theorem dX7_signsOf_50 : decode cX7_signsOf 50 = .ok (.iconst 3, 1) := by decide +kernel
theorem dX7_signsOf_51 : decode cX7_signsOf 51 = .ok (.if_icmp .ne 9, 3) := by decide +kernel
theorem dX7_signsOf_54 : decode cX7_signsOf 54 = .ok (.iload_n 2, 1) := by decide +kernel
theorem dX7_signsOf_55 : decode cX7_signsOf 55 = .ok (.iconst 1, 1) := by decide +kernel
theorem dX7_signsOf_56 : decode cX7_signsOf 56 = .ok (.iadd, 1) := by decide +kernel
theorem dX7_signsOf_57 : decode cX7_signsOf 57 = .ok (.goto 4, 3) := by decide +kernel
theorem dX7_signsOf_60 : decode cX7_signsOf 60 = .ok (.iload_n 2, 1) := by decide +kernel
theorem dX7_signsOf_61 : decode cX7_signsOf 61 = .ok (.ireturn, 1) := by decide +kernel
theorem dX7_appendRoman_0 : decode cX7_appendRoman 0 = .ok (.iload_n 1, 1) := by decide +kernel
theorem dX7_appendRoman_1 : decode cX7_appendRoman 1 = .ok (.iconst 5, 1) := by decide +kernel
theorem dX7_appendRoman_2 : decode cX7_appendRoman 2 = .ok (.irem, 1) := by decide +kernel
theorem dX7_appendRoman_3 : decode cX7_appendRoman 3 = .ok (.iconst 4, 1) := by decide +kernel
theorem dX7_appendRoman_4 : decode cX7_appendRoman 4 = .ok (.if_icmp .ne 25, 3) := by decide +kernel
theorem dX7_appendRoman_7 : decode cX7_appendRoman 7 = .ok (.aload_n 0, 1) := by decide +kernel
theorem dX7_appendRoman_8 : decode cX7_appendRoman 8 = .ok (.iload_n 2, 1) := by decide +kernel
theorem dX7_appendRoman_9 : decode cX7_appendRoman 9 = .ok (.invokevirtual 79, 3) := by decide +kernel
theorem dX7_appendRoman_12 : decode cX7_appendRoman 12 = .ok (.iload_n 1, 1) := by decide +kernel
theorem dX7_appendRoman_13 : decode cX7_appendRoman 13 = .ok (.bipush 9, 2) := by decide +kernel
theorem dX7_appendRoman_15 : decode cX7_appendRoman 15 = .ok (.if_icmp .ne 8, 3) := by decide +kernel
theorem dX7_appendRoman_18 : decode cX7_appendRoman 18 = .ok (.iload 4, 2) := by decide +kernel
theorem dX7_appendRoman_20 : decode cX7_appendRoman 20 = .ok (.goto 4, 3) := by decide +kernel
theorem dX7_appendRoman_23 : decode cX7_appendRoman 23 = .ok (.iload_n 3, 1) := by decide +kernel
theorem dX7_appendRoman_24 : decode cX7_appendRoman 24 = .ok (.invokevirtual 79, 3) := by decide +kernel
theorem dX7_appendRoman_27 : decode cX7_appendRoman 27 = .ok (.pop, 1) := by decide +kernel
theorem dX7_appendRoman_28 : decode cX7_appendRoman 28 = .ok (.return_, 1) := by decide +kernel
theorem dX7_appendRoman_29 : decode cX7_appendRoman 29 = .ok (.iload_n 1, 1) := by decide +kernel
theorem dX7_appendRoman_30 : decode cX7_appendRoman 30 = .ok (.iconst 5, 1) := by decide +kernel
theorem dX7_appendRoman_31 : decode cX7_appendRoman 31 = .ok (.if_icmp .lt 9, 3) := by decide +kernel
theorem dX7_appendRoman_34 : decode cX7_appendRoman 34 = .ok (.aload_n 0, 1) := by decide +kernel
theorem dX7_appendRoman_35 : decode cX7_appendRoman 35 = .ok (.iload_n 3, 1) := by decide +kernel
theorem dX7_appendRoman_36 : decode cX7_appendRoman 36 = .ok (.invokevirtual 79, 3) := by decide +kernel
theorem dX7_appendRoman_39 : decode cX7_appendRoman 39 = .ok (.pop, 1) := by decide +kernel
theorem dX7_appendRoman_40 : decode cX7_appendRoman 40 = .ok (.iconst 0, 1) := by decide +kernel
theorem dX7_appendRoman_41 : decode cX7_appendRoman 41 = .ok (.istore 5, 2) := by decide +kernel
theorem dX7_appendRoman_43 : decode cX7_appendRoman 43 = .ok (.iload 5, 2) := by decide +kernel
theorem dX7_appendRoman_45 : decode cX7_appendRoman 45 = .ok (.iload_n 1, 1) := by decide +kernel
theorem dX7_appendRoman_46 : decode cX7_appendRoman 46 = .ok (.iconst 5, 1) := by decide +kernel
theorem dX7_appendRoman_47 : decode cX7_appendRoman 47 = .ok (.irem, 1) := by decide +kernel
theorem dX7_appendRoman_48 : decode cX7_appendRoman 48 = .ok (.if_icmp .ge 15, 3) := by decide +kernel
theorem dX7_appendRoman_51 : decode cX7_appendRoman 51 = .ok (.aload_n 0, 1) := by decide +kernel
theorem dX7_appendRoman_52 : decode cX7_appendRoman 52 = .ok (.iload_n 2, 1) := by decide +kernel
theorem dX7_appendRoman_53 : decode cX7_appendRoman 53 = .ok (.invokevirtual 79, 3) := by decide +kernel
theorem dX7_appendRoman_56 : decode cX7_appendRoman 56 = .ok (.pop, 1) := by decide +kernel
theorem dX7_appendRoman_57 : decode cX7_appendRoman 57 = .ok (.iinc 5 1, 3) := by decide +kernel
theorem dX7_appendRoman_60 : decode cX7_appendRoman 60 = .ok (.goto (-17), 3) := by decide +kernel
theorem dX7_appendRoman_63 : decode cX7_appendRoman 63 = .ok (.return_, 1) := by decide +kernel
theorem dX8_init_0 : decode cX8_init 0 = .ok (.aload_n 0, 1) := by decide +kernel
theorem dX8_init_1 : decode cX8_init 1 = .ok (.invokespecial 1, 3) := by decide +kernel
theorem dX8_init_4 : decode cX8_init 4 = .ok (.aload_n 0, 1) := by decide +kernel
theorem dX8_init_5 : decode cX8_init 5 = .ok (.new 7, 3) := by decide +kernel
theorem dX8_init_8 : decode cX8_init 8 = .ok (.dup, 1) := by decide +kernel
theorem dX8_init_9 : decode cX8_init 9 = .ok (.invokespecial 9, 3) := by decide +kernel
theorem dX8_init_12 : decode cX8_init 12 = .ok (.putfield 10, 3) := by decide +kernel
theorem dX8_init_15 : decode cX8_init 15 = .ok (.aload_n 0, 1) := by decide +kernel
theorem dX8_init_16 : decode cX8_init 16 = .ok (.bipush 80, 2) := by decide +kernel
theorem dX8_init_18 : decode cX8_init 18 = .ok (.newarray .int, 2) := by decide +kernel
theorem dX8_init_20 : decode cX8_init 20 = .ok (.putfield 16, 3) := by decide +kernel
theorem dX8_init_23 : decode cX8_init 23 = .ok (.aload_n 0, 1) := by decide +kernel
theorem dX8_init_24 : decode cX8_init 24 = .ok (.new 20, 3) := by decide +kernel
theorem dX8_init_27 : decode cX8_init 27 = .ok (.dup, 1) := by decide +kernel
theorem dX8_init_28 : decode cX8_init 28 = .ok (.invokespecial 22, 3) := by decide +kernel
theorem dX8_init_31 : decode cX8_init 31 = .ok (.putfield 23, 3) := by decide +kernel
theorem dX8_init_34 : decode cX8_init 34 = .ok (.aload_n 0, 1) := by decide +kernel
theorem dX8_init_35 : decode cX8_init 35 = .ok (.new 27, 3) := by decide +kernel
theorem dX8_init_38 : decode cX8_init 38 = .ok (.dup, 1) := by decide +kernel
theorem dX8_init_39 : decode cX8_init 39 = .ok (.invokespecial 29, 3) := by decide +kernel
theorem dX8_init_42 : decode cX8_init 42 = .ok (.putfield 30, 3) := by decide +kernel
theorem dX8_init_45 : decode cX8_init 45 = .ok (.aload_n 0, 1) := by decide +kernel
theorem dX8_init_46 : decode cX8_init 46 = .ok (.new 27, 3) := by decide +kernel
theorem dX8_init_49 : decode cX8_init 49 = .ok (.dup, 1) := by decide +kernel
theorem dX8_init_50 : decode cX8_init 50 = .ok (.invokespecial 29, 3) := by decide +kernel
theorem dX8_init_53 : decode cX8_init 53 = .ok (.putfield 34, 3) := by decide +kernel
theorem dX8_init_56 : decode cX8_init 56 = .ok (.aload_n 0, 1) := by decide +kernel
theorem dX8_init_57 : decode cX8_init 57 = .ok (.new 37, 3) := by decide +kernel
theorem dX8_init_60 : decode cX8_init 60 = .ok (.dup, 1) := by decide +kernel
theorem dX8_init_61 : decode cX8_init 61 = .ok (.invokespecial 39, 3) := by decide +kernel
theorem dX8_init_64 : decode cX8_init 64 = .ok (.putfield 40, 3) := by decide +kernel
theorem dX8_init_67 : decode cX8_init 67 = .ok (.aload_n 0, 1) := by decide +kernel
theorem dX8_init_68 : decode cX8_init 68 = .ok (.new 44, 3) := by decide +kernel
theorem dX8_init_71 : decode cX8_init 71 = .ok (.dup, 1) := by decide +kernel
theorem dX8_init_72 : decode cX8_init 72 = .ok (.aload_n 0, 1) := by decide +kernel
theorem dX8_init_73 : decode cX8_init 73 = .ok (.getfield 30, 3) := by decide +kernel
theorem dX8_init_76 : decode cX8_init 76 = .ok (.aload_n 0, 1) := by decide +kernel
theorem dX8_init_77 : decode cX8_init 77 = .ok (.getfield 34, 3) := by decide +kernel
theorem dX8_init_80 : decode cX8_init 80 = .ok (.aload_n 0, 1) := by decide +kernel
theorem dX8_init_81 : decode cX8_init 81 = .ok (.getfield 40, 3) := by decide +kernel
theorem dX8_init_84 : decode cX8_init 84 = .ok (.invokespecial 46, 3) := by decide +kernel
theorem dX8_init_87 : decode cX8_init 87 = .ok (.putfield 49, 3) := by decide +kernel
theorem dX8_init_90 : decode cX8_init 90 = .ok (.aload_n 0, 1) := by decide +kernel
theorem dX8_init_91 : decode cX8_init 91 = .ok (.new 53, 3) := by decide +kernel
theorem dX8_init_94 : decode cX8_init 94 = .ok (.dup, 1) := by decide +kernel
theorem dX8_init_95 : decode cX8_init 95 = .ok (.invokespecial 55, 3) := by decide +kernel
theorem dX8_init_98 : decode cX8_init 98 = .ok (.putfield 56, 3) := by decide +kernel
theorem dX8_init_101 : decode cX8_init 101 = .ok (.aload_n 0, 1) := by decide +kernel
theorem dX8_init_102 : decode cX8_init 102 = .ok (.iconst 2, 1) := by decide +kernel
theorem dX8_init_103 : decode cX8_init 103 = .ok (.anewarray 27, 3) := by decide +kernel
theorem dX8_init_106 : decode cX8_init 106 = .ok (.dup, 1) := by decide +kernel
theorem dX8_init_107 : decode cX8_init 107 = .ok (.iconst 0, 1) := by decide +kernel
theorem dX8_init_108 : decode cX8_init 108 = .ok (.new 27, 3) := by decide +kernel
theorem dX8_init_111 : decode cX8_init 111 = .ok (.dup, 1) := by decide +kernel
theorem dX8_init_112 : decode cX8_init 112 = .ok (.invokespecial 29, 3) := by decide +kernel
theorem dX8_init_115 : decode cX8_init 115 = .ok (.aastore, 1) := by decide +kernel
theorem dX8_init_116 : decode cX8_init 116 = .ok (.dup, 1) := by decide +kernel
theorem dX8_init_117 : decode cX8_init 117 = .ok (.iconst 1, 1) := by decide +kernel
theorem dX8_init_118 : decode cX8_init 118 = .ok (.new 27, 3) := by decide +kernel
theorem dX8_init_121 : decode cX8_init 121 = .ok (.dup, 1) := by decide +kernel
theorem dX8_init_122 : decode cX8_init 122 = .ok (.invokespecial 29, 3) := by decide +kernel
theorem dX8_init_125 : decode cX8_init 125 = .ok (.aastore, 1) := by decide +kernel
theorem dX8_init_126 : decode cX8_init 126 = .ok (.putfield 60, 3) := by decide +kernel
theorem dX8_init_129 : decode cX8_init 129 = .ok (.aload_n 0, 1) := by decide +kernel
theorem dX8_init_130 : decode cX8_init 130 = .ok (.new 64, 3) := by decide +kernel
theorem dX8_init_133 : decode cX8_init 133 = .ok (.dup, 1) := by decide +kernel
theorem dX8_init_134 : decode cX8_init 134 = .ok (.aload_n 0, 1) := by decide +kernel
theorem dX8_init_135 : decode cX8_init 135 = .ok (.getfield 30, 3) := by decide +kernel
theorem dX8_init_138 : decode cX8_init 138 = .ok (.invokespecial 66, 3) := by decide +kernel
theorem dX8_init_141 : decode cX8_init 141 = .ok (.putfield 69, 3) := by decide +kernel
theorem dX8_init_144 : decode cX8_init 144 = .ok (.return_, 1) := by decide +kernel
theorem dX8_row_0 : decode cX8_row 0 = .ok (.iload_n 1, 1) := by decide +kernel
theorem dX8_row_1 : decode cX8_row 1 = .ok (.invokestatic 73, 3) := by decide +kernel
theorem dX8_row_4 : decode cX8_row 4 = .ok (.ifCond .eq 16, 3) := by decide +kernel
theorem dX8_row_7 : decode cX8_row 7 = .ok (.iload_n 2, 1) := by decide +kernel
theorem dX8_row_8 : decode cX8_row 8 = .ok (.invokestatic 77, 3) := by decide +kernel
theorem dX8_row_11 : decode cX8_row 11 = .ok (.ifCond .eq 9, 3) := by decide +kernel
theorem dX8_row_14 : decode cX8_row 14 = .ok (.iload_n 3, 1) := by decide +kernel
theorem dX8_row_15 : decode cX8_row 15 = .ok (.bipush 40, 2) := by decide +kernel
theorem dX8_row_17 : decode cX8_row 17 = .ok (.if_icmp .le 6, 3) := by decide +kernel
theorem dX8_row_20 : decode cX8_row 20 = .ok (.ldc 80, 2) := by decide +kernel
theorem dX8_row_22 : decode cX8_row 22 = .ok (.ireturn, 1) := by decide +kernel
theorem dX8_row_23 : decode cX8_row 23 = .ok (.iload_n 3, 1) := by decide +kernel
theorem dX8_row_24 : decode cX8_row 24 = .ok (.ifCond .ge 9, 3) := by decide +kernel
theorem dX8_row_27 : decode cX8_row 27 = .ok (.aload_n 0, 1) := by decide +kernel
theorem dX8_row_28 : decode cX8_row 28 = .ok (.iconst 4, 1) := by decide +kernel
theorem dX8_row_29 : decode cX8_row 29 = .ok (.invokevirtual 81, 3) := by decide +kernel
theorem dX8_row_32 : decode cX8_row 32 = .ok (.ireturn, 1) := by decide +kernel
theorem dX8_row_33 : decode cX8_row 33 = .ok (.aload_n 0, 1) := by decide +kernel
theorem dX8_row_34 : decode cX8_row 34 = .ok (.getfield 10, 3) := by decide +kernel
theorem dX8_row_37 : decode cX8_row 37 = .ok (.iload_n 1, 1) := by decide +kernel
theorem dX8_row_38 : decode cX8_row 38 = .ok (.iload_n 2, 1) := by decide +kernel
theorem dX8_row_39 : decode cX8_row 39 = .ok (.iload_n 3, 1) := by decide +kernel
theorem dX8_row_40 : decode cX8_row 40 = .ok (.invokevirtual 85, 3) := by decide +kernel
theorem dX8_row_43 : decode cX8_row 43 = .ok (.aload_n 0, 1) := by decide +kernel
theorem dX8_row_44 : decode cX8_row 44 = .ok (.iload_n 3, 1) := by decide +kernel
theorem dX8_row_45 : decode cX8_row 45 = .ok (.invokevirtual 89, 3) := by decide +kernel
theorem dX8_row_48 : decode cX8_row 48 = .ok (.ireturn, 1) := by decide +kernel
theorem dX8_set_0 : decode cX8_set 0 = .ok (.iload_n 1, 1) := by decide +kernel
theorem dX8_set_1 : decode cX8_set 1 = .ok (.invokestatic 73, 3) := by decide +kernel
theorem dX8_set_4 : decode cX8_set 4 = .ok (.ifCond .ne 6, 3) := by decide +kernel
theorem dX8_set_7 : decode cX8_set 7 = .ok (.ldc 80, 2) := by decide +kernel
theorem dX8_set_9 : decode cX8_set 9 = .ok (.ireturn, 1) := by decide +kernel
theorem dX8_set_10 : decode cX8_set 10 = .ok (.aload_n 0, 1) := by decide +kernel
theorem dX8_set_11 : decode cX8_set 11 = .ok (.getfield 10, 3) := by decide +kernel
theorem dX8_set_14 : decode cX8_set 14 = .ok (.iload_n 1, 1) := by decide +kernel
theorem dX8_set_15 : decode cX8_set 15 = .ok (.invokevirtual 92, 3) := by decide +kernel
theorem dX8_set_18 : decode cX8_set 18 = .ok (.ifCond .eq 9, 3) := by decide +kernel
theorem dX8_set_21 : decode cX8_set 21 = .ok (.aload_n 0, 1) := by decide +kernel
theorem dX8_set_22 : decode cX8_set 22 = .ok (.iconst 1, 1) := by decide +kernel
theorem dX8_set_23 : decode cX8_set 23 = .ok (.invokevirtual 81, 3) := by decide +kernel
theorem dX8_set_26 : decode cX8_set 26 = .ok (.ireturn, 1) := by decide +kernel
theorem dX8_set_27 : decode cX8_set 27 = .ok (.aload_n 0, 1) := by decide +kernel
theorem dX8_set_28 : decode cX8_set 28 = .ok (.getfield 10, 3) := by decide +kernel
theorem dX8_set_31 : decode cX8_set 31 = .ok (.iload_n 1, 1) := by decide +kernel
theorem dX8_set_32 : decode cX8_set 32 = .ok (.iload_n 2, 1) := by decide +kernel
theorem dX8_set_33 : decode cX8_set 33 = .ok (.iconst 1, 1) := by decide +kernel
theorem dX8_set_34 : decode cX8_set 34 = .ok (.invokevirtual 95, 3) := by decide +kernel
theorem dX8_set_37 : decode cX8_set 37 = .ok (.ifCond .ne 9, 3) := by decide +kernel
theorem dX8_set_40 : decode cX8_set 40 = .ok (.aload_n 0, 1) := by decide +kernel
theorem dX8_set_41 : decode cX8_set 41 = .ok (.iconst 2, 1) := by decide +kernel
theorem dX8_set_42 : decode cX8_set 42 = .ok (.invokevirtual 81, 3) := by decide +kernel
theorem dX8_set_45 : decode cX8_set 45 = .ok (.ireturn, 1) := by decide +kernel
theorem dX8_set_46 : decode cX8_set 46 = .ok (.aload_n 0, 1) := by decide +kernel
theorem dX8_set_47 : decode cX8_set 47 = .ok (.aload_n 0, 1) := by decide +kernel
theorem dX8_set_48 : decode cX8_set 48 = .ok (.getfield 10, 3) := by decide +kernel
theorem dX8_set_51 : decode cX8_set 51 = .ok (.iload_n 1, 1) := by decide +kernel
theorem dX8_set_52 : decode cX8_set 52 = .ok (.iload_n 2, 1) := by decide +kernel
theorem dX8_set_53 : decode cX8_set 53 = .ok (.iload_n 3, 1) := by decide +kernel
theorem dX8_set_54 : decode cX8_set 54 = .ok (.invokevirtual 99, 3) := by decide +kernel
theorem dX8_set_57 : decode cX8_set 57 = .ok (.invokevirtual 89, 3) := by decide +kernel
theorem dX8_set_60 : decode cX8_set 60 = .ok (.ireturn, 1) := by decide +kernel
theorem dX8_copy_0 : decode cX8_copy 0 = .ok (.iload_n 1, 1) := by decide +kernel
theorem dX8_copy_1 : decode cX8_copy 1 = .ok (.invokestatic 73, 3) := by decide +kernel
theorem dX8_copy_4 : decode cX8_copy 4 = .ok (.ifCond .eq 10, 3) := by decide +kernel
theorem dX8_copy_7 : decode cX8_copy 7 = .ok (.iload_n 3, 1) := by decide +kernel
theorem dX8_copy_8 : decode cX8_copy 8 = .ok (.invokestatic 73, 3) := by decide +kernel
theorem dX8_copy_11 : decode cX8_copy 11 = .ok (.ifCond .ne 6, 3) := by decide +kernel
theorem dX8_copy_14 : decode cX8_copy 14 = .ok (.ldc 80, 2) := by decide +kernel
theorem dX8_copy_16 : decode cX8_copy 16 = .ok (.ireturn, 1) := by decide +kernel
theorem dX8_copy_17 : decode cX8_copy 17 = .ok (.aload_n 0, 1) := by decide +kernel
theorem dX8_copy_18 : decode cX8_copy 18 = .ok (.getfield 10, 3) := by decide +kernel
theorem dX8_copy_21 : decode cX8_copy 21 = .ok (.iload_n 1, 1) := by decide +kernel
theorem dX8_copy_22 : decode cX8_copy 22 = .ok (.invokevirtual 92, 3) := by decide +kernel
theorem dX8_copy_25 : decode cX8_copy 25 = .ok (.ifCond .ne 14, 3) := by decide +kernel
theorem dX8_copy_28 : decode cX8_copy 28 = .ok (.aload_n 0, 1) := by decide +kernel
theorem dX8_copy_29 : decode cX8_copy 29 = .ok (.getfield 10, 3) := by decide +kernel
theorem dX8_copy_32 : decode cX8_copy 32 = .ok (.iload_n 3, 1) := by decide +kernel
theorem dX8_copy_33 : decode cX8_copy 33 = .ok (.invokevirtual 92, 3) := by decide +kernel
theorem dX8_copy_36 : decode cX8_copy 36 = .ok (.ifCond .eq 9, 3) := by decide +kernel
theorem dX8_copy_39 : decode cX8_copy 39 = .ok (.aload_n 0, 1) := by decide +kernel
theorem dX8_copy_40 : decode cX8_copy 40 = .ok (.iconst 1, 1) := by decide +kernel
theorem dX8_copy_41 : decode cX8_copy 41 = .ok (.invokevirtual 81, 3) := by decide +kernel
theorem dX8_copy_44 : decode cX8_copy 44 = .ok (.ireturn, 1) := by decide +kernel
theorem dX8_copy_45 : decode cX8_copy 45 = .ok (.aload_n 0, 1) := by decide +kernel
theorem dX8_copy_46 : decode cX8_copy 46 = .ok (.getfield 10, 3) := by decide +kernel
theorem dX8_copy_49 : decode cX8_copy 49 = .ok (.iload_n 1, 1) := by decide +kernel
theorem dX8_copy_50 : decode cX8_copy 50 = .ok (.iload_n 3, 1) := by decide +kernel
theorem dX8_copy_51 : decode cX8_copy 51 = .ok (.invokevirtual 103, 3) := by decide +kernel
theorem dX8_copy_54 : decode cX8_copy 54 = .ok (.ifCond .ne 9, 3) := by decide +kernel
theorem dX8_copy_57 : decode cX8_copy 57 = .ok (.aload_n 0, 1) := by decide +kernel
theorem dX8_copy_58 : decode cX8_copy 58 = .ok (.iconst 5, 1) := by decide +kernel
theorem dX8_copy_59 : decode cX8_copy 59 = .ok (.invokevirtual 81, 3) := by decide +kernel
theorem dX8_copy_62 : decode cX8_copy 62 = .ok (.ireturn, 1) := by decide +kernel
theorem dX8_copy_63 : decode cX8_copy 63 = .ok (.aload_n 0, 1) := by decide +kernel
theorem dX8_copy_64 : decode cX8_copy 64 = .ok (.getfield 10, 3) := by decide +kernel
theorem dX8_copy_67 : decode cX8_copy 67 = .ok (.iload_n 1, 1) := by decide +kernel
theorem dX8_copy_68 : decode cX8_copy 68 = .ok (.iload_n 2, 1) := by decide +kernel
theorem dX8_copy_69 : decode cX8_copy 69 = .ok (.iload 5, 2) := by decide +kernel
theorem dX8_copy_71 : decode cX8_copy 71 = .ok (.invokevirtual 95, 3) := by decide +kernel
theorem dX8_copy_74 : decode cX8_copy 74 = .ok (.ifCond .eq 18, 3) := by decide +kernel
theorem dX8_copy_77 : decode cX8_copy 77 = .ok (.aload_n 0, 1) := by decide +kernel
theorem dX8_copy_78 : decode cX8_copy 78 = .ok (.getfield 10, 3) := by decide +kernel
theorem dX8_copy_81 : decode cX8_copy 81 = .ok (.iload_n 3, 1) := by decide +kernel
theorem dX8_copy_82 : decode cX8_copy 82 = .ok (.iload 4, 2) := by decide +kernel
theorem dX8_copy_84 : decode cX8_copy 84 = .ok (.iload 5, 2) := by decide +kernel
theorem dX8_copy_86 : decode cX8_copy 86 = .ok (.invokevirtual 95, 3) := by decide +kernel
theorem dX8_copy_89 : decode cX8_copy 89 = .ok (.ifCond .ne 9, 3) := by decide +kernel
theorem dX8_copy_92 : decode cX8_copy 92 = .ok (.aload_n 0, 1) := by decide +kernel
theorem dX8_copy_93 : decode cX8_copy 93 = .ok (.iconst 2, 1) := by decide +kernel
theorem dX8_copy_94 : decode cX8_copy 94 = .ok (.invokevirtual 81, 3) := by decide +kernel
theorem dX8_copy_97 : decode cX8_copy 97 = .ok (.ireturn, 1) := by decide +kernel
theorem dX8_copy_98 : decode cX8_copy 98 = .ok (.aload_n 0, 1) := by decide +kernel
theorem dX8_copy_99 : decode cX8_copy 99 = .ok (.getfield 10, 3) := by decide +kernel
theorem dX8_copy_102 : decode cX8_copy 102 = .ok (.iload_n 1, 1) := by decide +kernel
theorem dX8_copy_103 : decode cX8_copy 103 = .ok (.iload_n 2, 1) := by decide +kernel
theorem dX8_copy_104 : decode cX8_copy 104 = .ok (.iload_n 3, 1) := by decide +kernel
theorem dX8_copy_105 : decode cX8_copy 105 = .ok (.iload 4, 2) := by decide +kernel
theorem dX8_copy_107 : decode cX8_copy 107 = .ok (.iload 5, 2) := by decide +kernel
theorem dX8_copy_109 : decode cX8_copy 109 = .ok (.invokevirtual 107, 3) := by decide +kernel
theorem dX8_copy_112 : decode cX8_copy 112 = .ok (.aload_n 0, 1) := by decide +kernel
theorem dX8_copy_113 : decode cX8_copy 113 = .ok (.iload 5, 2) := by decide +kernel
theorem dX8_copy_115 : decode cX8_copy 115 = .ok (.invokevirtual 89, 3) := by decide +kernel
theorem dX8_copy_118 : decode cX8_copy 118 = .ok (.ireturn, 1) := by decide +kernel
theorem dX8_drop_0 : decode cX8_drop 0 = .ok (.iload_n 1, 1) := by decide +kernel
theorem dX8_drop_1 : decode cX8_drop 1 = .ok (.invokestatic 73, 3) := by decide +kernel
theorem dX8_drop_4 : decode cX8_drop 4 = .ok (.ifCond .ne 6, 3) := by decide +kernel
theorem dX8_drop_7 : decode cX8_drop 7 = .ok (.ldc 80, 2) := by decide +kernel
theorem dX8_drop_9 : decode cX8_drop 9 = .ok (.ireturn, 1) := by decide +kernel
theorem dX8_drop_10 : decode cX8_drop 10 = .ok (.aload_n 0, 1) := by decide +kernel
theorem dX8_drop_11 : decode cX8_drop 11 = .ok (.getfield 10, 3) := by decide +kernel
theorem dX8_drop_14 : decode cX8_drop 14 = .ok (.iload_n 1, 1) := by decide +kernel
theorem dX8_drop_15 : decode cX8_drop 15 = .ok (.invokevirtual 92, 3) := by decide +kernel
theorem dX8_drop_18 : decode cX8_drop 18 = .ok (.ifCond .eq 9, 3) := by decide +kernel
theorem dX8_drop_21 : decode cX8_drop 21 = .ok (.aload_n 0, 1) := by decide +kernel
theorem dX8_drop_22 : decode cX8_drop 22 = .ok (.iconst 1, 1) := by decide +kernel
theorem dX8_drop_23 : decode cX8_drop 23 = .ok (.invokevirtual 81, 3) := by decide +kernel
theorem dX8_drop_26 : decode cX8_drop 26 = .ok (.ireturn, 1) := by decide +kernel
theorem dX8_drop_27 : decode cX8_drop 27 = .ok (.aload_n 0, 1) := by decide +kernel
theorem dX8_drop_28 : decode cX8_drop 28 = .ok (.aload_n 0, 1) := by decide +kernel
theorem dX8_drop_29 : decode cX8_drop 29 = .ok (.getfield 10, 3) := by decide +kernel
theorem dX8_drop_32 : decode cX8_drop 32 = .ok (.iload_n 1, 1) := by decide +kernel
theorem dX8_drop_33 : decode cX8_drop 33 = .ok (.invokevirtual 111, 3) := by decide +kernel
theorem dX8_drop_36 : decode cX8_drop 36 = .ok (.invokevirtual 89, 3) := by decide +kernel
theorem dX8_drop_39 : decode cX8_drop 39 = .ok (.ireturn, 1) := by decide +kernel
theorem dX8_feed_0 : decode cX8_feed 0 = .ok (.iload_n 1, 1) := by decide +kernel
theorem dX8_feed_1 : decode cX8_feed 1 = .ok (.ifCond .lt 10, 3) := by decide +kernel
theorem dX8_feed_4 : decode cX8_feed 4 = .ok (.iload_n 1, 1) := by decide +kernel
theorem dX8_feed_5 : decode cX8_feed 5 = .ok (.sipush 255, 3) := by decide +kernel
theorem dX8_feed_8 : decode cX8_feed 8 = .ok (.if_icmp .le 6, 3) := by decide +kernel
theorem dX8_feed_11 : decode cX8_feed 11 = .ok (.ldc 80, 2) := by decide +kernel
theorem dX8_feed_13 : decode cX8_feed 13 = .ok (.ireturn, 1) := by decide +kernel
theorem dX8_feed_14 : decode cX8_feed 14 = .ok (.aload_n 0, 1) := by decide +kernel
theorem dX8_feed_15 : decode cX8_feed 15 = .ok (.getfield 114, 3) := by decide +kernel
theorem dX8_feed_18 : decode cX8_feed 18 = .ok (.bipush 80, 2) := by decide +kernel
theorem dX8_feed_20 : decode cX8_feed 20 = .ok (.if_icmp .lt 6, 3) := by decide +kernel
theorem dX8_feed_23 : decode cX8_feed 23 = .ok (.ldc 118, 2) := by decide +kernel
theorem dX8_feed_25 : decode cX8_feed 25 = .ok (.ireturn, 1) := by decide +kernel
theorem dX8_feed_26 : decode cX8_feed 26 = .ok (.aload_n 0, 1) := by decide +kernel
theorem dX8_feed_27 : decode cX8_feed 27 = .ok (.getfield 16, 3) := by decide +kernel
theorem dX8_feed_30 : decode cX8_feed 30 = .ok (.aload_n 0, 1) := by decide +kernel
theorem dX8_feed_31 : decode cX8_feed 31 = .ok (.getfield 114, 3) := by decide +kernel
theorem dX8_feed_34 : decode cX8_feed 34 = .ok (.iload_n 1, 1) := by decide +kernel
theorem dX8_feed_35 : decode cX8_feed 35 = .ok (.iastore, 1) := by decide +kernel
theorem dX8_feed_36 : decode cX8_feed 36 = .ok (.aload_n 0, 1) := by decide +kernel
theorem dX8_feed_37 : decode cX8_feed 37 = .ok (.dup, 1) := by decide +kernel
theorem dX8_feed_38 : decode cX8_feed 38 = .ok (.getfield 114, 3) := by decide +kernel
theorem dX8_feed_41 : decode cX8_feed 41 = .ok (.iconst 1, 1) := by decide +kernel
theorem dX8_feed_42 : decode cX8_feed 42 = .ok (.iadd, 1) := by decide +kernel
theorem dX8_feed_43 : decode cX8_feed 43 = .ok (.putfield 114, 3) := by decide +kernel
theorem dX8_feed_46 : decode cX8_feed 46 = .ok (.aload_n 0, 1) := by decide +kernel
theorem dX8_feed_47 : decode cX8_feed 47 = .ok (.getfield 114, 3) := by decide +kernel
theorem dX8_feed_50 : decode cX8_feed 50 = .ok (.ireturn, 1) := by decide +kernel
theorem dX8_sheet_0 : decode cX8_sheet 0 = .ok (.aload_n 0, 1) := by decide +kernel
theorem dX8_sheet_1 : decode cX8_sheet 1 = .ok (.getfield 114, 3) := by decide +kernel
theorem dX8_sheet_4 : decode cX8_sheet 4 = .ok (.istore_n 1, 1) := by decide +kernel
theorem dX8_sheet_5 : decode cX8_sheet 5 = .ok (.aload_n 0, 1) := by decide +kernel
theorem dX8_sheet_6 : decode cX8_sheet 6 = .ok (.iconst 0, 1) := by decide +kernel
theorem dX8_sheet_7 : decode cX8_sheet 7 = .ok (.putfield 114, 3) := by decide +kernel
theorem dX8_sheet_10 : decode cX8_sheet 10 = .ok (.aload_n 0, 1) := by decide +kernel
theorem dX8_sheet_11 : decode cX8_sheet 11 = .ok (.getfield 23, 3) := by decide +kernel
theorem dX8_sheet_14 : decode cX8_sheet 14 = .ok (.aload_n 0, 1) := by decide +kernel
theorem dX8_sheet_15 : decode cX8_sheet 15 = .ok (.getfield 16, 3) := by decide +kernel
theorem dX8_sheet_18 : decode cX8_sheet 18 = .ok (.iload_n 1, 1) := by decide +kernel
theorem dX8_sheet_19 : decode cX8_sheet 19 = .ok (.aload_n 0, 1) := by decide +kernel
theorem dX8_sheet_20 : decode cX8_sheet 20 = .ok (.getfield 34, 3) := by decide +kernel
theorem dX8_sheet_23 : decode cX8_sheet 23 = .ok (.invokevirtual 119, 3) := by decide +kernel
theorem dX8_sheet_26 : decode cX8_sheet 26 = .ok (.ifCond .ne 25, 3) := by decide +kernel
theorem dX8_sheet_29 : decode cX8_sheet 29 = .ok (.aload_n 0, 1) := by decide +kernel
theorem dX8_sheet_30 : decode cX8_sheet 30 = .ok (.aload_n 0, 1) := by decide +kernel
theorem dX8_sheet_31 : decode cX8_sheet 31 = .ok (.getfield 23, 3) := by decide +kernel
theorem dX8_sheet_34 : decode cX8_sheet 34 = .ok (.getfield 123, 3) := by decide +kernel
theorem dX8_sheet_37 : decode cX8_sheet 37 = .ok (.putfield 126, 3) := by decide +kernel
theorem dX8_sheet_40 : decode cX8_sheet 40 = .ok (.ldc 129, 2) := by decide +kernel
theorem dX8_sheet_42 : decode cX8_sheet 42 = .ok (.aload_n 0, 1) := by decide +kernel
theorem dX8_sheet_43 : decode cX8_sheet 43 = .ok (.getfield 23, 3) := by decide +kernel
theorem dX8_sheet_46 : decode cX8_sheet 46 = .ok (.getfield 130, 3) := by decide +kernel
theorem dX8_sheet_49 : decode cX8_sheet 49 = .ok (.isub, 1) := by decide +kernel
theorem dX8_sheet_50 : decode cX8_sheet 50 = .ok (.ireturn, 1) := by decide +kernel
theorem dX8_sheet_51 : decode cX8_sheet 51 = .ok (.aload_n 0, 1) := by decide +kernel
theorem dX8_sheet_52 : decode cX8_sheet 52 = .ok (.getfield 30, 3) := by decide +kernel
theorem dX8_sheet_55 : decode cX8_sheet 55 = .ok (.aload_n 0, 1) := by decide +kernel
theorem dX8_sheet_56 : decode cX8_sheet 56 = .ok (.getfield 34, 3) := by decide +kernel
theorem dX8_sheet_59 : decode cX8_sheet 59 = .ok (.invokevirtual 133, 3) := by decide +kernel
theorem dX8_sheet_62 : decode cX8_sheet 62 = .ok (.aload_n 0, 1) := by decide +kernel
theorem dX8_sheet_63 : decode cX8_sheet 63 = .ok (.getfield 56, 3) := by decide +kernel
theorem dX8_sheet_66 : decode cX8_sheet 66 = .ok (.invokevirtual 136, 3) := by decide +kernel
theorem dX8_sheet_69 : decode cX8_sheet 69 = .ok (.aload_n 0, 1) := by decide +kernel
theorem dX8_sheet_70 : decode cX8_sheet 70 = .ok (.getfield 30, 3) := by decide +kernel
theorem dX8_sheet_73 : decode cX8_sheet 73 = .ok (.getfield 139, 3) := by decide +kernel
theorem dX8_sheet_76 : decode cX8_sheet 76 = .ok (.ireturn, 1) := by decide +kernel
theorem dX8_fault_0 : decode cX8_fault 0 = .ok (.aload_n 0, 1) := by decide +kernel
theorem dX8_fault_1 : decode cX8_fault 1 = .ok (.getfield 126, 3) := by decide +kernel
theorem dX8_fault_4 : decode cX8_fault 4 = .ok (.ireturn, 1) := by decide +kernel
theorem dX8_round_0 : decode cX8_round 0 = .ok (.aload_n 0, 1) := by decide +kernel
theorem dX8_round_1 : decode cX8_round 1 = .ok (.invokevirtual 142, 3) := by decide +kernel
theorem dX8_round_4 : decode cX8_round 4 = .ok (.ifCond .eq 6, 3) := by decide +kernel
theorem dX8_round_7 : decode cX8_round 7 = .ok (.ldc 146, 2) := by decide +kernel
theorem dX8_round_9 : decode cX8_round 9 = .ok (.ireturn, 1) := by decide +kernel
theorem dX8_round_10 : decode cX8_round 10 = .ok (.aload_n 0, 1) := by decide +kernel
theorem dX8_round_11 : decode cX8_round 11 = .ok (.getfield 30, 3) := by decide +kernel
theorem dX8_round_14 : decode cX8_round 14 = .ok (.getfield 147, 3) := by decide +kernel
theorem dX8_round_17 : decode cX8_round 17 = .ok (.sipush 9999, 3) := by decide +kernel
theorem dX8_round_20 : decode cX8_round 20 = .ok (.if_icmp .lt 6, 3) := by decide +kernel
theorem dX8_round_23 : decode cX8_round 23 = .ok (.ldc 118, 2) := by decide +kernel
theorem dX8_round_25 : decode cX8_round 25 = .ok (.ireturn, 1) := by decide +kernel
theorem dX8_round_26 : decode cX8_round 26 = .ok (.aload_n 0, 1) := by decide +kernel
theorem dX8_round_27 : decode cX8_round 27 = .ok (.getfield 56, 3) := by decide +kernel
theorem dX8_round_30 : decode cX8_round 30 = .ok (.aload_n 0, 1) := by decide +kernel
theorem dX8_round_31 : decode cX8_round 31 = .ok (.getfield 30, 3) := by decide +kernel
theorem dX8_round_34 : decode cX8_round 34 = .ok (.invokevirtual 150, 3) := by decide +kernel
theorem dX8_round_37 : decode cX8_round 37 = .ok (.aload_n 0, 1) := by decide +kernel
theorem dX8_round_38 : decode cX8_round 38 = .ok (.getfield 30, 3) := by decide +kernel
theorem dX8_round_41 : decode cX8_round 41 = .ok (.dup, 1) := by decide +kernel
theorem dX8_round_42 : decode cX8_round 42 = .ok (.getfield 147, 3) := by decide +kernel
theorem dX8_round_45 : decode cX8_round 45 = .ok (.iconst 1, 1) := by decide +kernel
theorem dX8_round_46 : decode cX8_round 46 = .ok (.iadd, 1) := by decide +kernel
theorem dX8_round_47 : decode cX8_round 47 = .ok (.putfield 147, 3) := by decide +kernel
theorem dX8_round_50 : decode cX8_round 50 = .ok (.aload_n 0, 1) := by decide +kernel
theorem dX8_round_51 : decode cX8_round 51 = .ok (.getfield 40, 3) := by decide +kernel
theorem dX8_round_54 : decode cX8_round 54 = .ok (.aload_n 0, 1) := by decide +kernel
theorem dX8_round_55 : decode cX8_round 55 = .ok (.getfield 30, 3) := by decide +kernel
theorem dX8_round_58 : decode cX8_round 58 = .ok (.invokevirtual 153, 3) := by decide +kernel
theorem dX8_round_61 : decode cX8_round 61 = .ok (.ireturn, 1) := by decide +kernel
theorem dX8_settle_0 : decode cX8_settle 0 = .ok (.aload_n 0, 1) := by decide +kernel
theorem dX8_settle_1 : decode cX8_settle 1 = .ok (.invokevirtual 142, 3) := by decide +kernel
theorem dX8_settle_4 : decode cX8_settle 4 = .ok (.ifCond .eq 6, 3) := by decide +kernel
theorem dX8_settle_7 : decode cX8_settle 7 = .ok (.ldc 146, 2) := by decide +kernel
theorem dX8_settle_9 : decode cX8_settle 9 = .ok (.ireturn, 1) := by decide +kernel
theorem dX8_settle_10 : decode cX8_settle 10 = .ok (.aload_n 0, 1) := by decide +kernel
theorem dX8_settle_11 : decode cX8_settle 11 = .ok (.getfield 34, 3) := by decide +kernel
theorem dX8_settle_14 : decode cX8_settle 14 = .ok (.aload_n 0, 1) := by decide +kernel
theorem dX8_settle_15 : decode cX8_settle 15 = .ok (.getfield 30, 3) := by decide +kernel
theorem dX8_settle_18 : decode cX8_settle 18 = .ok (.invokevirtual 133, 3) := by decide +kernel
theorem dX8_settle_21 : decode cX8_settle 21 = .ok (.aload_n 0, 1) := by decide +kernel
theorem dX8_settle_22 : decode cX8_settle 22 = .ok (.getfield 40, 3) := by decide +kernel
theorem dX8_settle_25 : decode cX8_settle 25 = .ok (.aload_n 0, 1) := by decide +kernel
theorem dX8_settle_26 : decode cX8_settle 26 = .ok (.getfield 34, 3) := by decide +kernel
theorem dX8_settle_29 : decode cX8_settle 29 = .ok (.iconst 0, 1) := by decide +kernel
theorem dX8_settle_30 : decode cX8_settle 30 = .ok (.invokevirtual 157, 3) := by decide +kernel
theorem dX8_settle_33 : decode cX8_settle 33 = .ok (.aload_n 0, 1) := by decide +kernel
theorem dX8_settle_34 : decode cX8_settle 34 = .ok (.getfield 30, 3) := by decide +kernel
theorem dX8_settle_37 : decode cX8_settle 37 = .ok (.getfield 147, 3) := by decide +kernel
theorem dX8_settle_40 : decode cX8_settle 40 = .ok (.aload_n 0, 1) := by decide +kernel
theorem dX8_settle_41 : decode cX8_settle 41 = .ok (.getfield 40, 3) := by decide +kernel
theorem dX8_settle_44 : decode cX8_settle 44 = .ok (.getfield 161, 3) := by decide +kernel
theorem dX8_settle_47 : decode cX8_settle 47 = .ok (.iadd, 1) := by decide +kernel
theorem dX8_settle_48 : decode cX8_settle 48 = .ok (.sipush 9999, 3) := by decide +kernel
theorem dX8_settle_51 : decode cX8_settle 51 = .ok (.if_icmp .le 6, 3) := by decide +kernel
theorem dX8_settle_54 : decode cX8_settle 54 = .ok (.ldc 118, 2) := by decide +kernel
theorem dX8_settle_56 : decode cX8_settle 56 = .ok (.ireturn, 1) := by decide +kernel
theorem dX8_settle_57 : decode cX8_settle 57 = .ok (.aload_n 0, 1) := by decide +kernel
theorem dX8_settle_58 : decode cX8_settle 58 = .ok (.getfield 56, 3) := by decide +kernel
theorem dX8_settle_61 : decode cX8_settle 61 = .ok (.aload_n 0, 1) := by decide +kernel
theorem dX8_settle_62 : decode cX8_settle 62 = .ok (.getfield 30, 3) := by decide +kernel
theorem dX8_settle_65 : decode cX8_settle 65 = .ok (.invokevirtual 150, 3) := by decide +kernel
theorem dX8_settle_68 : decode cX8_settle 68 = .ok (.aload_n 0, 1) := by decide +kernel
theorem dX8_settle_69 : decode cX8_settle 69 = .ok (.getfield 30, 3) := by decide +kernel
theorem dX8_settle_72 : decode cX8_settle 72 = .ok (.aload_n 0, 1) := by decide +kernel
theorem dX8_settle_73 : decode cX8_settle 73 = .ok (.getfield 34, 3) := by decide +kernel
theorem dX8_settle_76 : decode cX8_settle 76 = .ok (.invokevirtual 133, 3) := by decide +kernel
theorem dX8_settle_79 : decode cX8_settle 79 = .ok (.aload_n 0, 1) := by decide +kernel
theorem dX8_settle_80 : decode cX8_settle 80 = .ok (.getfield 30, 3) := by decide +kernel
theorem dX8_settle_83 : decode cX8_settle 83 = .ok (.dup, 1) := by decide +kernel
theorem dX8_settle_84 : decode cX8_settle 84 = .ok (.getfield 147, 3) := by decide +kernel
theorem dX8_settle_87 : decode cX8_settle 87 = .ok (.aload_n 0, 1) := by decide +kernel
theorem dX8_settle_88 : decode cX8_settle 88 = .ok (.getfield 40, 3) := by decide +kernel
theorem dX8_settle_91 : decode cX8_settle 91 = .ok (.getfield 161, 3) := by decide +kernel
theorem dX8_settle_94 : decode cX8_settle 94 = .ok (.iadd, 1) := by decide +kernel
theorem dX8_settle_95 : decode cX8_settle 95 = .ok (.putfield 147, 3) := by decide +kernel
theorem dX8_settle_98 : decode cX8_settle 98 = .ok (.aload_n 0, 1) := by decide +kernel
theorem dX8_settle_99 : decode cX8_settle 99 = .ok (.getfield 40, 3) := by decide +kernel
theorem dX8_settle_102 : decode cX8_settle 102 = .ok (.getfield 161, 3) := by decide +kernel
theorem dX8_settle_105 : decode cX8_settle 105 = .ok (.ireturn, 1) := by decide +kernel
theorem dX8_number_0 : decode cX8_number 0 = .ok (.aload_n 0, 1) := by decide +kernel
theorem dX8_number_1 : decode cX8_number 1 = .ok (.getfield 30, 3) := by decide +kernel
theorem dX8_number_4 : decode cX8_number 4 = .ok (.iload_n 1, 1) := by decide +kernel
theorem dX8_number_5 : decode cX8_number 5 = .ok (.invokevirtual 162, 3) := by decide +kernel
theorem dX8_number_8 : decode cX8_number 8 = .ok (.ifCond .eq 36, 3) := by decide +kernel
theorem dX8_number_11 : decode cX8_number 11 = .ok (.aload_n 0, 1) := by decide +kernel
theorem dX8_number_12 : decode cX8_number 12 = .ok (.getfield 30, 3) := by decide +kernel
theorem dX8_number_15 : decode cX8_number 15 = .ok (.getfield 165, 3) := by decide +kernel
theorem dX8_number_18 : decode cX8_number 18 = .ok (.iload_n 1, 1) := by decide +kernel
theorem dX8_number_19 : decode cX8_number 19 = .ok (.iaload, 1) := by decide +kernel
theorem dX8_number_20 : decode cX8_number 20 = .ok (.iconst 5, 1) := by decide +kernel
theorem dX8_number_21 : decode cX8_number 21 = .ok (.if_icmp .eq 23, 3) := by decide +kernel
theorem dX8_number_24 : decode cX8_number 24 = .ok (.aload_n 0, 1) := by decide +kernel
theorem dX8_number_25 : decode cX8_number 25 = .ok (.getfield 30, 3) := by decide +kernel
theorem dX8_number_28 : decode cX8_number 28 = .ok (.aload_n 0, 1) := by decide +kernel
theorem dX8_number_29 : decode cX8_number 29 = .ok (.getfield 30, 3) := by decide +kernel
theorem dX8_number_32 : decode cX8_number 32 = .ok (.getfield 165, 3) := by decide +kernel
theorem dX8_number_35 : decode cX8_number 35 = .ok (.iload_n 1, 1) := by decide +kernel
theorem dX8_number_36 : decode cX8_number 36 = .ok (.iaload, 1) := by decide +kernel
theorem dX8_number_37 : decode cX8_number 37 = .ok (.iload_n 2, 1) := by decide +kernel
theorem dX8_number_38 : decode cX8_number 38 = .ok (.invokevirtual 168, 3) := by decide +kernel
theorem dX8_number_41 : decode cX8_number 41 = .ok (.ifCond .ne 6, 3) := by decide +kernel
theorem dX8_number_44 : decode cX8_number 44 = .ok (.ldc 80, 2) := by decide +kernel
theorem dX8_number_46 : decode cX8_number 46 = .ok (.ireturn, 1) := by decide +kernel
theorem dX8_number_47 : decode cX8_number 47 = .ok (.aload_n 0, 1) := by decide +kernel
theorem dX8_number_48 : decode cX8_number 48 = .ok (.getfield 56, 3) := by decide +kernel
theorem dX8_number_51 : decode cX8_number 51 = .ok (.aload_n 0, 1) := by decide +kernel
theorem dX8_number_52 : decode cX8_number 52 = .ok (.getfield 30, 3) := by decide +kernel
theorem dX8_number_55 : decode cX8_number 55 = .ok (.invokevirtual 150, 3) := by decide +kernel
theorem dX8_number_58 : decode cX8_number 58 = .ok (.aload_n 0, 1) := by decide +kernel
theorem dX8_number_59 : decode cX8_number 59 = .ok (.getfield 30, 3) := by decide +kernel
theorem dX8_number_62 : decode cX8_number 62 = .ok (.getfield 171, 3) := by decide +kernel
theorem dX8_number_65 : decode cX8_number 65 = .ok (.iload_n 1, 1) := by decide +kernel
theorem dX8_number_66 : decode cX8_number 66 = .ok (.iaload, 1) := by decide +kernel
theorem dX8_number_67 : decode cX8_number 67 = .ok (.istore_n 3, 1) := by decide +kernel
theorem dX8_number_68 : decode cX8_number 68 = .ok (.aload_n 0, 1) := by decide +kernel
theorem dX8_number_69 : decode cX8_number 69 = .ok (.getfield 30, 3) := by decide +kernel
theorem dX8_number_72 : decode cX8_number 72 = .ok (.getfield 171, 3) := by decide +kernel
theorem dX8_number_75 : decode cX8_number 75 = .ok (.iload_n 1, 1) := by decide +kernel
theorem dX8_number_76 : decode cX8_number 76 = .ok (.iload_n 2, 1) := by decide +kernel
theorem dX8_number_77 : decode cX8_number 77 = .ok (.iastore, 1) := by decide +kernel
theorem dX8_number_78 : decode cX8_number 78 = .ok (.iload_n 3, 1) := by decide +kernel
theorem dX8_number_79 : decode cX8_number 79 = .ok (.ireturn, 1) := by decide +kernel
theorem dX8_rule_0 : decode cX8_rule 0 = .ok (.aload_n 0, 1) := by decide +kernel
theorem dX8_rule_1 : decode cX8_rule 1 = .ok (.invokevirtual 142, 3) := by decide +kernel
theorem dX8_rule_4 : decode cX8_rule 4 = .ok (.ifCond .eq 6, 3) := by decide +kernel
theorem dX8_rule_7 : decode cX8_rule 7 = .ok (.ldc 146, 2) := by decide +kernel
theorem dX8_rule_9 : decode cX8_rule 9 = .ok (.ireturn, 1) := by decide +kernel
theorem dX8_rule_10 : decode cX8_rule 10 = .ok (.iload_n 1, 1) := by decide +kernel
theorem dX8_rule_11 : decode cX8_rule 11 = .ok (.tableswitch 90 0 2 #[25, 47, 68], 25) := by decide +kernel
theorem dX8_rule_36 : decode cX8_rule 36 = .ok (.iload_n 2, 1) := by decide +kernel
theorem dX8_rule_37 : decode cX8_rule 37 = .ok (.iconst 4, 1) := by decide +kernel
theorem dX8_rule_38 : decode cX8_rule 38 = .ok (.if_icmp .lt 9, 3) := by decide +kernel
theorem dX8_rule_41 : decode cX8_rule 41 = .ok (.iload_n 2, 1) := by decide +kernel
theorem dX8_rule_42 : decode cX8_rule 42 = .ok (.bipush 20, 2) := by decide +kernel
theorem dX8_rule_44 : decode cX8_rule 44 = .ok (.if_icmp .le 8, 3) := by decide +kernel
theorem dX8_rule_47 : decode cX8_rule 47 = .ok (.ldc 80, 2) := by decide +kernel
theorem dX8_rule_49 : decode cX8_rule 49 = .ok (.goto 8, 3) := by decide +kernel
theorem dX8_rule_52 : decode cX8_rule 52 = .ok (.aload_n 0, 1) := by decide +kernel
theorem dX8_rule_53 : decode cX8_rule 53 = .ok (.iload_n 2, 1) := by decide +kernel
theorem dX8_rule_54 : decode cX8_rule 54 = .ok (.invokevirtual 174, 3) := by decide +kernel
theorem dX8_rule_57 : decode cX8_rule 57 = .ok (.ireturn, 1) := by decide +kernel
theorem dX8_rule_58 : decode cX8_rule 58 = .ok (.iload_n 2, 1) := by decide +kernel
theorem dX8_rule_59 : decode cX8_rule 59 = .ok (.iconst 1, 1) := by decide +kernel
theorem dX8_rule_60 : decode cX8_rule 60 = .ok (.if_icmp .lt 8, 3) := by decide +kernel
theorem dX8_rule_63 : decode cX8_rule 63 = .ok (.iload_n 2, 1) := by decide +kernel
theorem dX8_rule_64 : decode cX8_rule 64 = .ok (.iconst 5, 1) := by decide +kernel
theorem dX8_rule_65 : decode cX8_rule 65 = .ok (.if_icmp .le 8, 3) := by decide +kernel
theorem dX8_rule_68 : decode cX8_rule 68 = .ok (.ldc 80, 2) := by decide +kernel
theorem dX8_rule_70 : decode cX8_rule 70 = .ok (.goto 8, 3) := by decide +kernel
theorem dX8_rule_73 : decode cX8_rule 73 = .ok (.aload_n 0, 1) := by decide +kernel
theorem dX8_rule_74 : decode cX8_rule 74 = .ok (.iload_n 2, 1) := by decide +kernel
theorem dX8_rule_75 : decode cX8_rule 75 = .ok (.invokevirtual 177, 3) := by decide +kernel
theorem dX8_rule_78 : decode cX8_rule 78 = .ok (.ireturn, 1) := by decide +kernel
theorem dX8_rule_79 : decode cX8_rule 79 = .ok (.iload_n 2, 1) := by decide +kernel
theorem dX8_rule_80 : decode cX8_rule 80 = .ok (.iconst 1, 1) := by decide +kernel
theorem dX8_rule_81 : decode cX8_rule 81 = .ok (.if_icmp .lt 9, 3) := by decide +kernel
theorem dX8_rule_84 : decode cX8_rule 84 = .ok (.iload_n 2, 1) := by decide +kernel
theorem dX8_rule_85 : decode cX8_rule 85 = .ok (.bipush 87, 2) := by decide +kernel
theorem dX8_rule_87 : decode cX8_rule 87 = .ok (.if_icmp .le 8, 3) := by decide +kernel
theorem dX8_rule_90 : decode cX8_rule 90 = .ok (.ldc 80, 2) := by decide +kernel
theorem dX8_rule_92 : decode cX8_rule 92 = .ok (.goto 8, 3) := by decide +kernel
theorem dX8_rule_95 : decode cX8_rule 95 = .ok (.aload_n 0, 1) := by decide +kernel
theorem dX8_rule_96 : decode cX8_rule 96 = .ok (.iload_n 2, 1) := by decide +kernel
theorem dX8_rule_97 : decode cX8_rule 97 = .ok (.invokevirtual 180, 3) := by decide +kernel
theorem dX8_rule_100 : decode cX8_rule 100 = .ok (.ireturn, 1) := by decide +kernel
theorem dX8_rule_101 : decode cX8_rule 101 = .ok (.ldc 80, 2) := by decide +kernel
theorem dX8_rule_103 : decode cX8_rule 103 = .ok (.ireturn, 1) := by decide +kernel
theorem dX8_anew_0 : decode cX8_anew 0 = .ok (.aload_n 0, 1) := by decide +kernel
theorem dX8_anew_1 : decode cX8_anew 1 = .ok (.invokevirtual 142, 3) := by decide +kernel
theorem dX8_anew_4 : decode cX8_anew 4 = .ok (.ifCond .eq 6, 3) := by decide +kernel
theorem dX8_anew_7 : decode cX8_anew 7 = .ok (.ldc 146, 2) := by decide +kernel
theorem dX8_anew_9 : decode cX8_anew 9 = .ok (.ireturn, 1) := by decide +kernel
theorem dX8_anew_10 : decode cX8_anew 10 = .ok (.aload_n 0, 1) := by decide +kernel
theorem dX8_anew_11 : decode cX8_anew 11 = .ok (.getfield 56, 3) := by decide +kernel
theorem dX8_anew_14 : decode cX8_anew 14 = .ok (.aload_n 0, 1) := by decide +kernel
theorem dX8_anew_15 : decode cX8_anew 15 = .ok (.getfield 30, 3) := by decide +kernel
theorem dX8_anew_18 : decode cX8_anew 18 = .ok (.invokevirtual 150, 3) := by decide +kernel
theorem dX8_anew_21 : decode cX8_anew 21 = .ok (.aload_n 0, 1) := by decide +kernel
theorem dX8_anew_22 : decode cX8_anew 22 = .ok (.getfield 30, 3) := by decide +kernel
theorem dX8_anew_25 : decode cX8_anew 25 = .ok (.invokevirtual 183, 3) := by decide +kernel
theorem dX8_anew_28 : decode cX8_anew 28 = .ok (.invokestatic 187, 3) := by decide +kernel
theorem dX8_anew_31 : decode cX8_anew 31 = .ok (.istore_n 1, 1) := by decide +kernel
theorem dX8_anew_32 : decode cX8_anew 32 = .ok (.aload_n 0, 1) := by decide +kernel
theorem dX8_anew_33 : decode cX8_anew 33 = .ok (.getfield 30, 3) := by decide +kernel
theorem dX8_anew_36 : decode cX8_anew 36 = .ok (.invokevirtual 192, 3) := by decide +kernel
theorem dX8_anew_39 : decode cX8_anew 39 = .ok (.iload_n 1, 1) := by decide +kernel
theorem dX8_anew_40 : decode cX8_anew 40 = .ok (.ireturn, 1) := by decide +kernel
theorem dX8_undo_0 : decode cX8_undo 0 = .ok (.aload_n 0, 1) := by decide +kernel
theorem dX8_undo_1 : decode cX8_undo 1 = .ok (.getfield 56, 3) := by decide +kernel
theorem dX8_undo_4 : decode cX8_undo 4 = .ok (.getfield 195, 3) := by decide +kernel
theorem dX8_undo_7 : decode cX8_undo 7 = .ok (.ifCond .ne 6, 3) := by decide +kernel
theorem dX8_undo_10 : decode cX8_undo 10 = .ok (.ldc 146, 2) := by decide +kernel
theorem dX8_undo_12 : decode cX8_undo 12 = .ok (.ireturn, 1) := by decide +kernel
theorem dX8_undo_13 : decode cX8_undo 13 = .ok (.aload_n 0, 1) := by decide +kernel
theorem dX8_undo_14 : decode cX8_undo 14 = .ok (.getfield 56, 3) := by decide +kernel
theorem dX8_undo_17 : decode cX8_undo 17 = .ok (.aload_n 0, 1) := by decide +kernel
theorem dX8_undo_18 : decode cX8_undo 18 = .ok (.getfield 30, 3) := by decide +kernel
theorem dX8_undo_21 : decode cX8_undo 21 = .ok (.invokevirtual 198, 3) := by decide +kernel
theorem dX8_undo_24 : decode cX8_undo 24 = .ok (.aload_n 0, 1) := by decide +kernel
theorem dX8_undo_25 : decode cX8_undo 25 = .ok (.getfield 56, 3) := by decide +kernel
theorem dX8_undo_28 : decode cX8_undo 28 = .ok (.getfield 195, 3) := by decide +kernel
theorem dX8_undo_31 : decode cX8_undo 31 = .ok (.ireturn, 1) := by decide +kernel
theorem dX8_item_0 : decode cX8_item 0 = .ok (.aload_n 0, 1) := by decide +kernel
theorem dX8_item_1 : decode cX8_item 1 = .ok (.getfield 30, 3) := by decide +kernel
theorem dX8_item_4 : decode cX8_item 4 = .ok (.iload_n 1, 1) := by decide +kernel
theorem dX8_item_5 : decode cX8_item 5 = .ok (.invokevirtual 162, 3) := by decide +kernel
theorem dX8_item_8 : decode cX8_item 8 = .ok (.ifCond .ne 6, 3) := by decide +kernel
theorem dX8_item_11 : decode cX8_item 11 = .ok (.ldc 80, 2) := by decide +kernel
theorem dX8_item_13 : decode cX8_item 13 = .ok (.ireturn, 1) := by decide +kernel
theorem dX8_item_14 : decode cX8_item 14 = .ok (.iload_n 2, 1) := by decide +kernel
theorem dX8_item_15 : decode cX8_item 15 = .ok (.tableswitch 138 0 6 #[41, 51, 61, 71, 87, 104, 121], 41) := by decide +kernel
theorem dX8_item_56 : decode cX8_item 56 = .ok (.aload_n 0, 1) := by decide +kernel
theorem dX8_item_57 : decode cX8_item 57 = .ok (.getfield 30, 3) := by decide +kernel
theorem dX8_item_60 : decode cX8_item 60 = .ok (.getfield 171, 3) := by decide +kernel
theorem dX8_item_63 : decode cX8_item 63 = .ok (.iload_n 1, 1) := by decide +kernel
theorem dX8_item_64 : decode cX8_item 64 = .ok (.iaload, 1) := by decide +kernel
theorem dX8_item_65 : decode cX8_item 65 = .ok (.ireturn, 1) := by decide +kernel
theorem dX8_item_66 : decode cX8_item 66 = .ok (.aload_n 0, 1) := by decide +kernel
theorem dX8_item_67 : decode cX8_item 67 = .ok (.getfield 30, 3) := by decide +kernel
theorem dX8_item_70 : decode cX8_item 70 = .ok (.getfield 201, 3) := by decide +kernel
theorem dX8_item_73 : decode cX8_item 73 = .ok (.iload_n 1, 1) := by decide +kernel
theorem dX8_item_74 : decode cX8_item 74 = .ok (.iaload, 1) := by decide +kernel
theorem dX8_item_75 : decode cX8_item 75 = .ok (.ireturn, 1) := by decide +kernel
theorem dX8_item_76 : decode cX8_item 76 = .ok (.aload_n 0, 1) := by decide +kernel
theorem dX8_item_77 : decode cX8_item 77 = .ok (.getfield 30, 3) := by decide +kernel
theorem dX8_item_80 : decode cX8_item 80 = .ok (.getfield 204, 3) := by decide +kernel
theorem dX8_item_83 : decode cX8_item 83 = .ok (.iload_n 1, 1) := by decide +kernel
theorem dX8_item_84 : decode cX8_item 84 = .ok (.iaload, 1) := by decide +kernel
theorem dX8_item_85 : decode cX8_item 85 = .ok (.ireturn, 1) := by decide +kernel
theorem dX8_item_86 : decode cX8_item 86 = .ok (.aload_n 0, 1) := by decide +kernel
theorem dX8_item_87 : decode cX8_item 87 = .ok (.getfield 30, 3) := by decide +kernel
theorem dX8_item_90 : decode cX8_item 90 = .ok (.aload_n 0, 1) := by decide +kernel
theorem dX8_item_91 : decode cX8_item 91 = .ok (.getfield 30, 3) := by decide +kernel
theorem dX8_item_94 : decode cX8_item 94 = .ok (.getfield 201, 3) := by decide +kernel
theorem dX8_item_97 : decode cX8_item 97 = .ok (.iload_n 1, 1) := by decide +kernel
theorem dX8_item_98 : decode cX8_item 98 = .ok (.invokevirtual 207, 3) := by decide +kernel
theorem dX8_item_101 : decode cX8_item 101 = .ok (.ireturn, 1) := by decide +kernel
theorem dX8_item_102 : decode cX8_item 102 = .ok (.aload_n 0, 1) := by decide +kernel
theorem dX8_item_103 : decode cX8_item 103 = .ok (.getfield 40, 3) := by decide +kernel
theorem dX8_item_106 : decode cX8_item 106 = .ok (.aload_n 0, 1) := by decide +kernel
theorem dX8_item_107 : decode cX8_item 107 = .ok (.getfield 30, 3) := by decide +kernel
theorem dX8_item_110 : decode cX8_item 110 = .ok (.invokevirtual 211, 3) := by decide +kernel
theorem dX8_item_113 : decode cX8_item 113 = .ok (.getfield 215, 3) := by decide +kernel
theorem dX8_item_116 : decode cX8_item 116 = .ok (.iload_n 1, 1) := by decide +kernel
theorem dX8_item_117 : decode cX8_item 117 = .ok (.iaload, 1) := by decide +kernel
theorem dX8_item_118 : decode cX8_item 118 = .ok (.ireturn, 1) := by decide +kernel
theorem dX8_item_119 : decode cX8_item 119 = .ok (.aload_n 0, 1) := by decide +kernel
theorem dX8_item_120 : decode cX8_item 120 = .ok (.getfield 40, 3) := by decide +kernel
theorem dX8_item_123 : decode cX8_item 123 = .ok (.aload_n 0, 1) := by decide +kernel
theorem dX8_item_124 : decode cX8_item 124 = .ok (.getfield 30, 3) := by decide +kernel
theorem dX8_item_127 : decode cX8_item 127 = .ok (.invokevirtual 211, 3) := by decide +kernel
theorem dX8_item_130 : decode cX8_item 130 = .ok (.getfield 220, 3) := by decide +kernel
theorem dX8_item_133 : decode cX8_item 133 = .ok (.iload_n 1, 1) := by decide +kernel
theorem dX8_item_134 : decode cX8_item 134 = .ok (.iaload, 1) := by decide +kernel
theorem dX8_item_135 : decode cX8_item 135 = .ok (.ireturn, 1) := by decide +kernel
theorem dX8_item_136 : decode cX8_item 136 = .ok (.aload_n 0, 1) := by decide +kernel
theorem dX8_item_137 : decode cX8_item 137 = .ok (.getfield 40, 3) := by decide +kernel
theorem dX8_item_140 : decode cX8_item 140 = .ok (.aload_n 0, 1) := by decide +kernel
theorem dX8_item_141 : decode cX8_item 141 = .ok (.getfield 30, 3) := by decide +kernel
theorem dX8_item_144 : decode cX8_item 144 = .ok (.invokevirtual 211, 3) := by decide +kernel
theorem dX8_item_147 : decode cX8_item 147 = .ok (.getfield 223, 3) := by decide +kernel
theorem dX8_item_150 : decode cX8_item 150 = .ok (.iload_n 1, 1) := by decide +kernel
theorem dX8_item_151 : decode cX8_item 151 = .ok (.iaload, 1) := by decide +kernel
theorem dX8_item_152 : decode cX8_item 152 = .ok (.ireturn, 1) := by decide +kernel
theorem dX8_item_153 : decode cX8_item 153 = .ok (.ldc 80, 2) := by decide +kernel
theorem dX8_item_155 : decode cX8_item 155 = .ok (.ireturn, 1) := by decide +kernel
theorem dX8_print_0 : decode cX8_print 0 = .ok (.aload_n 0, 1) := by decide +kernel
theorem dX8_print_1 : decode cX8_print 1 = .ok (.getfield 30, 3) := by decide +kernel
theorem dX8_print_4 : decode cX8_print 4 = .ok (.iload_n 1, 1) := by decide +kernel
theorem dX8_print_5 : decode cX8_print 5 = .ok (.invokevirtual 162, 3) := by decide +kernel
theorem dX8_print_8 : decode cX8_print 8 = .ok (.ifCond .eq 18, 3) := by decide +kernel
theorem dX8_print_11 : decode cX8_print 11 = .ok (.aload_n 0, 1) := by decide +kernel
theorem dX8_print_12 : decode cX8_print 12 = .ok (.getfield 30, 3) := by decide +kernel
theorem dX8_print_15 : decode cX8_print 15 = .ok (.iload_n 1, 1) := by decide +kernel
theorem dX8_print_16 : decode cX8_print 16 = .ok (.invokevirtual 226, 3) := by decide +kernel
theorem dX8_print_19 : decode cX8_print 19 = .ok (.ifCond .eq 7, 3) := by decide +kernel
theorem dX8_print_22 : decode cX8_print 22 = .ok (.iload_n 2, 1) := by decide +kernel
theorem dX8_print_23 : decode cX8_print 23 = .ok (.ifCond .ge 6, 3) := by decide +kernel
theorem dX8_print_26 : decode cX8_print 26 = .ok (.ldc 80, 2) := by decide +kernel
theorem dX8_print_28 : decode cX8_print 28 = .ok (.ireturn, 1) := by decide +kernel
theorem dX8_print_29 : decode cX8_print 29 = .ok (.aload_n 0, 1) := by decide +kernel
theorem dX8_print_30 : decode cX8_print 30 = .ok (.getfield 30, 3) := by decide +kernel
theorem dX8_print_33 : decode cX8_print 33 = .ok (.iload_n 1, 1) := by decide +kernel
theorem dX8_print_34 : decode cX8_print 34 = .ok (.iload_n 2, 1) := by decide +kernel
theorem dX8_print_35 : decode cX8_print 35 = .ok (.invokevirtual 229, 3) := by decide +kernel
theorem dX8_print_38 : decode cX8_print 38 = .ok (.ireturn, 1) := by decide +kernel
theorem dX8_behind_0 : decode cX8_behind 0 = .ok (.aload_n 0, 1) := by decide +kernel
theorem dX8_behind_1 : decode cX8_behind 1 = .ok (.getfield 30, 3) := by decide +kernel
theorem dX8_behind_4 : decode cX8_behind 4 = .ok (.iload_n 1, 1) := by decide +kernel
theorem dX8_behind_5 : decode cX8_behind 5 = .ok (.invokevirtual 162, 3) := by decide +kernel
theorem dX8_behind_8 : decode cX8_behind 8 = .ok (.ifCond .eq 13, 3) := by decide +kernel
theorem dX8_behind_11 : decode cX8_behind 11 = .ok (.iload_n 2, 1) := by decide +kernel
theorem dX8_behind_12 : decode cX8_behind 12 = .ok (.ifCond .lt 9, 3) := by decide +kernel
theorem dX8_behind_15 : decode cX8_behind 15 = .ok (.iload_n 2, 1) := by decide +kernel
theorem dX8_behind_16 : decode cX8_behind 16 = .ok (.bipush 60, 2) := by decide +kernel
theorem dX8_behind_18 : decode cX8_behind 18 = .ok (.if_icmp .le 6, 3) := by decide +kernel
theorem dX8_behind_21 : decode cX8_behind 21 = .ok (.ldc 80, 2) := by decide +kernel
theorem dX8_behind_23 : decode cX8_behind 23 = .ok (.ireturn, 1) := by decide +kernel
theorem dX8_behind_24 : decode cX8_behind 24 = .ok (.aload_n 0, 1) := by decide +kernel
theorem dX8_behind_25 : decode cX8_behind 25 = .ok (.getfield 49, 3) := by decide +kernel
theorem dX8_behind_28 : decode cX8_behind 28 = .ok (.iload_n 1, 1) := by decide +kernel
theorem dX8_behind_29 : decode cX8_behind 29 = .ok (.iload_n 2, 1) := by decide +kernel
theorem dX8_behind_30 : decode cX8_behind 30 = .ok (.invokevirtual 233, 3) := by decide +kernel
theorem dX8_behind_33 : decode cX8_behind 33 = .ok (.ireturn, 1) := by decide +kernel
theorem dX8_lies_0 : decode cX8_lies 0 = .ok (.aload_n 0, 1) := by decide +kernel
theorem dX8_lies_1 : decode cX8_lies 1 = .ok (.invokevirtual 142, 3) := by decide +kernel
theorem dX8_lies_4 : decode cX8_lies 4 = .ok (.ifCond .eq 8, 3) := by decide +kernel
theorem dX8_lies_7 : decode cX8_lies 7 = .ok (.ldc 146, 2) := by decide +kernel
theorem dX8_lies_9 : decode cX8_lies 9 = .ok (.goto 10, 3) := by decide +kernel
theorem dX8_lies_12 : decode cX8_lies 12 = .ok (.aload_n 0, 1) := by decide +kernel
theorem dX8_lies_13 : decode cX8_lies 13 = .ok (.getfield 49, 3) := by decide +kernel
theorem dX8_lies_16 : decode cX8_lies 16 = .ok (.invokevirtual 236, 3) := by decide +kernel
theorem dX8_lies_19 : decode cX8_lies 19 = .ok (.ireturn, 1) := by decide +kernel
theorem dX8_settled_0 : decode cX8_settled 0 = .ok (.aload_n 0, 1) := by decide +kernel
theorem dX8_settled_1 : decode cX8_settled 1 = .ok (.invokevirtual 142, 3) := by decide +kernel
theorem dX8_settled_4 : decode cX8_settled 4 = .ok (.ifCond .eq 6, 3) := by decide +kernel
theorem dX8_settled_7 : decode cX8_settled 7 = .ok (.ldc 146, 2) := by decide +kernel
theorem dX8_settled_9 : decode cX8_settled 9 = .ok (.ireturn, 1) := by decide +kernel
theorem dX8_settled_10 : decode cX8_settled 10 = .ok (.iload_n 1, 1) := by decide +kernel
theorem dX8_settled_11 : decode cX8_settled 11 = .ok (.ifCond .lt 8, 3) := by decide +kernel
theorem dX8_settled_14 : decode cX8_settled 14 = .ok (.iload_n 1, 1) := by decide +kernel
theorem dX8_settled_15 : decode cX8_settled 15 = .ok (.iconst 5, 1) := by decide +kernel
theorem dX8_settled_16 : decode cX8_settled 16 = .ok (.if_icmp .le 6, 3) := by decide +kernel
theorem dX8_settled_19 : decode cX8_settled 19 = .ok (.ldc 80, 2) := by decide +kernel
theorem dX8_settled_21 : decode cX8_settled 21 = .ok (.ireturn, 1) := by decide +kernel
theorem dX8_settled_22 : decode cX8_settled 22 = .ok (.aload_n 0, 1) := by decide +kernel
theorem dX8_settled_23 : decode cX8_settled 23 = .ok (.getfield 34, 3) := by decide +kernel
theorem dX8_settled_26 : decode cX8_settled 26 = .ok (.aload_n 0, 1) := by decide +kernel
theorem dX8_settled_27 : decode cX8_settled 27 = .ok (.getfield 30, 3) := by decide +kernel
theorem dX8_settled_30 : decode cX8_settled 30 = .ok (.invokevirtual 133, 3) := by decide +kernel
theorem dX8_settled_33 : decode cX8_settled 33 = .ok (.aload_n 0, 1) := by decide +kernel
theorem dX8_settled_34 : decode cX8_settled 34 = .ok (.getfield 40, 3) := by decide +kernel
theorem dX8_settled_37 : decode cX8_settled 37 = .ok (.aload_n 0, 1) := by decide +kernel
theorem dX8_settled_38 : decode cX8_settled 38 = .ok (.getfield 34, 3) := by decide +kernel
theorem dX8_settled_41 : decode cX8_settled 41 = .ok (.iconst 0, 1) := by decide +kernel
theorem dX8_settled_42 : decode cX8_settled 42 = .ok (.invokevirtual 157, 3) := by decide +kernel
theorem dX8_settled_45 : decode cX8_settled 45 = .ok (.iload_n 1, 1) := by decide +kernel
theorem dX8_settled_46 : decode cX8_settled 46 = .ok (.tableswitch 74 0 4 #[34, 42, 50, 58, 66], 34) := by decide +kernel
theorem dX8_settled_80 : decode cX8_settled 80 = .ok (.aload_n 0, 1) := by decide +kernel
theorem dX8_settled_81 : decode cX8_settled 81 = .ok (.getfield 40, 3) := by decide +kernel
theorem dX8_settled_84 : decode cX8_settled 84 = .ok (.getfield 161, 3) := by decide +kernel
theorem dX8_settled_87 : decode cX8_settled 87 = .ok (.ireturn, 1) := by decide +kernel
theorem dX8_settled_88 : decode cX8_settled 88 = .ok (.aload_n 0, 1) := by decide +kernel
theorem dX8_settled_89 : decode cX8_settled 89 = .ok (.getfield 40, 3) := by decide +kernel
theorem dX8_settled_92 : decode cX8_settled 92 = .ok (.getfield 239, 3) := by decide +kernel
theorem dX8_settled_95 : decode cX8_settled 95 = .ok (.ireturn, 1) := by decide +kernel
theorem dX8_settled_96 : decode cX8_settled 96 = .ok (.aload_n 0, 1) := by decide +kernel
theorem dX8_settled_97 : decode cX8_settled 97 = .ok (.getfield 40, 3) := by decide +kernel
theorem dX8_settled_100 : decode cX8_settled 100 = .ok (.getfield 242, 3) := by decide +kernel
theorem dX8_settled_103 : decode cX8_settled 103 = .ok (.ireturn, 1) := by decide +kernel
theorem dX8_settled_104 : decode cX8_settled 104 = .ok (.aload_n 0, 1) := by decide +kernel
theorem dX8_settled_105 : decode cX8_settled 105 = .ok (.getfield 34, 3) := by decide +kernel
theorem dX8_settled_108 : decode cX8_settled 108 = .ok (.invokevirtual 183, 3) := by decide +kernel
theorem dX8_settled_111 : decode cX8_settled 111 = .ok (.ireturn, 1) := by decide +kernel
theorem dX8_settled_112 : decode cX8_settled 112 = .ok (.aload_n 0, 1) := by decide +kernel
theorem dX8_settled_113 : decode cX8_settled 113 = .ok (.getfield 34, 3) := by decide +kernel
theorem dX8_settled_116 : decode cX8_settled 116 = .ok (.invokevirtual 245, 3) := by decide +kernel
theorem dX8_settled_119 : decode cX8_settled 119 = .ok (.ireturn, 1) := by decide +kernel
theorem dX8_settled_120 : decode cX8_settled 120 = .ok (.aload_n 0, 1) := by decide +kernel
theorem dX8_settled_121 : decode cX8_settled 121 = .ok (.getfield 40, 3) := by decide +kernel
theorem dX8_settled_124 : decode cX8_settled 124 = .ok (.getfield 248, 3) := by decide +kernel
theorem dX8_settled_127 : decode cX8_settled 127 = .ok (.ifCond .eq 7, 3) := by decide +kernel
theorem dX8_settled_130 : decode cX8_settled 130 = .ok (.iconst 1, 1) := by decide +kernel
theorem dX8_settled_131 : decode cX8_settled 131 = .ok (.goto 4, 3) := by decide +kernel
theorem dX8_settled_134 : decode cX8_settled 134 = .ok (.iconst 0, 1) := by decide +kernel
theorem dX8_settled_135 : decode cX8_settled 135 = .ok (.ireturn, 1) := by decide +kernel
theorem dX8_ends_0 : decode cX8_ends 0 = .ok (.aload_n 0, 1) := by decide +kernel
theorem dX8_ends_1 : decode cX8_ends 1 = .ok (.getfield 30, 3) := by decide +kernel
theorem dX8_ends_4 : decode cX8_ends 4 = .ok (.iload_n 1, 1) := by decide +kernel
theorem dX8_ends_5 : decode cX8_ends 5 = .ok (.invokevirtual 162, 3) := by decide +kernel
theorem dX8_ends_8 : decode cX8_ends 8 = .ok (.ifCond .ne 6, 3) := by decide +kernel
theorem dX8_ends_11 : decode cX8_ends 11 = .ok (.ldc 80, 2) := by decide +kernel
theorem dX8_ends_13 : decode cX8_ends 13 = .ok (.ireturn, 1) := by decide +kernel
theorem dX8_ends_14 : decode cX8_ends 14 = .ok (.aload_n 0, 1) := by decide +kernel
theorem dX8_ends_15 : decode cX8_ends 15 = .ok (.getfield 34, 3) := by decide +kernel
theorem dX8_ends_18 : decode cX8_ends 18 = .ok (.aload_n 0, 1) := by decide +kernel
theorem dX8_ends_19 : decode cX8_ends 19 = .ok (.getfield 30, 3) := by decide +kernel
theorem dX8_ends_22 : decode cX8_ends 22 = .ok (.invokevirtual 133, 3) := by decide +kernel
theorem dX8_ends_25 : decode cX8_ends 25 = .ok (.aload_n 0, 1) := by decide +kernel
theorem dX8_ends_26 : decode cX8_ends 26 = .ok (.getfield 40, 3) := by decide +kernel
theorem dX8_ends_29 : decode cX8_ends 29 = .ok (.aload_n 0, 1) := by decide +kernel
theorem dX8_ends_30 : decode cX8_ends 30 = .ok (.getfield 34, 3) := by decide +kernel
theorem dX8_ends_33 : decode cX8_ends 33 = .ok (.iconst 0, 1) := by decide +kernel
theorem dX8_ends_34 : decode cX8_ends 34 = .ok (.invokevirtual 157, 3) := by decide +kernel
theorem dX8_ends_37 : decode cX8_ends 37 = .ok (.aload_n 0, 1) := by decide +kernel
theorem dX8_ends_38 : decode cX8_ends 38 = .ok (.getfield 34, 3) := by decide +kernel
theorem dX8_ends_41 : decode cX8_ends 41 = .ok (.getfield 201, 3) := by decide +kernel
theorem dX8_ends_44 : decode cX8_ends 44 = .ok (.iload_n 1, 1) := by decide +kernel
theorem dX8_ends_45 : decode cX8_ends 45 = .ok (.iaload, 1) := by decide +kernel
theorem dX8_ends_46 : decode cX8_ends 46 = .ok (.ireturn, 1) := by decide +kernel
theorem dX8_moves_0 : decode cX8_moves 0 = .ok (.aload_n 0, 1) := by decide +kernel
theorem dX8_moves_1 : decode cX8_moves 1 = .ok (.getfield 30, 3) := by decide +kernel
theorem dX8_moves_4 : decode cX8_moves 4 = .ok (.iload_n 1, 1) := by decide +kernel
theorem dX8_moves_5 : decode cX8_moves 5 = .ok (.invokevirtual 162, 3) := by decide +kernel
theorem dX8_moves_8 : decode cX8_moves 8 = .ok (.ifCond .eq 16, 3) := by decide +kernel
theorem dX8_moves_11 : decode cX8_moves 11 = .ok (.aload_n 0, 1) := by decide +kernel
theorem dX8_moves_12 : decode cX8_moves 12 = .ok (.getfield 30, 3) := by decide +kernel
theorem dX8_moves_15 : decode cX8_moves 15 = .ok (.getfield 165, 3) := by decide +kernel
theorem dX8_moves_18 : decode cX8_moves 18 = .ok (.iload_n 1, 1) := by decide +kernel
theorem dX8_moves_19 : decode cX8_moves 19 = .ok (.iaload, 1) := by decide +kernel
theorem dX8_moves_20 : decode cX8_moves 20 = .ok (.iconst 5, 1) := by decide +kernel
theorem dX8_moves_21 : decode cX8_moves 21 = .ok (.if_icmp .ne 6, 3) := by decide +kernel
theorem dX8_moves_24 : decode cX8_moves 24 = .ok (.ldc 80, 2) := by decide +kernel
theorem dX8_moves_26 : decode cX8_moves 26 = .ok (.ireturn, 1) := by decide +kernel
theorem dX8_moves_27 : decode cX8_moves 27 = .ok (.aload_n 0, 1) := by decide +kernel
theorem dX8_moves_28 : decode cX8_moves 28 = .ok (.getfield 49, 3) := by decide +kernel
theorem dX8_moves_31 : decode cX8_moves 31 = .ok (.iload_n 1, 1) := by decide +kernel
theorem dX8_moves_32 : decode cX8_moves 32 = .ok (.invokevirtual 252, 3) := by decide +kernel
theorem dX8_moves_35 : decode cX8_moves 35 = .ok (.ireturn, 1) := by decide +kernel
theorem dX8_room_0 : decode cX8_room 0 = .ok (.aload_n 0, 1) := by decide +kernel
theorem dX8_room_1 : decode cX8_room 1 = .ok (.getfield 30, 3) := by decide +kernel
theorem dX8_room_4 : decode cX8_room 4 = .ok (.iload_n 1, 1) := by decide +kernel
theorem dX8_room_5 : decode cX8_room 5 = .ok (.invokevirtual 162, 3) := by decide +kernel
theorem dX8_room_8 : decode cX8_room 8 = .ok (.ifCond .eq 16, 3) := by decide +kernel
theorem dX8_room_11 : decode cX8_room 11 = .ok (.aload_n 0, 1) := by decide +kernel
theorem dX8_room_12 : decode cX8_room 12 = .ok (.getfield 30, 3) := by decide +kernel
theorem dX8_room_15 : decode cX8_room 15 = .ok (.getfield 165, 3) := by decide +kernel
theorem dX8_room_18 : decode cX8_room 18 = .ok (.iload_n 1, 1) := by decide +kernel
theorem dX8_room_19 : decode cX8_room 19 = .ok (.iaload, 1) := by decide +kernel
theorem dX8_room_20 : decode cX8_room 20 = .ok (.iconst 4, 1) := by decide +kernel
theorem dX8_room_21 : decode cX8_room 21 = .ok (.if_icmp .eq 6, 3) := by decide +kernel
theorem dX8_room_24 : decode cX8_room 24 = .ok (.ldc 80, 2) := by decide +kernel
theorem dX8_room_26 : decode cX8_room 26 = .ok (.ireturn, 1) := by decide +kernel
theorem dX8_room_27 : decode cX8_room 27 = .ok (.aload_n 0, 1) := by decide +kernel
theorem dX8_room_28 : decode cX8_room 28 = .ok (.getfield 49, 3) := by decide +kernel
theorem dX8_room_31 : decode cX8_room 31 = .ok (.iload_n 1, 1) := by decide +kernel
theorem dX8_room_32 : decode cX8_room 32 = .ok (.invokevirtual 255, 3) := by decide +kernel
theorem dX8_room_35 : decode cX8_room 35 = .ok (.ireturn, 1) := by decide +kernel
theorem dX8_restless_0 : decode cX8_restless 0 = .ok (.aload_n 0, 1) := by decide +kernel
theorem dX8_restless_1 : decode cX8_restless 1 = .ok (.invokevirtual 142, 3) := by decide +kernel
theorem dX8_restless_4 : decode cX8_restless 4 = .ok (.ifCond .eq 8, 3) := by decide +kernel
theorem dX8_restless_7 : decode cX8_restless 7 = .ok (.ldc 146, 2) := by decide +kernel
theorem dX8_restless_9 : decode cX8_restless 9 = .ok (.goto 10, 3) := by decide +kernel
theorem dX8_restless_12 : decode cX8_restless 12 = .ok (.aload_n 0, 1) := by decide +kernel
theorem dX8_restless_13 : decode cX8_restless 13 = .ok (.getfield 49, 3) := by decide +kernel
theorem dX8_restless_16 : decode cX8_restless 16 = .ok (.invokevirtual 258, 3) := by decide +kernel
theorem dX8_restless_19 : decode cX8_restless 19 = .ok (.ireturn, 1) := by decide +kernel
theorem dX8_fits_0 : decode cX8_fits 0 = .ok (.aload_n 0, 1) := by decide +kernel
theorem dX8_fits_1 : decode cX8_fits 1 = .ok (.getfield 30, 3) := by decide +kernel
theorem dX8_fits_4 : decode cX8_fits 4 = .ok (.iload_n 1, 1) := by decide +kernel
theorem dX8_fits_5 : decode cX8_fits 5 = .ok (.invokevirtual 162, 3) := by decide +kernel
theorem dX8_fits_8 : decode cX8_fits 8 = .ok (.ifCond .eq 34, 3) := by decide +kernel
theorem dX8_fits_11 : decode cX8_fits 11 = .ok (.iload_n 2, 1) := by decide +kernel
theorem dX8_fits_12 : decode cX8_fits 12 = .ok (.invokestatic 73, 3) := by decide +kernel
theorem dX8_fits_15 : decode cX8_fits 15 = .ok (.ifCond .eq 27, 3) := by decide +kernel
theorem dX8_fits_18 : decode cX8_fits 18 = .ok (.iload 4, 2) := by decide +kernel
theorem dX8_fits_20 : decode cX8_fits 20 = .ok (.iconst 1, 1) := by decide +kernel
theorem dX8_fits_21 : decode cX8_fits 21 = .ok (.if_icmp .lt 21, 3) := by decide +kernel
theorem dX8_fits_24 : decode cX8_fits 24 = .ok (.iload 4, 2) := by decide +kernel
theorem dX8_fits_26 : decode cX8_fits 26 = .ok (.bipush 12, 2) := by decide +kernel
theorem dX8_fits_28 : decode cX8_fits 28 = .ok (.if_icmp .gt 14, 3) := by decide +kernel
theorem dX8_fits_31 : decode cX8_fits 31 = .ok (.iload 5, 2) := by decide +kernel
theorem dX8_fits_33 : decode cX8_fits 33 = .ok (.ifCond .lt 9, 3) := by decide +kernel
theorem dX8_fits_36 : decode cX8_fits 36 = .ok (.iload 5, 2) := by decide +kernel
theorem dX8_fits_38 : decode cX8_fits 38 = .ok (.iconst 3, 1) := by decide +kernel
theorem dX8_fits_39 : decode cX8_fits 39 = .ok (.if_icmp .le 6, 3) := by decide +kernel
theorem dX8_fits_42 : decode cX8_fits 42 = .ok (.ldc 80, 2) := by decide +kernel
theorem dX8_fits_44 : decode cX8_fits 44 = .ok (.ireturn, 1) := by decide +kernel
theorem dX8_fits_45 : decode cX8_fits 45 = .ok (.aload_n 0, 1) := by decide +kernel
theorem dX8_fits_46 : decode cX8_fits 46 = .ok (.getfield 10, 3) := by decide +kernel
theorem dX8_fits_49 : decode cX8_fits 49 = .ok (.iload_n 2, 1) := by decide +kernel
theorem dX8_fits_50 : decode cX8_fits 50 = .ok (.invokevirtual 92, 3) := by decide +kernel
theorem dX8_fits_53 : decode cX8_fits 53 = .ok (.ifCond .eq 9, 3) := by decide +kernel
theorem dX8_fits_56 : decode cX8_fits 56 = .ok (.aload_n 0, 1) := by decide +kernel
theorem dX8_fits_57 : decode cX8_fits 57 = .ok (.iconst 1, 1) := by decide +kernel
theorem dX8_fits_58 : decode cX8_fits 58 = .ok (.invokevirtual 81, 3) := by decide +kernel
theorem dX8_fits_61 : decode cX8_fits 61 = .ok (.ireturn, 1) := by decide +kernel
theorem dX8_fits_62 : decode cX8_fits 62 = .ok (.aload_n 0, 1) := by decide +kernel
theorem dX8_fits_63 : decode cX8_fits 63 = .ok (.getfield 10, 3) := by decide +kernel
theorem dX8_fits_66 : decode cX8_fits 66 = .ok (.iload_n 2, 1) := by decide +kernel
theorem dX8_fits_67 : decode cX8_fits 67 = .ok (.iload_n 3, 1) := by decide +kernel
theorem dX8_fits_68 : decode cX8_fits 68 = .ok (.iload 4, 2) := by decide +kernel
theorem dX8_fits_70 : decode cX8_fits 70 = .ok (.invokevirtual 95, 3) := by decide +kernel
theorem dX8_fits_73 : decode cX8_fits 73 = .ok (.ifCond .ne 9, 3) := by decide +kernel
theorem dX8_fits_76 : decode cX8_fits 76 = .ok (.aload_n 0, 1) := by decide +kernel
theorem dX8_fits_77 : decode cX8_fits 77 = .ok (.iconst 2, 1) := by decide +kernel
theorem dX8_fits_78 : decode cX8_fits 78 = .ok (.invokevirtual 81, 3) := by decide +kernel
theorem dX8_fits_81 : decode cX8_fits 81 = .ok (.ireturn, 1) := by decide +kernel
theorem dX8_fits_82 : decode cX8_fits 82 = .ok (.aload_n 0, 1) := by decide +kernel
theorem dX8_fits_83 : decode cX8_fits 83 = .ok (.getfield 49, 3) := by decide +kernel
theorem dX8_fits_86 : decode cX8_fits 86 = .ok (.iload_n 1, 1) := by decide +kernel
theorem dX8_fits_87 : decode cX8_fits 87 = .ok (.aload_n 0, 1) := by decide +kernel
theorem dX8_fits_88 : decode cX8_fits 88 = .ok (.getfield 10, 3) := by decide +kernel
theorem dX8_fits_91 : decode cX8_fits 91 = .ok (.getfield 261, 3) := by decide +kernel
theorem dX8_fits_94 : decode cX8_fits 94 = .ok (.iload_n 2, 1) := by decide +kernel
theorem dX8_fits_95 : decode cX8_fits 95 = .ok (.aaload, 1) := by decide +kernel
theorem dX8_fits_96 : decode cX8_fits 96 = .ok (.iload_n 3, 1) := by decide +kernel
theorem dX8_fits_97 : decode cX8_fits 97 = .ok (.iload 4, 2) := by decide +kernel
theorem dX8_fits_99 : decode cX8_fits 99 = .ok (.invokevirtual 265, 3) := by decide +kernel
theorem dX8_fits_102 : decode cX8_fits 102 = .ok (.iload 5, 2) := by decide +kernel
theorem dX8_fits_104 : decode cX8_fits 104 = .ok (.tableswitch 65 0 2 #[28, 40, 52], 28) := by decide +kernel
theorem dX8_fits_132 : decode cX8_fits 132 = .ok (.aload_n 0, 1) := by decide +kernel
theorem dX8_fits_133 : decode cX8_fits 133 = .ok (.aload_n 0, 1) := by decide +kernel
theorem dX8_fits_134 : decode cX8_fits 134 = .ok (.getfield 49, 3) := by decide +kernel
theorem dX8_fits_137 : decode cX8_fits 137 = .ok (.invokevirtual 269, 3) := by decide +kernel
theorem dX8_fits_140 : decode cX8_fits 140 = .ok (.invokevirtual 89, 3) := by decide +kernel
theorem dX8_fits_143 : decode cX8_fits 143 = .ok (.ireturn, 1) := by decide +kernel
theorem dX8_fits_144 : decode cX8_fits 144 = .ok (.aload_n 0, 1) := by decide +kernel
theorem dX8_fits_145 : decode cX8_fits 145 = .ok (.aload_n 0, 1) := by decide +kernel
theorem dX8_fits_146 : decode cX8_fits 146 = .ok (.getfield 49, 3) := by decide +kernel
theorem dX8_fits_149 : decode cX8_fits 149 = .ok (.invokevirtual 272, 3) := by decide +kernel
theorem dX8_fits_152 : decode cX8_fits 152 = .ok (.invokevirtual 89, 3) := by decide +kernel
theorem dX8_fits_155 : decode cX8_fits 155 = .ok (.ireturn, 1) := by decide +kernel
theorem dX8_fits_156 : decode cX8_fits 156 = .ok (.aload_n 0, 1) := by decide +kernel
theorem dX8_fits_157 : decode cX8_fits 157 = .ok (.aload_n 0, 1) := by decide +kernel
theorem dX8_fits_158 : decode cX8_fits 158 = .ok (.getfield 49, 3) := by decide +kernel
theorem dX8_fits_161 : decode cX8_fits 161 = .ok (.iconst 1, 1) := by decide +kernel
theorem dX8_fits_162 : decode cX8_fits 162 = .ok (.invokevirtual 275, 3) := by decide +kernel
theorem dX8_fits_165 : decode cX8_fits 165 = .ok (.invokevirtual 89, 3) := by decide +kernel
theorem dX8_fits_168 : decode cX8_fits 168 = .ok (.ireturn, 1) := by decide +kernel
theorem dX8_fits_169 : decode cX8_fits 169 = .ok (.aload_n 0, 1) := by decide +kernel
theorem dX8_fits_170 : decode cX8_fits 170 = .ok (.aload_n 0, 1) := by decide +kernel
theorem dX8_fits_171 : decode cX8_fits 171 = .ok (.getfield 49, 3) := by decide +kernel
theorem dX8_fits_174 : decode cX8_fits 174 = .ok (.iconst 0, 1) := by decide +kernel
theorem dX8_fits_175 : decode cX8_fits 175 = .ok (.invokevirtual 275, 3) := by decide +kernel
theorem dX8_fits_178 : decode cX8_fits 178 = .ok (.invokevirtual 89, 3) := by decide +kernel
theorem dX8_fits_181 : decode cX8_fits 181 = .ok (.ireturn, 1) := by decide +kernel
theorem dX8_chance_0 : decode cX8_chance 0 = .ok (.aload_n 0, 1) := by decide +kernel
theorem dX8_chance_1 : decode cX8_chance 1 = .ok (.invokevirtual 142, 3) := by decide +kernel
theorem dX8_chance_4 : decode cX8_chance 4 = .ok (.ifCond .eq 7, 3) := by decide +kernel
theorem dX8_chance_7 : decode cX8_chance 7 = .ok (.ldc2_w 279, 3) := by decide +kernel
theorem dX8_chance_10 : decode cX8_chance 10 = .ok (.lreturn, 1) := by decide +kernel
theorem dX8_chance_11 : decode cX8_chance 11 = .ok (.iload_n 1, 1) := by decide +kernel
theorem dX8_chance_12 : decode cX8_chance 12 = .ok (.ifCond .lt 18, 3) := by decide +kernel
theorem dX8_chance_15 : decode cX8_chance 15 = .ok (.iload_n 1, 1) := by decide +kernel
theorem dX8_chance_16 : decode cX8_chance 16 = .ok (.bipush 10, 2) := by decide +kernel
theorem dX8_chance_18 : decode cX8_chance 18 = .ok (.if_icmp .gt 12, 3) := by decide +kernel
theorem dX8_chance_21 : decode cX8_chance 21 = .ok (.iload_n 2, 1) := by decide +kernel
theorem dX8_chance_22 : decode cX8_chance 22 = .ok (.ifCond .lt 8, 3) := by decide +kernel
theorem dX8_chance_25 : decode cX8_chance 25 = .ok (.iload_n 2, 1) := by decide +kernel
theorem dX8_chance_26 : decode cX8_chance 26 = .ok (.iconst 1, 1) := by decide +kernel
theorem dX8_chance_27 : decode cX8_chance 27 = .ok (.if_icmp .le 7, 3) := by decide +kernel
theorem dX8_chance_30 : decode cX8_chance 30 = .ok (.ldc2_w 281, 3) := by decide +kernel
theorem dX8_chance_33 : decode cX8_chance 33 = .ok (.lreturn, 1) := by decide +kernel
theorem dX8_chance_34 : decode cX8_chance 34 = .ok (.aload_n 0, 1) := by decide +kernel
theorem dX8_chance_35 : decode cX8_chance 35 = .ok (.getfield 49, 3) := by decide +kernel
theorem dX8_chance_38 : decode cX8_chance 38 = .ok (.iload_n 1, 1) := by decide +kernel
theorem dX8_chance_39 : decode cX8_chance 39 = .ok (.invokevirtual 283, 3) := by decide +kernel
theorem dX8_chance_42 : decode cX8_chance 42 = .ok (.lstore_n 3, 1) := by decide +kernel
theorem dX8_chance_43 : decode cX8_chance 43 = .ok (.aload_n 0, 1) := by decide +kernel
theorem dX8_chance_44 : decode cX8_chance 44 = .ok (.getfield 49, 3) := by decide +kernel
theorem dX8_chance_47 : decode cX8_chance 47 = .ok (.invokevirtual 287, 3) := by decide +kernel
theorem dX8_chance_50 : decode cX8_chance 50 = .ok (.lstore 5, 2) := by decide +kernel
theorem dX8_chance_52 : decode cX8_chance 52 = .ok (.lload_n 3, 1) := by decide +kernel
theorem dX8_chance_53 : decode cX8_chance 53 = .ok (.lload 5, 2) := by decide +kernel
theorem dX8_chance_55 : decode cX8_chance 55 = .ok (.invokestatic 291, 3) := by decide +kernel
theorem dX8_chance_58 : decode cX8_chance 58 = .ok (.lstore 7, 2) := by decide +kernel
theorem dX8_chance_60 : decode cX8_chance 60 = .ok (.iload_n 2, 1) := by decide +kernel
theorem dX8_chance_61 : decode cX8_chance 61 = .ok (.ifCond .ne 7, 3) := by decide +kernel
theorem dX8_chance_64 : decode cX8_chance 64 = .ok (.lload_n 3, 1) := by decide +kernel
theorem dX8_chance_65 : decode cX8_chance 65 = .ok (.goto 5, 3) := by decide +kernel
theorem dX8_chance_68 : decode cX8_chance 68 = .ok (.lload 5, 2) := by decide +kernel
theorem dX8_chance_70 : decode cX8_chance 70 = .ok (.lstore 9, 2) := by decide +kernel
theorem dX8_chance_72 : decode cX8_chance 72 = .ok (.lload 7, 2) := by decide +kernel
theorem dX8_chance_74 : decode cX8_chance 74 = .ok (.lconst 0, 1) := by decide +kernel
theorem dX8_chance_75 : decode cX8_chance 75 = .ok (.lcmp, 1) := by decide +kernel
theorem dX8_chance_76 : decode cX8_chance 76 = .ok (.ifCond .le 11, 3) := by decide +kernel
theorem dX8_chance_79 : decode cX8_chance 79 = .ok (.lload 9, 2) := by decide +kernel
theorem dX8_chance_81 : decode cX8_chance 81 = .ok (.lload 7, 2) := by decide +kernel
theorem dX8_chance_83 : decode cX8_chance 83 = .ok (.ldiv, 1) := by decide +kernel
theorem dX8_chance_84 : decode cX8_chance 84 = .ok (.goto 5, 3) := by decide +kernel
theorem dX8_chance_87 : decode cX8_chance 87 = .ok (.lload 9, 2) := by decide +kernel
theorem dX8_chance_89 : decode cX8_chance 89 = .ok (.lreturn, 1) := by decide +kernel
theorem dX8_drawn_0 : decode cX8_drawn 0 = .ok (.aload_n 0, 1) := by decide +kernel
theorem dX8_drawn_1 : decode cX8_drawn 1 = .ok (.invokevirtual 142, 3) := by decide +kernel
theorem dX8_drawn_4 : decode cX8_drawn 4 = .ok (.ifCond .eq 6, 3) := by decide +kernel
theorem dX8_drawn_7 : decode cX8_drawn 7 = .ok (.ldc 146, 2) := by decide +kernel
theorem dX8_drawn_9 : decode cX8_drawn 9 = .ok (.ireturn, 1) := by decide +kernel
theorem dX8_drawn_10 : decode cX8_drawn 10 = .ok (.iload_n 1, 1) := by decide +kernel
theorem dX8_drawn_11 : decode cX8_drawn 11 = .ok (.ifCond .lt 30, 3) := by decide +kernel
theorem dX8_drawn_14 : decode cX8_drawn 14 = .ok (.iload_n 1, 1) := by decide +kernel
theorem dX8_drawn_15 : decode cX8_drawn 15 = .ok (.bipush 60, 2) := by decide +kernel
theorem dX8_drawn_17 : decode cX8_drawn 17 = .ok (.if_icmp .gt 24, 3) := by decide +kernel
theorem dX8_drawn_20 : decode cX8_drawn 20 = .ok (.iload_n 2, 1) := by decide +kernel
theorem dX8_drawn_21 : decode cX8_drawn 21 = .ok (.iconst 1, 1) := by decide +kernel
theorem dX8_drawn_22 : decode cX8_drawn 22 = .ok (.if_icmp .lt 19, 3) := by decide +kernel
theorem dX8_drawn_25 : decode cX8_drawn 25 = .ok (.iload_n 2, 1) := by decide +kernel
theorem dX8_drawn_26 : decode cX8_drawn 26 = .ok (.ldc_w 295, 3) := by decide +kernel
theorem dX8_drawn_29 : decode cX8_drawn 29 = .ok (.if_icmp .gt 12, 3) := by decide +kernel
theorem dX8_drawn_32 : decode cX8_drawn 32 = .ok (.iload_n 3, 1) := by decide +kernel
theorem dX8_drawn_33 : decode cX8_drawn 33 = .ok (.ifCond .lt 8, 3) := by decide +kernel
theorem dX8_drawn_36 : decode cX8_drawn 36 = .ok (.iload_n 3, 1) := by decide +kernel
theorem dX8_drawn_37 : decode cX8_drawn 37 = .ok (.iconst 1, 1) := by decide +kernel
theorem dX8_drawn_38 : decode cX8_drawn 38 = .ok (.if_icmp .le 6, 3) := by decide +kernel
theorem dX8_drawn_41 : decode cX8_drawn 41 = .ok (.ldc 80, 2) := by decide +kernel
theorem dX8_drawn_43 : decode cX8_drawn 43 = .ok (.ireturn, 1) := by decide +kernel
theorem dX8_drawn_44 : decode cX8_drawn 44 = .ok (.aload_n 0, 1) := by decide +kernel
theorem dX8_drawn_45 : decode cX8_drawn 45 = .ok (.getfield 49, 3) := by decide +kernel
theorem dX8_drawn_48 : decode cX8_drawn 48 = .ok (.iload_n 1, 1) := by decide +kernel
theorem dX8_drawn_49 : decode cX8_drawn 49 = .ok (.iload_n 2, 1) := by decide +kernel
theorem dX8_drawn_50 : decode cX8_drawn 50 = .ok (.invokevirtual 296, 3) := by decide +kernel
theorem dX8_drawn_53 : decode cX8_drawn 53 = .ok (.istore 4, 2) := by decide +kernel
theorem dX8_drawn_55 : decode cX8_drawn 55 = .ok (.iload_n 3, 1) := by decide +kernel
theorem dX8_drawn_56 : decode cX8_drawn 56 = .ok (.ifCond .ne 8, 3) := by decide +kernel
theorem dX8_drawn_59 : decode cX8_drawn 59 = .ok (.iload 4, 2) := by decide +kernel
theorem dX8_drawn_61 : decode cX8_drawn 61 = .ok (.goto 10, 3) := by decide +kernel
theorem dX8_drawn_64 : decode cX8_drawn 64 = .ok (.aload_n 0, 1) := by decide +kernel
theorem dX8_drawn_65 : decode cX8_drawn 65 = .ok (.getfield 34, 3) := by decide +kernel
theorem dX8_drawn_68 : decode cX8_drawn 68 = .ok (.invokevirtual 245, 3) := by decide +kernel
theorem dX8_drawn_71 : decode cX8_drawn 71 = .ok (.ireturn, 1) := by decide +kernel
theorem dX8_image_0 : decode cX8_image 0 = .ok (.iload_n 1, 1) := by decide +kernel
theorem dX8_image_1 : decode cX8_image 1 = .ok (.ifCond .lt 12, 3) := by decide +kernel
theorem dX8_image_4 : decode cX8_image 4 = .ok (.iload_n 1, 1) := by decide +kernel
theorem dX8_image_5 : decode cX8_image 5 = .ok (.aload_n 0, 1) := by decide +kernel
theorem dX8_image_6 : decode cX8_image 6 = .ok (.getfield 60, 3) := by decide +kernel
theorem dX8_image_9 : decode cX8_image 9 = .ok (.arraylength, 1) := by decide +kernel
theorem dX8_image_10 : decode cX8_image 10 = .ok (.if_icmp .lt 6, 3) := by decide +kernel
theorem dX8_image_13 : decode cX8_image 13 = .ok (.ldc 80, 2) := by decide +kernel
theorem dX8_image_15 : decode cX8_image 15 = .ok (.ireturn, 1) := by decide +kernel
theorem dX8_image_16 : decode cX8_image 16 = .ok (.aload_n 0, 1) := by decide +kernel
theorem dX8_image_17 : decode cX8_image 17 = .ok (.invokevirtual 142, 3) := by decide +kernel
theorem dX8_image_20 : decode cX8_image 20 = .ok (.ifCond .eq 6, 3) := by decide +kernel
theorem dX8_image_23 : decode cX8_image 23 = .ok (.ldc 146, 2) := by decide +kernel
theorem dX8_image_25 : decode cX8_image 25 = .ok (.ireturn, 1) := by decide +kernel
theorem dX8_image_26 : decode cX8_image 26 = .ok (.aload_n 0, 1) := by decide +kernel
theorem dX8_image_27 : decode cX8_image 27 = .ok (.getfield 60, 3) := by decide +kernel
theorem dX8_image_30 : decode cX8_image 30 = .ok (.iload_n 1, 1) := by decide +kernel
theorem dX8_image_31 : decode cX8_image 31 = .ok (.aaload, 1) := by decide +kernel
theorem dX8_image_32 : decode cX8_image 32 = .ok (.aload_n 0, 1) := by decide +kernel
theorem dX8_image_33 : decode cX8_image 33 = .ok (.getfield 30, 3) := by decide +kernel
theorem dX8_image_36 : decode cX8_image 36 = .ok (.invokevirtual 133, 3) := by decide +kernel
theorem dX8_image_39 : decode cX8_image 39 = .ok (.iconst 1, 1) := by decide +kernel
theorem dX8_image_40 : decode cX8_image 40 = .ok (.ireturn, 1) := by decide +kernel
theorem dX8_restore_0 : decode cX8_restore 0 = .ok (.iload_n 1, 1) := by decide +kernel
theorem dX8_restore_1 : decode cX8_restore 1 = .ok (.ifCond .lt 12, 3) := by decide +kernel
theorem dX8_restore_4 : decode cX8_restore 4 = .ok (.iload_n 1, 1) := by decide +kernel
theorem dX8_restore_5 : decode cX8_restore 5 = .ok (.aload_n 0, 1) := by decide +kernel
theorem dX8_restore_6 : decode cX8_restore 6 = .ok (.getfield 60, 3) := by decide +kernel
theorem dX8_restore_9 : decode cX8_restore 9 = .ok (.arraylength, 1) := by decide +kernel
theorem dX8_restore_10 : decode cX8_restore 10 = .ok (.if_icmp .lt 6, 3) := by decide +kernel
theorem dX8_restore_13 : decode cX8_restore 13 = .ok (.ldc 80, 2) := by decide +kernel
theorem dX8_restore_15 : decode cX8_restore 15 = .ok (.ireturn, 1) := by decide +kernel
theorem dX8_restore_16 : decode cX8_restore 16 = .ok (.aload_n 0, 1) := by decide +kernel
theorem dX8_restore_17 : decode cX8_restore 17 = .ok (.getfield 60, 3) := by decide +kernel
theorem dX8_restore_20 : decode cX8_restore 20 = .ok (.iload_n 1, 1) := by decide +kernel
theorem dX8_restore_21 : decode cX8_restore 21 = .ok (.aaload, 1) := by decide +kernel
theorem dX8_restore_22 : decode cX8_restore 22 = .ok (.getfield 139, 3) := by decide +kernel
theorem dX8_restore_25 : decode cX8_restore 25 = .ok (.ifCond .ne 6, 3) := by decide +kernel
theorem dX8_restore_28 : decode cX8_restore 28 = .ok (.ldc 146, 2) := by decide +kernel
theorem dX8_restore_30 : decode cX8_restore 30 = .ok (.ireturn, 1) := by decide +kernel
theorem dX8_restore_31 : decode cX8_restore 31 = .ok (.aload_n 0, 1) := by decide +kernel
theorem dX8_restore_32 : decode cX8_restore 32 = .ok (.getfield 30, 3) := by decide +kernel
theorem dX8_restore_35 : decode cX8_restore 35 = .ok (.aload_n 0, 1) := by decide +kernel
theorem dX8_restore_36 : decode cX8_restore 36 = .ok (.getfield 60, 3) := by decide +kernel
theorem dX8_restore_39 : decode cX8_restore 39 = .ok (.iload_n 1, 1) := by decide +kernel
theorem dX8_restore_40 : decode cX8_restore 40 = .ok (.aaload, 1) := by decide +kernel
theorem dX8_restore_41 : decode cX8_restore 41 = .ok (.invokevirtual 133, 3) := by decide +kernel
theorem dX8_restore_44 : decode cX8_restore 44 = .ok (.aload_n 0, 1) := by decide +kernel
theorem dX8_restore_45 : decode cX8_restore 45 = .ok (.getfield 56, 3) := by decide +kernel
theorem dX8_restore_48 : decode cX8_restore 48 = .ok (.invokevirtual 136, 3) := by decide +kernel
theorem dX8_restore_51 : decode cX8_restore 51 = .ok (.iconst 1, 1) := by decide +kernel
theorem dX8_restore_52 : decode cX8_restore 52 = .ok (.ireturn, 1) := by decide +kernel
theorem dX8_kind_0 : decode cX8_kind 0 = .ok (.aload_n 0, 1) := by decide +kernel
theorem dX8_kind_1 : decode cX8_kind 1 = .ok (.getfield 30, 3) := by decide +kernel
theorem dX8_kind_4 : decode cX8_kind 4 = .ok (.iload_n 1, 1) := by decide +kernel
theorem dX8_kind_5 : decode cX8_kind 5 = .ok (.invokevirtual 162, 3) := by decide +kernel
theorem dX8_kind_8 : decode cX8_kind 8 = .ok (.ifCond .eq 15, 3) := by decide +kernel
theorem dX8_kind_11 : decode cX8_kind 11 = .ok (.aload_n 0, 1) := by decide +kernel
theorem dX8_kind_12 : decode cX8_kind 12 = .ok (.getfield 30, 3) := by decide +kernel
theorem dX8_kind_15 : decode cX8_kind 15 = .ok (.getfield 165, 3) := by decide +kernel
theorem dX8_kind_18 : decode cX8_kind 18 = .ok (.iload_n 1, 1) := by decide +kernel
theorem dX8_kind_19 : decode cX8_kind 19 = .ok (.iaload, 1) := by decide +kernel
theorem dX8_kind_20 : decode cX8_kind 20 = .ok (.goto 5, 3) := by decide +kernel
theorem dX8_kind_23 : decode cX8_kind 23 = .ok (.ldc 80, 2) := by decide +kernel
theorem dX8_kind_25 : decode cX8_kind 25 = .ok (.ireturn, 1) := by decide +kernel
theorem dX8_as_0 : decode cX8_as 0 = .ok (.aload_n 0, 1) := by decide +kernel
theorem dX8_as_1 : decode cX8_as 1 = .ok (.getfield 30, 3) := by decide +kernel
theorem dX8_as_4 : decode cX8_as 4 = .ok (.iload_n 1, 1) := by decide +kernel
theorem dX8_as_5 : decode cX8_as 5 = .ok (.invokevirtual 162, 3) := by decide +kernel
theorem dX8_as_8 : decode cX8_as 8 = .ok (.ifCond .eq 12, 3) := by decide +kernel
theorem dX8_as_11 : decode cX8_as 11 = .ok (.iload_n 2, 1) := by decide +kernel
theorem dX8_as_12 : decode cX8_as 12 = .ok (.ifCond .lt 8, 3) := by decide +kernel
theorem dX8_as_15 : decode cX8_as 15 = .ok (.iload_n 2, 1) := by decide +kernel
theorem dX8_as_16 : decode cX8_as 16 = .ok (.iconst 5, 1) := by decide +kernel
theorem dX8_as_17 : decode cX8_as 17 = .ok (.if_icmp .le 6, 3) := by decide +kernel
theorem dX8_as_20 : decode cX8_as 20 = .ok (.ldc 80, 2) := by decide +kernel
theorem dX8_as_22 : decode cX8_as 22 = .ok (.ireturn, 1) := by decide +kernel
theorem dX8_as_23 : decode cX8_as 23 = .ok (.aload_n 0, 1) := by decide +kernel
theorem dX8_as_24 : decode cX8_as 24 = .ok (.getfield 30, 3) := by decide +kernel
theorem dX8_as_27 : decode cX8_as 27 = .ok (.iload_n 1, 1) := by decide +kernel
theorem dX8_as_28 : decode cX8_as 28 = .ok (.iload_n 2, 1) := by decide +kernel
theorem dX8_as_29 : decode cX8_as 29 = .ok (.invokevirtual 299, 3) := by decide +kernel
theorem dX8_as_32 : decode cX8_as 32 = .ok (.ifCond .eq 11, 3) := by decide +kernel
theorem dX8_as_35 : decode cX8_as 35 = .ok (.aload_n 0, 1) := by decide +kernel
theorem dX8_as_36 : decode cX8_as 36 = .ok (.iload_n 1, 1) := by decide +kernel
theorem dX8_as_37 : decode cX8_as 37 = .ok (.invokevirtual 89, 3) := by decide +kernel
theorem dX8_as_40 : decode cX8_as 40 = .ok (.goto 8, 3) := by decide +kernel
theorem dX8_as_43 : decode cX8_as 43 = .ok (.aload_n 0, 1) := by decide +kernel
theorem dX8_as_44 : decode cX8_as 44 = .ok (.iconst 3, 1) := by decide +kernel
theorem dX8_as_45 : decode cX8_as 45 = .ok (.invokevirtual 81, 3) := by decide +kernel
theorem dX8_as_48 : decode cX8_as 48 = .ok (.ireturn, 1) := by decide +kernel
theorem dX8_ask_0 : decode cX8_ask 0 = .ok (.aload_n 0, 1) := by decide +kernel
theorem dX8_ask_1 : decode cX8_ask 1 = .ok (.getfield 30, 3) := by decide +kernel
theorem dX8_ask_4 : decode cX8_ask 4 = .ok (.iload_n 1, 1) := by decide +kernel
theorem dX8_ask_5 : decode cX8_ask 5 = .ok (.invokevirtual 162, 3) := by decide +kernel
theorem dX8_ask_8 : decode cX8_ask 8 = .ok (.ifCond .eq 12, 3) := by decide +kernel
theorem dX8_ask_11 : decode cX8_ask 11 = .ok (.iload_n 2, 1) := by decide +kernel
theorem dX8_ask_12 : decode cX8_ask 12 = .ok (.ifCond .lt 8, 3) := by decide +kernel
theorem dX8_ask_15 : decode cX8_ask 15 = .ok (.iload_n 2, 1) := by decide +kernel
theorem dX8_ask_16 : decode cX8_ask 16 = .ok (.iconst 1, 1) := by decide +kernel
theorem dX8_ask_17 : decode cX8_ask 17 = .ok (.if_icmp .le 6, 3) := by decide +kernel
theorem dX8_ask_20 : decode cX8_ask 20 = .ok (.ldc 80, 2) := by decide +kernel
theorem dX8_ask_22 : decode cX8_ask 22 = .ok (.ireturn, 1) := by decide +kernel
theorem dX8_ask_23 : decode cX8_ask 23 = .ok (.aload_n 0, 1) := by decide +kernel
theorem dX8_ask_24 : decode cX8_ask 24 = .ok (.getfield 69, 3) := by decide +kernel
theorem dX8_ask_27 : decode cX8_ask 27 = .ok (.invokevirtual 302, 3) := by decide +kernel
theorem dX8_ask_30 : decode cX8_ask 30 = .ok (.aload_n 0, 1) := by decide +kernel
theorem dX8_ask_31 : decode cX8_ask 31 = .ok (.getfield 30, 3) := by decide +kernel
theorem dX8_ask_34 : decode cX8_ask 34 = .ok (.iload_n 1, 1) := by decide +kernel
theorem dX8_ask_35 : decode cX8_ask 35 = .ok (.invokevirtual 226, 3) := by decide +kernel
theorem dX8_ask_38 : decode cX8_ask 38 = .ok (.ifCond .eq 27, 3) := by decide +kernel
theorem dX8_ask_41 : decode cX8_ask 41 = .ok (.iload_n 2, 1) := by decide +kernel
theorem dX8_ask_42 : decode cX8_ask 42 = .ok (.ifCond .ne 14, 3) := by decide +kernel
theorem dX8_ask_45 : decode cX8_ask 45 = .ok (.aload_n 0, 1) := by decide +kernel
theorem dX8_ask_46 : decode cX8_ask 46 = .ok (.getfield 69, 3) := by decide +kernel
theorem dX8_ask_49 : decode cX8_ask 49 = .ok (.iload_n 1, 1) := by decide +kernel
theorem dX8_ask_50 : decode cX8_ask 50 = .ok (.invokevirtual 305, 3) := by decide +kernel
theorem dX8_ask_53 : decode cX8_ask 53 = .ok (.goto 11, 3) := by decide +kernel
theorem dX8_ask_56 : decode cX8_ask 56 = .ok (.aload_n 0, 1) := by decide +kernel
theorem dX8_ask_57 : decode cX8_ask 57 = .ok (.getfield 69, 3) := by decide +kernel
theorem dX8_ask_60 : decode cX8_ask 60 = .ok (.iload_n 1, 1) := by decide +kernel
theorem dX8_ask_61 : decode cX8_ask 61 = .ok (.invokevirtual 308, 3) := by decide +kernel
theorem dX8_ask_64 : decode cX8_ask 64 = .ok (.ireturn, 1) := by decide +kernel
theorem dX8_ask_65 : decode cX8_ask 65 = .ok (.iload_n 2, 1) := by decide +kernel
theorem dX8_ask_66 : decode cX8_ask 66 = .ok (.ifCond .ne 14, 3) := by decide +kernel
theorem dX8_ask_69 : decode cX8_ask 69 = .ok (.aload_n 0, 1) := by decide +kernel
theorem dX8_ask_70 : decode cX8_ask 70 = .ok (.getfield 69, 3) := by decide +kernel
theorem dX8_ask_73 : decode cX8_ask 73 = .ok (.iload_n 1, 1) := by decide +kernel
theorem dX8_ask_74 : decode cX8_ask 74 = .ok (.invokevirtual 311, 3) := by decide +kernel
theorem dX8_ask_77 : decode cX8_ask 77 = .ok (.goto 11, 3) := by decide +kernel
theorem dX8_ask_80 : decode cX8_ask 80 = .ok (.aload_n 0, 1) := by decide +kernel
theorem dX8_ask_81 : decode cX8_ask 81 = .ok (.getfield 69, 3) := by decide +kernel
theorem dX8_ask_84 : decode cX8_ask 84 = .ok (.iload_n 1, 1) := by decide +kernel
theorem dX8_ask_85 : decode cX8_ask 85 = .ok (.invokevirtual 314, 3) := by decide +kernel
theorem dX8_ask_88 : decode cX8_ask 88 = .ok (.ireturn, 1) := by decide +kernel
theorem dX8_trace_0 : decode cX8_trace 0 = .ok (.iload_n 1, 1) := by decide +kernel
theorem dX8_trace_1 : decode cX8_trace 1 = .ok (.ifCond .lt 26, 3) := by decide +kernel
theorem dX8_trace_4 : decode cX8_trace 4 = .ok (.iload_n 1, 1) := by decide +kernel
theorem dX8_trace_5 : decode cX8_trace 5 = .ok (.aload_n 0, 1) := by decide +kernel
theorem dX8_trace_6 : decode cX8_trace 6 = .ok (.getfield 69, 3) := by decide +kernel
theorem dX8_trace_9 : decode cX8_trace 9 = .ok (.getfield 317, 3) := by decide +kernel
theorem dX8_trace_12 : decode cX8_trace 12 = .ok (.if_icmp .ge 15, 3) := by decide +kernel
theorem dX8_trace_15 : decode cX8_trace 15 = .ok (.aload_n 0, 1) := by decide +kernel
theorem dX8_trace_16 : decode cX8_trace 16 = .ok (.getfield 69, 3) := by decide +kernel
theorem dX8_trace_19 : decode cX8_trace 19 = .ok (.getfield 320, 3) := by decide +kernel
theorem dX8_trace_22 : decode cX8_trace 22 = .ok (.iload_n 1, 1) := by decide +kernel
theorem dX8_trace_23 : decode cX8_trace 23 = .ok (.iaload, 1) := by decide +kernel
theorem dX8_trace_24 : decode cX8_trace 24 = .ok (.goto 6, 3) := by decide +kernel
theorem dX8_trace_27 : decode cX8_trace 27 = .ok (.ldc_w 323, 3) := by decide +kernel
theorem dX8_trace_30 : decode cX8_trace 30 = .ok (.ireturn, 1) := by decide +kernel
theorem dX8_count_0 : decode cX8_count 0 = .ok (.iload_n 1, 1) := by decide +kernel
theorem dX8_count_1 : decode cX8_count 1 = .ok (.tableswitch 120 0 8 #[51, 59, 67, 75, 83, 91, 99, 107, 115], 51) := by decide +kernel
theorem dX8_count_52 : decode cX8_count 52 = .ok (.aload_n 0, 1) := by decide +kernel
theorem dX8_count_53 : decode cX8_count 53 = .ok (.getfield 10, 3) := by decide +kernel
theorem dX8_count_56 : decode cX8_count 56 = .ok (.invokevirtual 324, 3) := by decide +kernel
theorem dX8_count_59 : decode cX8_count 59 = .ok (.ireturn, 1) := by decide +kernel
theorem dX8_count_60 : decode cX8_count 60 = .ok (.aload_n 0, 1) := by decide +kernel
theorem dX8_count_61 : decode cX8_count 61 = .ok (.getfield 30, 3) := by decide +kernel
theorem dX8_count_64 : decode cX8_count 64 = .ok (.getfield 139, 3) := by decide +kernel
theorem dX8_count_67 : decode cX8_count 67 = .ok (.ireturn, 1) := by decide +kernel
theorem dX8_count_68 : decode cX8_count 68 = .ok (.aload_n 0, 1) := by decide +kernel
theorem dX8_count_69 : decode cX8_count 69 = .ok (.getfield 30, 3) := by decide +kernel
theorem dX8_count_72 : decode cX8_count 72 = .ok (.getfield 327, 3) := by decide +kernel
theorem dX8_count_75 : decode cX8_count 75 = .ok (.ireturn, 1) := by decide +kernel
theorem dX8_count_76 : decode cX8_count 76 = .ok (.aload_n 0, 1) := by decide +kernel
theorem dX8_count_77 : decode cX8_count 77 = .ok (.getfield 30, 3) := by decide +kernel
theorem dX8_count_80 : decode cX8_count 80 = .ok (.getfield 330, 3) := by decide +kernel
theorem dX8_count_83 : decode cX8_count 83 = .ok (.ireturn, 1) := by decide +kernel
theorem dX8_count_84 : decode cX8_count 84 = .ok (.aload_n 0, 1) := by decide +kernel
theorem dX8_count_85 : decode cX8_count 85 = .ok (.getfield 30, 3) := by decide +kernel
theorem dX8_count_88 : decode cX8_count 88 = .ok (.getfield 332, 3) := by decide +kernel
theorem dX8_count_91 : decode cX8_count 91 = .ok (.ireturn, 1) := by decide +kernel
theorem dX8_count_92 : decode cX8_count 92 = .ok (.aload_n 0, 1) := by decide +kernel
theorem dX8_count_93 : decode cX8_count 93 = .ok (.getfield 30, 3) := by decide +kernel
theorem dX8_count_96 : decode cX8_count 96 = .ok (.invokevirtual 183, 3) := by decide +kernel
theorem dX8_count_99 : decode cX8_count 99 = .ok (.ireturn, 1) := by decide +kernel
theorem dX8_count_100 : decode cX8_count 100 = .ok (.aload_n 0, 1) := by decide +kernel
theorem dX8_count_101 : decode cX8_count 101 = .ok (.getfield 30, 3) := by decide +kernel
theorem dX8_count_104 : decode cX8_count 104 = .ok (.getfield 147, 3) := by decide +kernel
theorem dX8_count_107 : decode cX8_count 107 = .ok (.ireturn, 1) := by decide +kernel
theorem dX8_count_108 : decode cX8_count 108 = .ok (.aload_n 0, 1) := by decide +kernel
theorem dX8_count_109 : decode cX8_count 109 = .ok (.getfield 56, 3) := by decide +kernel
theorem dX8_count_112 : decode cX8_count 112 = .ok (.getfield 195, 3) := by decide +kernel
theorem dX8_count_115 : decode cX8_count 115 = .ok (.ireturn, 1) := by decide +kernel
theorem dX8_count_116 : decode cX8_count 116 = .ok (.aload_n 0, 1) := by decide +kernel
theorem dX8_count_117 : decode cX8_count 117 = .ok (.getfield 114, 3) := by decide +kernel
theorem dX8_count_120 : decode cX8_count 120 = .ok (.ireturn, 1) := by decide +kernel
theorem dX8_count_121 : decode cX8_count 121 = .ok (.ldc 80, 2) := by decide +kernel
theorem dX8_count_123 : decode cX8_count 123 = .ok (.ireturn, 1) := by decide +kernel
theorem dX8_status_0 : decode cX8_status 0 = .ok (.aload_n 0, 1) := by decide +kernel
theorem dX8_status_1 : decode cX8_status 1 = .ok (.getfield 335, 3) := by decide +kernel
theorem dX8_status_4 : decode cX8_status 4 = .ok (.ireturn, 1) := by decide +kernel
theorem dX8_isWithoutSheet_0 : decode cX8_isWithoutSheet 0 = .ok (.aload_n 0, 1) := by decide +kernel
theorem dX8_isWithoutSheet_1 : decode cX8_isWithoutSheet 1 = .ok (.getfield 30, 3) := by decide +kernel
theorem dX8_isWithoutSheet_4 : decode cX8_isWithoutSheet 4 = .ok (.getfield 139, 3) := by decide +kernel
theorem dX8_isWithoutSheet_7 : decode cX8_isWithoutSheet 7 = .ok (.ifCond .ne 7, 3) := by decide +kernel
theorem dX8_isWithoutSheet_10 : decode cX8_isWithoutSheet 10 = .ok (.iconst 1, 1) := by decide +kernel
theorem dX8_isWithoutSheet_11 : decode cX8_isWithoutSheet 11 = .ok (.goto 4, 3) := by decide +kernel
theorem dX8_isWithoutSheet_14 : decode cX8_isWithoutSheet 14 = .ok (.iconst 0, 1) := by decide +kernel
theorem dX8_isWithoutSheet_15 : decode cX8_isWithoutSheet 15 = .ok (.ireturn, 1) := by decide +kernel
theorem dX8_found_0 : decode cX8_found 0 = .ok (.aload_n 0, 1) := by decide +kernel
theorem dX8_found_1 : decode cX8_found 1 = .ok (.iload_n 1, 1) := by decide +kernel
theorem dX8_found_2 : decode cX8_found 2 = .ok (.putfield 335, 3) := by decide +kernel
theorem dX8_found_5 : decode cX8_found 5 = .ok (.ldc_w 338, 3) := by decide +kernel
theorem dX8_found_8 : decode cX8_found 8 = .ok (.iload_n 1, 1) := by decide +kernel
theorem dX8_found_9 : decode cX8_found 9 = .ok (.isub, 1) := by decide +kernel
theorem dX8_found_10 : decode cX8_found 10 = .ok (.ireturn, 1) := by decide +kernel
theorem dX8_sound_0 : decode cX8_sound 0 = .ok (.aload_n 0, 1) := by decide +kernel
theorem dX8_sound_1 : decode cX8_sound 1 = .ok (.iconst 0, 1) := by decide +kernel
theorem dX8_sound_2 : decode cX8_sound 2 = .ok (.putfield 335, 3) := by decide +kernel
theorem dX8_sound_5 : decode cX8_sound 5 = .ok (.iload_n 1, 1) := by decide +kernel
theorem dX8_sound_6 : decode cX8_sound 6 = .ok (.ireturn, 1) := by decide +kernel
theorem dX8_changeWidth_0 : decode cX8_changeWidth 0 = .ok (.aload_n 0, 1) := by decide +kernel
theorem dX8_changeWidth_1 : decode cX8_changeWidth 1 = .ok (.getfield 56, 3) := by decide +kernel
theorem dX8_changeWidth_4 : decode cX8_changeWidth 4 = .ok (.aload_n 0, 1) := by decide +kernel
theorem dX8_changeWidth_5 : decode cX8_changeWidth 5 = .ok (.getfield 30, 3) := by decide +kernel
theorem dX8_changeWidth_8 : decode cX8_changeWidth 8 = .ok (.invokevirtual 150, 3) := by decide +kernel
theorem dX8_changeWidth_11 : decode cX8_changeWidth 11 = .ok (.aload_n 0, 1) := by decide +kernel
theorem dX8_changeWidth_12 : decode cX8_changeWidth 12 = .ok (.getfield 30, 3) := by decide +kernel
theorem dX8_changeWidth_15 : decode cX8_changeWidth 15 = .ok (.getfield 327, 3) := by decide +kernel
theorem dX8_changeWidth_18 : decode cX8_changeWidth 18 = .ok (.istore_n 2, 1) := by decide +kernel
theorem dX8_changeWidth_19 : decode cX8_changeWidth 19 = .ok (.aload_n 0, 1) := by decide +kernel
theorem dX8_changeWidth_20 : decode cX8_changeWidth 20 = .ok (.getfield 30, 3) := by decide +kernel
theorem dX8_changeWidth_23 : decode cX8_changeWidth 23 = .ok (.iload_n 1, 1) := by decide +kernel
theorem dX8_changeWidth_24 : decode cX8_changeWidth 24 = .ok (.putfield 327, 3) := by decide +kernel
theorem dX8_changeWidth_27 : decode cX8_changeWidth 27 = .ok (.iload_n 2, 1) := by decide +kernel
theorem dX8_changeWidth_28 : decode cX8_changeWidth 28 = .ok (.ireturn, 1) := by decide +kernel
theorem dX8_changeLines_0 : decode cX8_changeLines 0 = .ok (.aload_n 0, 1) := by decide +kernel
theorem dX8_changeLines_1 : decode cX8_changeLines 1 = .ok (.getfield 56, 3) := by decide +kernel
theorem dX8_changeLines_4 : decode cX8_changeLines 4 = .ok (.aload_n 0, 1) := by decide +kernel
theorem dX8_changeLines_5 : decode cX8_changeLines 5 = .ok (.getfield 30, 3) := by decide +kernel
theorem dX8_changeLines_8 : decode cX8_changeLines 8 = .ok (.invokevirtual 150, 3) := by decide +kernel
theorem dX8_changeLines_11 : decode cX8_changeLines 11 = .ok (.aload_n 0, 1) := by decide +kernel
theorem dX8_changeLines_12 : decode cX8_changeLines 12 = .ok (.getfield 30, 3) := by decide +kernel
theorem dX8_changeLines_15 : decode cX8_changeLines 15 = .ok (.getfield 330, 3) := by decide +kernel
theorem dX8_changeLines_18 : decode cX8_changeLines 18 = .ok (.istore_n 2, 1) := by decide +kernel
theorem dX8_changeLines_19 : decode cX8_changeLines 19 = .ok (.aload_n 0, 1) := by decide +kernel
theorem dX8_changeLines_20 : decode cX8_changeLines 20 = .ok (.getfield 30, 3) := by decide +kernel
theorem dX8_changeLines_23 : decode cX8_changeLines 23 = .ok (.iload_n 1, 1) := by decide +kernel
theorem dX8_changeLines_24 : decode cX8_changeLines 24 = .ok (.putfield 330, 3) := by decide +kernel
theorem dX8_changeLines_27 : decode cX8_changeLines 27 = .ok (.iload_n 2, 1) := by decide +kernel
theorem dX8_changeLines_28 : decode cX8_changeLines 28 = .ok (.ireturn, 1) := by decide +kernel
theorem dX8_changeFirst_0 : decode cX8_changeFirst 0 = .ok (.aload_n 0, 1) := by decide +kernel
theorem dX8_changeFirst_1 : decode cX8_changeFirst 1 = .ok (.getfield 56, 3) := by decide +kernel
theorem dX8_changeFirst_4 : decode cX8_changeFirst 4 = .ok (.aload_n 0, 1) := by decide +kernel
theorem dX8_changeFirst_5 : decode cX8_changeFirst 5 = .ok (.getfield 30, 3) := by decide +kernel
theorem dX8_changeFirst_8 : decode cX8_changeFirst 8 = .ok (.invokevirtual 150, 3) := by decide +kernel
theorem dX8_changeFirst_11 : decode cX8_changeFirst 11 = .ok (.aload_n 0, 1) := by decide +kernel
theorem dX8_changeFirst_12 : decode cX8_changeFirst 12 = .ok (.getfield 30, 3) := by decide +kernel
theorem dX8_changeFirst_15 : decode cX8_changeFirst 15 = .ok (.getfield 332, 3) := by decide +kernel
theorem dX8_changeFirst_18 : decode cX8_changeFirst 18 = .ok (.istore_n 2, 1) := by decide +kernel
theorem dX8_changeFirst_19 : decode cX8_changeFirst 19 = .ok (.aload_n 0, 1) := by decide +kernel
theorem dX8_changeFirst_20 : decode cX8_changeFirst 20 = .ok (.getfield 30, 3) := by decide +kernel
theorem dX8_changeFirst_23 : decode cX8_changeFirst 23 = .ok (.iload_n 1, 1) := by decide +kernel
theorem dX8_changeFirst_24 : decode cX8_changeFirst 24 = .ok (.putfield 332, 3) := by decide +kernel
theorem dX8_changeFirst_27 : decode cX8_changeFirst 27 = .ok (.iload_n 2, 1) := by decide +kernel
theorem dX8_changeFirst_28 : decode cX8_changeFirst 28 = .ok (.ireturn, 1) := by decide +kernel
theorem dX8_greatestCommon_0 : decode cX8_greatestCommon 0 = .ok (.iconst 0, 1) := by decide +kernel
theorem dX8_greatestCommon_1 : decode cX8_greatestCommon 1 = .ok (.istore 4, 2) := by decide +kernel
theorem dX8_greatestCommon_3 : decode cX8_greatestCommon 3 = .ok (.iload 4, 2) := by decide +kernel
theorem dX8_greatestCommon_5 : decode cX8_greatestCommon 5 = .ok (.sipush 128, 3) := by decide +kernel
theorem dX8_greatestCommon_8 : decode cX8_greatestCommon 8 = .ok (.if_icmp .ge 25, 3) := by decide +kernel
theorem dX8_greatestCommon_11 : decode cX8_greatestCommon 11 = .ok (.lload_n 2, 1) := by decide +kernel
theorem dX8_greatestCommon_12 : decode cX8_greatestCommon 12 = .ok (.lconst 0, 1) := by decide +kernel
theorem dX8_greatestCommon_13 : decode cX8_greatestCommon 13 = .ok (.lcmp, 1) := by decide +kernel
theorem dX8_greatestCommon_14 : decode cX8_greatestCommon 14 = .ok (.ifCond .eq 19, 3) := by decide +kernel
theorem dX8_greatestCommon_17 : decode cX8_greatestCommon 17 = .ok (.lload_n 0, 1) := by decide +kernel
theorem dX8_greatestCommon_18 : decode cX8_greatestCommon 18 = .ok (.lload_n 2, 1) := by decide +kernel
theorem dX8_greatestCommon_19 : decode cX8_greatestCommon 19 = .ok (.lrem, 1) := by decide +kernel
theorem dX8_greatestCommon_20 : decode cX8_greatestCommon 20 = .ok (.lstore 5, 2) := by decide +kernel
theorem dX8_greatestCommon_22 : decode cX8_greatestCommon 22 = .ok (.lload_n 2, 1) := by decide +kernel
theorem dX8_greatestCommon_23 : decode cX8_greatestCommon 23 = .ok (.lstore_n 0, 1) := by decide +kernel
theorem dX8_greatestCommon_24 : decode cX8_greatestCommon 24 = .ok (.lload 5, 2) := by decide +kernel
theorem dX8_greatestCommon_26 : decode cX8_greatestCommon 26 = .ok (.lstore_n 2, 1) := by decide +kernel
theorem dX8_greatestCommon_27 : decode cX8_greatestCommon 27 = .ok (.iinc 4 1, 3) := by decide +kernel
theorem dX8_greatestCommon_30 : decode cX8_greatestCommon 30 = .ok (.goto (-27), 3) := by decide +kernel
theorem dX8_greatestCommon_33 : decode cX8_greatestCommon 33 = .ok (.lload_n 0, 1) := by decide +kernel
theorem dX8_greatestCommon_34 : decode cX8_greatestCommon 34 = .ok (.lreturn, 1) := by decide +kernel
theorem dX9_init_0 : decode cX9_init 0 = .ok (.aload_n 0, 1) := by decide +kernel
theorem dX9_init_1 : decode cX9_init 1 = .ok (.invokespecial 1, 3) := by decide +kernel
theorem dX9_init_4 : decode cX9_init 4 = .ok (.aload_n 0, 1) := by decide +kernel
theorem dX9_init_5 : decode cX9_init 5 = .ok (.bipush 8, 2) := by decide +kernel
theorem dX9_init_7 : decode cX9_init 7 = .ok (.newarray .int, 2) := by decide +kernel
theorem dX9_init_9 : decode cX9_init 9 = .ok (.putfield 7, 3) := by decide +kernel
theorem dX9_init_12 : decode cX9_init 12 = .ok (.aload_n 0, 1) := by decide +kernel
theorem dX9_init_13 : decode cX9_init 13 = .ok (.bipush 8, 2) := by decide +kernel
theorem dX9_init_15 : decode cX9_init 15 = .ok (.newarray .int, 2) := by decide +kernel
theorem dX9_init_17 : decode cX9_init 17 = .ok (.putfield 13, 3) := by decide +kernel
theorem dX9_init_20 : decode cX9_init 20 = .ok (.aload_n 0, 1) := by decide +kernel
theorem dX9_init_21 : decode cX9_init 21 = .ok (.sipush 320, 3) := by decide +kernel
theorem dX9_init_24 : decode cX9_init 24 = .ok (.newarray .int, 2) := by decide +kernel
theorem dX9_init_26 : decode cX9_init 26 = .ok (.putfield 16, 3) := by decide +kernel
theorem dX9_init_29 : decode cX9_init 29 = .ok (.aload_n 0, 1) := by decide +kernel
theorem dX9_init_30 : decode cX9_init 30 = .ok (.bipush 40, 2) := by decide +kernel
theorem dX9_init_32 : decode cX9_init 32 = .ok (.newarray .int, 2) := by decide +kernel
theorem dX9_init_34 : decode cX9_init 34 = .ok (.putfield 19, 3) := by decide +kernel
theorem dX9_init_37 : decode cX9_init 37 = .ok (.aload_n 0, 1) := by decide +kernel
theorem dX9_init_38 : decode cX9_init 38 = .ok (.bipush 80, 2) := by decide +kernel
theorem dX9_init_40 : decode cX9_init 40 = .ok (.newarray .int, 2) := by decide +kernel
theorem dX9_init_42 : decode cX9_init 42 = .ok (.putfield 22, 3) := by decide +kernel
theorem dX9_init_45 : decode cX9_init 45 = .ok (.aload_n 0, 1) := by decide +kernel
theorem dX9_init_46 : decode cX9_init 46 = .ok (.bipush 53, 2) := by decide +kernel
theorem dX9_init_48 : decode cX9_init 48 = .ok (.newarray .int, 2) := by decide +kernel
theorem dX9_init_50 : decode cX9_init 50 = .ok (.putfield 25, 3) := by decide +kernel
theorem dX9_init_53 : decode cX9_init 53 = .ok (.aload_n 0, 1) := by decide +kernel
theorem dX9_init_54 : decode cX9_init 54 = .ok (.bipush 53, 2) := by decide +kernel
theorem dX9_init_56 : decode cX9_init 56 = .ok (.newarray .int, 2) := by decide +kernel
theorem dX9_init_58 : decode cX9_init 58 = .ok (.putfield 28, 3) := by decide +kernel
theorem dX9_init_61 : decode cX9_init 61 = .ok (.aload_n 0, 1) := by decide +kernel
theorem dX9_init_62 : decode cX9_init 62 = .ok (.bipush 53, 2) := by decide +kernel
theorem dX9_init_64 : decode cX9_init 64 = .ok (.newarray .int, 2) := by decide +kernel
theorem dX9_init_66 : decode cX9_init 66 = .ok (.putfield 31, 3) := by decide +kernel
theorem dX9_init_69 : decode cX9_init 69 = .ok (.aload_n 0, 1) := by decide +kernel
theorem dX9_init_70 : decode cX9_init 70 = .ok (.sipush 1272, 3) := by decide +kernel
theorem dX9_init_73 : decode cX9_init 73 = .ok (.newarray .int, 2) := by decide +kernel
theorem dX9_init_75 : decode cX9_init 75 = .ok (.putfield 34, 3) := by decide +kernel
theorem dX9_init_78 : decode cX9_init 78 = .ok (.aload_n 0, 1) := by decide +kernel
theorem dX9_init_79 : decode cX9_init 79 = .ok (.bipush 106, 2) := by decide +kernel
theorem dX9_init_81 : decode cX9_init 81 = .ok (.newarray .int, 2) := by decide +kernel
theorem dX9_init_83 : decode cX9_init 83 = .ok (.putfield 37, 3) := by decide +kernel
theorem dX9_init_86 : decode cX9_init 86 = .ok (.aload_n 0, 1) := by decide +kernel
theorem dX9_init_87 : decode cX9_init 87 = .ok (.iconst 2, 1) := by decide +kernel
theorem dX9_init_88 : decode cX9_init 88 = .ok (.newarray .boolean, 2) := by decide +kernel
theorem dX9_init_90 : decode cX9_init 90 = .ok (.putfield 40, 3) := by decide +kernel
theorem dX9_init_93 : decode cX9_init 93 = .ok (.aload_n 0, 1) := by decide +kernel
theorem dX9_init_94 : decode cX9_init 94 = .ok (.bipush 36, 2) := by decide +kernel
theorem dX9_init_96 : decode cX9_init 96 = .ok (.newarray .int, 2) := by decide +kernel
theorem dX9_init_98 : decode cX9_init 98 = .ok (.putfield 44, 3) := by decide +kernel
theorem dX9_init_101 : decode cX9_init 101 = .ok (.aload_n 0, 1) := by decide +kernel
theorem dX9_init_102 : decode cX9_init 102 = .ok (.bipush 36, 2) := by decide +kernel
theorem dX9_init_104 : decode cX9_init 104 = .ok (.newarray .int, 2) := by decide +kernel
theorem dX9_init_106 : decode cX9_init 106 = .ok (.putfield 47, 3) := by decide +kernel
theorem dX9_init_109 : decode cX9_init 109 = .ok (.aload_n 0, 1) := by decide +kernel
theorem dX9_init_110 : decode cX9_init 110 = .ok (.sipush 2412, 3) := by decide +kernel
theorem dX9_init_113 : decode cX9_init 113 = .ok (.newarray .int, 2) := by decide +kernel
theorem dX9_init_115 : decode cX9_init 115 = .ok (.putfield 50, 3) := by decide +kernel
theorem dX9_init_118 : decode cX9_init 118 = .ok (.aload_n 0, 1) := by decide +kernel
theorem dX9_init_119 : decode cX9_init 119 = .ok (.bipush 16, 2) := by decide +kernel
theorem dX9_init_121 : decode cX9_init 121 = .ok (.newarray .int, 2) := by decide +kernel
theorem dX9_init_123 : decode cX9_init 123 = .ok (.putfield 53, 3) := by decide +kernel
theorem dX9_init_126 : decode cX9_init 126 = .ok (.iconst 0, 1) := by decide +kernel
theorem dX9_init_127 : decode cX9_init 127 = .ok (.istore_n 1, 1) := by decide +kernel
theorem dX9_init_128 : decode cX9_init 128 = .ok (.iload_n 1, 1) := by decide +kernel
theorem dX9_init_129 : decode cX9_init 129 = .ok (.bipush 8, 2) := by decide +kernel
theorem dX9_init_131 : decode cX9_init 131 = .ok (.if_icmp .ge 17, 3) := by decide +kernel
theorem dX9_init_134 : decode cX9_init 134 = .ok (.aload_n 0, 1) := by decide +kernel
theorem dX9_init_135 : decode cX9_init 135 = .ok (.getfield 7, 3) := by decide +kernel
theorem dX9_init_138 : decode cX9_init 138 = .ok (.iload_n 1, 1) := by decide +kernel
theorem dX9_init_139 : decode cX9_init 139 = .ok (.ldc 56, 2) := by decide +kernel
theorem dX9_init_141 : decode cX9_init 141 = .ok (.iastore, 1) := by decide +kernel
theorem dX9_init_142 : decode cX9_init 142 = .ok (.iinc 1 1, 3) := by decide +kernel
theorem dX9_init_145 : decode cX9_init 145 = .ok (.goto (-17), 3) := by decide +kernel
theorem dX9_init_148 : decode cX9_init 148 = .ok (.return_, 1) := by decide +kernel
theorem dX9_in_0 : decode cX9_in 0 = .ok (.iload_n 0, 1) := by decide +kernel
theorem dX9_in_1 : decode cX9_in 1 = .ok (.iload_n 1, 1) := by decide +kernel
theorem dX9_in_2 : decode cX9_in 2 = .ok (.if_icmp .lt 12, 3) := by decide +kernel
theorem dX9_in_5 : decode cX9_in 5 = .ok (.iload_n 0, 1) := by decide +kernel
theorem dX9_in_6 : decode cX9_in 6 = .ok (.iload_n 2, 1) := by decide +kernel
theorem dX9_in_7 : decode cX9_in 7 = .ok (.if_icmp .gt 7, 3) := by decide +kernel
theorem dX9_in_10 : decode cX9_in 10 = .ok (.iconst 1, 1) := by decide +kernel
theorem dX9_in_11 : decode cX9_in 11 = .ok (.goto 4, 3) := by decide +kernel
theorem dX9_in_14 : decode cX9_in 14 = .ok (.iconst 0, 1) := by decide +kernel
theorem dX9_in_15 : decode cX9_in 15 = .ok (.ireturn, 1) := by decide +kernel
theorem dX9_has_0 : decode cX9_has 0 = .ok (.iload_n 0, 1) := by decide +kernel
theorem dX9_has_1 : decode cX9_has 1 = .ok (.iload_n 1, 1) := by decide +kernel
theorem dX9_has_2 : decode cX9_has 2 = .ok (.ishr, 1) := by decide +kernel
theorem dX9_has_3 : decode cX9_has 3 = .ok (.iconst 1, 1) := by decide +kernel
theorem dX9_has_4 : decode cX9_has 4 = .ok (.iand, 1) := by decide +kernel
theorem dX9_has_5 : decode cX9_has 5 = .ok (.iconst 1, 1) := by decide +kernel
theorem dX9_has_6 : decode cX9_has 6 = .ok (.if_icmp .ne 7, 3) := by decide +kernel
theorem dX9_has_9 : decode cX9_has 9 = .ok (.iconst 1, 1) := by decide +kernel
theorem dX9_has_10 : decode cX9_has 10 = .ok (.goto 4, 3) := by decide +kernel
theorem dX9_has_13 : decode cX9_has 13 = .ok (.iconst 0, 1) := by decide +kernel
theorem dX9_has_14 : decode cX9_has 14 = .ok (.ireturn, 1) := by decide +kernel
theorem dX9_found_0 : decode cX9_found 0 = .ok (.aload_n 0, 1) := by decide +kernel
theorem dX9_found_1 : decode cX9_found 1 = .ok (.iload_n 1, 1) := by decide +kernel
theorem dX9_found_2 : decode cX9_found 2 = .ok (.putfield 57, 3) := by decide +kernel
theorem dX9_found_5 : decode cX9_found 5 = .ok (.ldc 61, 2) := by decide +kernel
theorem dX9_found_7 : decode cX9_found 7 = .ok (.iload_n 1, 1) := by decide +kernel
theorem dX9_found_8 : decode cX9_found 8 = .ok (.isub, 1) := by decide +kernel
theorem dX9_found_9 : decode cX9_found 9 = .ok (.ireturn, 1) := by decide +kernel
theorem dX9_well_0 : decode cX9_well 0 = .ok (.aload_n 0, 1) := by decide +kernel
theorem dX9_well_1 : decode cX9_well 1 = .ok (.iconst 0, 1) := by decide +kernel
theorem dX9_well_2 : decode cX9_well 2 = .ok (.putfield 57, 3) := by decide +kernel
theorem dX9_well_5 : decode cX9_well 5 = .ok (.iload_n 1, 1) := by decide +kernel
theorem dX9_well_6 : decode cX9_well 6 = .ok (.ireturn, 1) := by decide +kernel
theorem dX9_copies_0 : decode cX9_copies 0 = .ok (.iconst 0, 1) := by decide +kernel
theorem dX9_copies_1 : decode cX9_copies 1 = .ok (.istore 4, 2) := by decide +kernel
theorem dX9_copies_3 : decode cX9_copies 3 = .ok (.iload 4, 2) := by decide +kernel
theorem dX9_copies_5 : decode cX9_copies 5 = .ok (.bipush 53, 2) := by decide +kernel
theorem dX9_copies_7 : decode cX9_copies 7 = .ok (.if_icmp .ge 21, 3) := by decide +kernel
theorem dX9_copies_10 : decode cX9_copies 10 = .ok (.aload_n 2, 1) := by decide +kernel
theorem dX9_copies_11 : decode cX9_copies 11 = .ok (.iload_n 3, 1) := by decide +kernel
theorem dX9_copies_12 : decode cX9_copies 12 = .ok (.iload 4, 2) := by decide +kernel
theorem dX9_copies_14 : decode cX9_copies 14 = .ok (.iadd, 1) := by decide +kernel
theorem dX9_copies_15 : decode cX9_copies 15 = .ok (.aload_n 0, 1) := by decide +kernel
theorem dX9_copies_16 : decode cX9_copies 16 = .ok (.iload_n 1, 1) := by decide +kernel
theorem dX9_copies_17 : decode cX9_copies 17 = .ok (.iload 4, 2) := by decide +kernel
theorem dX9_copies_19 : decode cX9_copies 19 = .ok (.iadd, 1) := by decide +kernel
theorem dX9_copies_20 : decode cX9_copies 20 = .ok (.iaload, 1) := by decide +kernel
theorem dX9_copies_21 : decode cX9_copies 21 = .ok (.iastore, 1) := by decide +kernel
theorem dX9_copies_22 : decode cX9_copies 22 = .ok (.iinc 4 1, 3) := by decide +kernel
theorem dX9_copies_25 : decode cX9_copies 25 = .ok (.goto (-22), 3) := by decide +kernel
theorem dX9_copies_28 : decode cX9_copies 28 = .ok (.return_, 1) := by decide +kernel
theorem dX9_isRow_0 : decode cX9_isRow 0 = .ok (.iload_n 0, 1) := by decide +kernel
theorem dX9_isRow_1 : decode cX9_isRow 1 = .ok (.iconst 0, 1) := by decide +kernel
theorem dX9_isRow_2 : decode cX9_isRow 2 = .ok (.bipush 7, 2) := by decide +kernel
theorem dX9_isRow_4 : decode cX9_isRow 4 = .ok (.invokestatic 62, 3) := by decide +kernel
theorem dX9_isRow_7 : decode cX9_isRow 7 = .ok (.ireturn, 1) := by decide +kernel
theorem dX9_isMissing_0 : decode cX9_isMissing 0 = .ok (.aload_n 0, 1) := by decide +kernel
theorem dX9_isMissing_1 : decode cX9_isMissing 1 = .ok (.getfield 7, 3) := by decide +kernel
theorem dX9_isMissing_4 : decode cX9_isMissing 4 = .ok (.iload_n 1, 1) := by decide +kernel
theorem dX9_isMissing_5 : decode cX9_isMissing 5 = .ok (.iaload, 1) := by decide +kernel
theorem dX9_isMissing_6 : decode cX9_isMissing 6 = .ok (.ldc 56, 2) := by decide +kernel
theorem dX9_isMissing_8 : decode cX9_isMissing 8 = .ok (.if_icmp .ne 7, 3) := by decide +kernel
theorem dX9_isMissing_11 : decode cX9_isMissing 11 = .ok (.iconst 1, 1) := by decide +kernel
theorem dX9_isMissing_12 : decode cX9_isMissing 12 = .ok (.goto 4, 3) := by decide +kernel
theorem dX9_isMissing_15 : decode cX9_isMissing 15 = .ok (.iconst 0, 1) := by decide +kernel
theorem dX9_isMissing_16 : decode cX9_isMissing 16 = .ok (.ireturn, 1) := by decide +kernel
theorem dX9_lowest_0 : decode cX9_lowest 0 = .ok (.iload_n 0, 1) := by decide +kernel
theorem dX9_lowest_1 : decode cX9_lowest 1 = .ok (.ifCond .ne 13, 3) := by decide +kernel
theorem dX9_lowest_4 : decode cX9_lowest 4 = .ok (.iload_n 1, 1) := by decide +kernel
theorem dX9_lowest_5 : decode cX9_lowest 5 = .ok (.bipush 24, 2) := by decide +kernel
theorem dX9_lowest_7 : decode cX9_lowest 7 = .ok (.ishl, 1) := by decide +kernel
theorem dX9_lowest_8 : decode cX9_lowest 8 = .ok (.bipush 24, 2) := by decide +kernel
theorem dX9_lowest_10 : decode cX9_lowest 10 = .ok (.ishr, 1) := by decide +kernel
theorem dX9_lowest_11 : decode cX9_lowest 11 = .ok (.goto 19, 3) := by decide +kernel
theorem dX9_lowest_14 : decode cX9_lowest 14 = .ok (.iload_n 0, 1) := by decide +kernel
theorem dX9_lowest_15 : decode cX9_lowest 15 = .ok (.iconst 1, 1) := by decide +kernel
theorem dX9_lowest_16 : decode cX9_lowest 16 = .ok (.if_icmp .ne 13, 3) := by decide +kernel
theorem dX9_lowest_19 : decode cX9_lowest 19 = .ok (.iload_n 1, 1) := by decide +kernel
theorem dX9_lowest_20 : decode cX9_lowest 20 = .ok (.bipush 16, 2) := by decide +kernel
theorem dX9_lowest_22 : decode cX9_lowest 22 = .ok (.ishl, 1) := by decide +kernel
theorem dX9_lowest_23 : decode cX9_lowest 23 = .ok (.bipush 16, 2) := by decide +kernel
theorem dX9_lowest_25 : decode cX9_lowest 25 = .ok (.ishr, 1) := by decide +kernel
theorem dX9_lowest_26 : decode cX9_lowest 26 = .ok (.goto 4, 3) := by decide +kernel
theorem dX9_lowest_29 : decode cX9_lowest 29 = .ok (.iload_n 1, 1) := by decide +kernel
theorem dX9_lowest_30 : decode cX9_lowest 30 = .ok (.ireturn, 1) := by decide +kernel
theorem dX9_row_0 : decode cX9_row 0 = .ok (.iload_n 1, 1) := by decide +kernel
theorem dX9_row_1 : decode cX9_row 1 = .ok (.invokestatic 66, 3) := by decide +kernel
theorem dX9_row_4 : decode cX9_row 4 = .ok (.ifCond .eq 18, 3) := by decide +kernel
theorem dX9_row_7 : decode cX9_row 7 = .ok (.iload_n 2, 1) := by decide +kernel
theorem dX9_row_8 : decode cX9_row 8 = .ok (.iconst 0, 1) := by decide +kernel
theorem dX9_row_9 : decode cX9_row 9 = .ok (.iconst 2, 1) := by decide +kernel
theorem dX9_row_10 : decode cX9_row 10 = .ok (.invokestatic 62, 3) := by decide +kernel
theorem dX9_row_13 : decode cX9_row 13 = .ok (.ifCond .eq 9, 3) := by decide +kernel
theorem dX9_row_16 : decode cX9_row 16 = .ok (.iload_n 3, 1) := by decide +kernel
theorem dX9_row_17 : decode cX9_row 17 = .ok (.bipush 40, 2) := by decide +kernel
theorem dX9_row_19 : decode cX9_row 19 = .ok (.if_icmp .le 6, 3) := by decide +kernel
theorem dX9_row_22 : decode cX9_row 22 = .ok (.ldc 70, 2) := by decide +kernel
theorem dX9_row_24 : decode cX9_row 24 = .ok (.ireturn, 1) := by decide +kernel
theorem dX9_row_25 : decode cX9_row 25 = .ok (.iload_n 3, 1) := by decide +kernel
theorem dX9_row_26 : decode cX9_row 26 = .ok (.ifCond .ge 9, 3) := by decide +kernel
theorem dX9_row_29 : decode cX9_row 29 = .ok (.aload_n 0, 1) := by decide +kernel
theorem dX9_row_30 : decode cX9_row 30 = .ok (.iconst 4, 1) := by decide +kernel
theorem dX9_row_31 : decode cX9_row 31 = .ok (.invokevirtual 71, 3) := by decide +kernel
theorem dX9_row_34 : decode cX9_row 34 = .ok (.ireturn, 1) := by decide +kernel
theorem dX9_row_35 : decode cX9_row 35 = .ok (.aload_n 0, 1) := by decide +kernel
theorem dX9_row_36 : decode cX9_row 36 = .ok (.getfield 7, 3) := by decide +kernel
theorem dX9_row_39 : decode cX9_row 39 = .ok (.iload_n 1, 1) := by decide +kernel
theorem dX9_row_40 : decode cX9_row 40 = .ok (.iload_n 2, 1) := by decide +kernel
theorem dX9_row_41 : decode cX9_row 41 = .ok (.iastore, 1) := by decide +kernel
theorem dX9_row_42 : decode cX9_row 42 = .ok (.aload_n 0, 1) := by decide +kernel
theorem dX9_row_43 : decode cX9_row 43 = .ok (.getfield 13, 3) := by decide +kernel
theorem dX9_row_46 : decode cX9_row 46 = .ok (.iload_n 1, 1) := by decide +kernel
theorem dX9_row_47 : decode cX9_row 47 = .ok (.iload_n 3, 1) := by decide +kernel
theorem dX9_row_48 : decode cX9_row 48 = .ok (.iastore, 1) := by decide +kernel
theorem dX9_row_49 : decode cX9_row 49 = .ok (.iconst 0, 1) := by decide +kernel
theorem dX9_row_50 : decode cX9_row 50 = .ok (.istore 4, 2) := by decide +kernel
theorem dX9_row_52 : decode cX9_row 52 = .ok (.iload 4, 2) := by decide +kernel
theorem dX9_row_54 : decode cX9_row 54 = .ok (.bipush 40, 2) := by decide +kernel
theorem dX9_row_56 : decode cX9_row 56 = .ok (.if_icmp .ge 22, 3) := by decide +kernel
theorem dX9_row_59 : decode cX9_row 59 = .ok (.aload_n 0, 1) := by decide +kernel
theorem dX9_row_60 : decode cX9_row 60 = .ok (.getfield 16, 3) := by decide +kernel
theorem dX9_row_63 : decode cX9_row 63 = .ok (.bipush 40, 2) := by decide +kernel
theorem dX9_row_65 : decode cX9_row 65 = .ok (.iload_n 1, 1) := by decide +kernel
theorem dX9_row_66 : decode cX9_row 66 = .ok (.imul, 1) := by decide +kernel
theorem dX9_row_67 : decode cX9_row 67 = .ok (.iload 4, 2) := by decide +kernel
theorem dX9_row_69 : decode cX9_row 69 = .ok (.iadd, 1) := by decide +kernel
theorem dX9_row_70 : decode cX9_row 70 = .ok (.iconst 0, 1) := by decide +kernel
theorem dX9_row_71 : decode cX9_row 71 = .ok (.iastore, 1) := by decide +kernel
theorem dX9_row_72 : decode cX9_row 72 = .ok (.iinc 4 1, 3) := by decide +kernel
theorem dX9_row_75 : decode cX9_row 75 = .ok (.goto (-23), 3) := by decide +kernel
theorem dX9_row_78 : decode cX9_row 78 = .ok (.aload_n 0, 1) := by decide +kernel
theorem dX9_row_79 : decode cX9_row 79 = .ok (.iload_n 3, 1) := by decide +kernel
theorem dX9_row_80 : decode cX9_row 80 = .ok (.invokevirtual 75, 3) := by decide +kernel
theorem dX9_row_83 : decode cX9_row 83 = .ok (.ireturn, 1) := by decide +kernel
theorem dX9_set_0 : decode cX9_set 0 = .ok (.iload_n 1, 1) := by decide +kernel
theorem dX9_set_1 : decode cX9_set 1 = .ok (.invokestatic 66, 3) := by decide +kernel
theorem dX9_set_4 : decode cX9_set 4 = .ok (.ifCond .ne 6, 3) := by decide +kernel
theorem dX9_set_7 : decode cX9_set 7 = .ok (.ldc 70, 2) := by decide +kernel
theorem dX9_set_9 : decode cX9_set 9 = .ok (.ireturn, 1) := by decide +kernel
theorem dX9_set_10 : decode cX9_set 10 = .ok (.aload_n 0, 1) := by decide +kernel
theorem dX9_set_11 : decode cX9_set 11 = .ok (.iload_n 1, 1) := by decide +kernel
theorem dX9_set_12 : decode cX9_set 12 = .ok (.invokevirtual 78, 3) := by decide +kernel
theorem dX9_set_15 : decode cX9_set 15 = .ok (.ifCond .eq 9, 3) := by decide +kernel
theorem dX9_set_18 : decode cX9_set 18 = .ok (.aload_n 0, 1) := by decide +kernel
theorem dX9_set_19 : decode cX9_set 19 = .ok (.iconst 1, 1) := by decide +kernel
theorem dX9_set_20 : decode cX9_set 20 = .ok (.invokevirtual 71, 3) := by decide +kernel
theorem dX9_set_23 : decode cX9_set 23 = .ok (.ireturn, 1) := by decide +kernel
theorem dX9_set_24 : decode cX9_set 24 = .ok (.iload_n 2, 1) := by decide +kernel
theorem dX9_set_25 : decode cX9_set 25 = .ok (.iconst 0, 1) := by decide +kernel
theorem dX9_set_26 : decode cX9_set 26 = .ok (.aload_n 0, 1) := by decide +kernel
theorem dX9_set_27 : decode cX9_set 27 = .ok (.getfield 13, 3) := by decide +kernel
theorem dX9_set_30 : decode cX9_set 30 = .ok (.iload_n 1, 1) := by decide +kernel
theorem dX9_set_31 : decode cX9_set 31 = .ok (.iaload, 1) := by decide +kernel
theorem dX9_set_32 : decode cX9_set 32 = .ok (.iconst 1, 1) := by decide +kernel
theorem dX9_set_33 : decode cX9_set 33 = .ok (.isub, 1) := by decide +kernel
theorem dX9_set_34 : decode cX9_set 34 = .ok (.invokestatic 62, 3) := by decide +kernel
theorem dX9_set_37 : decode cX9_set 37 = .ok (.ifCond .ne 9, 3) := by decide +kernel
theorem dX9_set_40 : decode cX9_set 40 = .ok (.aload_n 0, 1) := by decide +kernel
theorem dX9_set_41 : decode cX9_set 41 = .ok (.iconst 2, 1) := by decide +kernel
theorem dX9_set_42 : decode cX9_set 42 = .ok (.invokevirtual 71, 3) := by decide +kernel
theorem dX9_set_45 : decode cX9_set 45 = .ok (.ireturn, 1) := by decide +kernel
theorem dX9_set_46 : decode cX9_set 46 = .ok (.aload_n 0, 1) := by decide +kernel
theorem dX9_set_47 : decode cX9_set 47 = .ok (.getfield 16, 3) := by decide +kernel
theorem dX9_set_50 : decode cX9_set 50 = .ok (.bipush 40, 2) := by decide +kernel
theorem dX9_set_52 : decode cX9_set 52 = .ok (.iload_n 1, 1) := by decide +kernel
theorem dX9_set_53 : decode cX9_set 53 = .ok (.imul, 1) := by decide +kernel
theorem dX9_set_54 : decode cX9_set 54 = .ok (.iload_n 2, 1) := by decide +kernel
theorem dX9_set_55 : decode cX9_set 55 = .ok (.iadd, 1) := by decide +kernel
theorem dX9_set_56 : decode cX9_set 56 = .ok (.aload_n 0, 1) := by decide +kernel
theorem dX9_set_57 : decode cX9_set 57 = .ok (.getfield 7, 3) := by decide +kernel
theorem dX9_set_60 : decode cX9_set 60 = .ok (.iload_n 1, 1) := by decide +kernel
theorem dX9_set_61 : decode cX9_set 61 = .ok (.iaload, 1) := by decide +kernel
theorem dX9_set_62 : decode cX9_set 62 = .ok (.iload_n 3, 1) := by decide +kernel
theorem dX9_set_63 : decode cX9_set 63 = .ok (.invokestatic 81, 3) := by decide +kernel
theorem dX9_set_66 : decode cX9_set 66 = .ok (.iastore, 1) := by decide +kernel
theorem dX9_set_67 : decode cX9_set 67 = .ok (.aload_n 0, 1) := by decide +kernel
theorem dX9_set_68 : decode cX9_set 68 = .ok (.aload_n 0, 1) := by decide +kernel
theorem dX9_set_69 : decode cX9_set 69 = .ok (.getfield 16, 3) := by decide +kernel
theorem dX9_set_72 : decode cX9_set 72 = .ok (.bipush 40, 2) := by decide +kernel
theorem dX9_set_74 : decode cX9_set 74 = .ok (.iload_n 1, 1) := by decide +kernel
theorem dX9_set_75 : decode cX9_set 75 = .ok (.imul, 1) := by decide +kernel
theorem dX9_set_76 : decode cX9_set 76 = .ok (.iload_n 2, 1) := by decide +kernel
theorem dX9_set_77 : decode cX9_set 77 = .ok (.iadd, 1) := by decide +kernel
theorem dX9_set_78 : decode cX9_set 78 = .ok (.iaload, 1) := by decide +kernel
theorem dX9_set_79 : decode cX9_set 79 = .ok (.invokevirtual 75, 3) := by decide +kernel
theorem dX9_set_82 : decode cX9_set 82 = .ok (.ireturn, 1) := by decide +kernel
theorem dX9_isPart_0 : decode cX9_isPart 0 = .ok (.iload_n 2, 1) := by decide +kernel
theorem dX9_isPart_1 : decode cX9_isPart 1 = .ok (.ifCond .lt 33, 3) := by decide +kernel
theorem dX9_isPart_4 : decode cX9_isPart 4 = .ok (.iload_n 3, 1) := by decide +kernel
theorem dX9_isPart_5 : decode cX9_isPart 5 = .ok (.ifCond .lt 29, 3) := by decide +kernel
theorem dX9_isPart_8 : decode cX9_isPart 8 = .ok (.iload_n 2, 1) := by decide +kernel
theorem dX9_isPart_9 : decode cX9_isPart 9 = .ok (.aload_n 0, 1) := by decide +kernel
theorem dX9_isPart_10 : decode cX9_isPart 10 = .ok (.getfield 13, 3) := by decide +kernel
theorem dX9_isPart_13 : decode cX9_isPart 13 = .ok (.iload_n 1, 1) := by decide +kernel
theorem dX9_isPart_14 : decode cX9_isPart 14 = .ok (.iaload, 1) := by decide +kernel
theorem dX9_isPart_15 : decode cX9_isPart 15 = .ok (.if_icmp .gt 19, 3) := by decide +kernel
theorem dX9_isPart_18 : decode cX9_isPart 18 = .ok (.iload_n 3, 1) := by decide +kernel
theorem dX9_isPart_19 : decode cX9_isPart 19 = .ok (.aload_n 0, 1) := by decide +kernel
theorem dX9_isPart_20 : decode cX9_isPart 20 = .ok (.getfield 13, 3) := by decide +kernel
theorem dX9_isPart_23 : decode cX9_isPart 23 = .ok (.iload_n 1, 1) := by decide +kernel
theorem dX9_isPart_24 : decode cX9_isPart 24 = .ok (.iaload, 1) := by decide +kernel
theorem dX9_isPart_25 : decode cX9_isPart 25 = .ok (.iload_n 2, 1) := by decide +kernel
theorem dX9_isPart_26 : decode cX9_isPart 26 = .ok (.isub, 1) := by decide +kernel
theorem dX9_isPart_27 : decode cX9_isPart 27 = .ok (.if_icmp .gt 7, 3) := by decide +kernel
theorem dX9_isPart_30 : decode cX9_isPart 30 = .ok (.iconst 1, 1) := by decide +kernel
theorem dX9_isPart_31 : decode cX9_isPart 31 = .ok (.goto 4, 3) := by decide +kernel
theorem dX9_isPart_34 : decode cX9_isPart 34 = .ok (.iconst 0, 1) := by decide +kernel
theorem dX9_isPart_35 : decode cX9_isPart 35 = .ok (.ireturn, 1) := by decide +kernel
theorem dX9_copy_0 : decode cX9_copy 0 = .ok (.iload_n 1, 1) := by decide +kernel
theorem dX9_copy_1 : decode cX9_copy 1 = .ok (.invokestatic 66, 3) := by decide +kernel
theorem dX9_copy_4 : decode cX9_copy 4 = .ok (.ifCond .eq 10, 3) := by decide +kernel
theorem dX9_copy_7 : decode cX9_copy 7 = .ok (.iload_n 3, 1) := by decide +kernel
theorem dX9_copy_8 : decode cX9_copy 8 = .ok (.invokestatic 66, 3) := by decide +kernel
theorem dX9_copy_11 : decode cX9_copy 11 = .ok (.ifCond .ne 6, 3) := by decide +kernel
theorem dX9_copy_14 : decode cX9_copy 14 = .ok (.ldc 70, 2) := by decide +kernel
theorem dX9_copy_16 : decode cX9_copy 16 = .ok (.ireturn, 1) := by decide +kernel
theorem dX9_copy_17 : decode cX9_copy 17 = .ok (.aload_n 0, 1) := by decide +kernel
theorem dX9_copy_18 : decode cX9_copy 18 = .ok (.iload_n 1, 1) := by decide +kernel
theorem dX9_copy_19 : decode cX9_copy 19 = .ok (.invokevirtual 78, 3) := by decide +kernel
theorem dX9_copy_22 : decode cX9_copy 22 = .ok (.ifCond .ne 11, 3) := by decide +kernel
theorem dX9_copy_25 : decode cX9_copy 25 = .ok (.aload_n 0, 1) := by decide +kernel
theorem dX9_copy_26 : decode cX9_copy 26 = .ok (.iload_n 3, 1) := by decide +kernel
theorem dX9_copy_27 : decode cX9_copy 27 = .ok (.invokevirtual 78, 3) := by decide +kernel
theorem dX9_copy_30 : decode cX9_copy 30 = .ok (.ifCond .eq 9, 3) := by decide +kernel
theorem dX9_copy_33 : decode cX9_copy 33 = .ok (.aload_n 0, 1) := by decide +kernel
theorem dX9_copy_34 : decode cX9_copy 34 = .ok (.iconst 1, 1) := by decide +kernel
theorem dX9_copy_35 : decode cX9_copy 35 = .ok (.invokevirtual 71, 3) := by decide +kernel
theorem dX9_copy_38 : decode cX9_copy 38 = .ok (.ireturn, 1) := by decide +kernel
theorem dX9_copy_39 : decode cX9_copy 39 = .ok (.aload_n 0, 1) := by decide +kernel
theorem dX9_copy_40 : decode cX9_copy 40 = .ok (.getfield 7, 3) := by decide +kernel
theorem dX9_copy_43 : decode cX9_copy 43 = .ok (.iload_n 1, 1) := by decide +kernel
theorem dX9_copy_44 : decode cX9_copy 44 = .ok (.iaload, 1) := by decide +kernel
theorem dX9_copy_45 : decode cX9_copy 45 = .ok (.aload_n 0, 1) := by decide +kernel
theorem dX9_copy_46 : decode cX9_copy 46 = .ok (.getfield 7, 3) := by decide +kernel
theorem dX9_copy_49 : decode cX9_copy 49 = .ok (.iload_n 3, 1) := by decide +kernel
theorem dX9_copy_50 : decode cX9_copy 50 = .ok (.iaload, 1) := by decide +kernel
theorem dX9_copy_51 : decode cX9_copy 51 = .ok (.if_icmp .eq 9, 3) := by decide +kernel
theorem dX9_copy_54 : decode cX9_copy 54 = .ok (.aload_n 0, 1) := by decide +kernel
theorem dX9_copy_55 : decode cX9_copy 55 = .ok (.iconst 5, 1) := by decide +kernel
theorem dX9_copy_56 : decode cX9_copy 56 = .ok (.invokevirtual 71, 3) := by decide +kernel
theorem dX9_copy_59 : decode cX9_copy 59 = .ok (.ireturn, 1) := by decide +kernel
theorem dX9_copy_60 : decode cX9_copy 60 = .ok (.aload_n 0, 1) := by decide +kernel
theorem dX9_copy_61 : decode cX9_copy 61 = .ok (.iload_n 1, 1) := by decide +kernel
theorem dX9_copy_62 : decode cX9_copy 62 = .ok (.iload_n 2, 1) := by decide +kernel
theorem dX9_copy_63 : decode cX9_copy 63 = .ok (.iload 5, 2) := by decide +kernel
theorem dX9_copy_65 : decode cX9_copy 65 = .ok (.invokevirtual 85, 3) := by decide +kernel
theorem dX9_copy_68 : decode cX9_copy 68 = .ok (.ifCond .eq 15, 3) := by decide +kernel
theorem dX9_copy_71 : decode cX9_copy 71 = .ok (.aload_n 0, 1) := by decide +kernel
theorem dX9_copy_72 : decode cX9_copy 72 = .ok (.iload_n 3, 1) := by decide +kernel
theorem dX9_copy_73 : decode cX9_copy 73 = .ok (.iload 4, 2) := by decide +kernel
theorem dX9_copy_75 : decode cX9_copy 75 = .ok (.iload 5, 2) := by decide +kernel
theorem dX9_copy_77 : decode cX9_copy 77 = .ok (.invokevirtual 85, 3) := by decide +kernel
theorem dX9_copy_80 : decode cX9_copy 80 = .ok (.ifCond .ne 9, 3) := by decide +kernel
theorem dX9_copy_83 : decode cX9_copy 83 = .ok (.aload_n 0, 1) := by decide +kernel
theorem dX9_copy_84 : decode cX9_copy 84 = .ok (.iconst 2, 1) := by decide +kernel
theorem dX9_copy_85 : decode cX9_copy 85 = .ok (.invokevirtual 71, 3) := by decide +kernel
theorem dX9_copy_88 : decode cX9_copy 88 = .ok (.ireturn, 1) := by decide +kernel
theorem dX9_copy_89 : decode cX9_copy 89 = .ok (.iconst 0, 1) := by decide +kernel
theorem dX9_copy_90 : decode cX9_copy 90 = .ok (.istore 6, 2) := by decide +kernel
theorem dX9_copy_92 : decode cX9_copy 92 = .ok (.iload 6, 2) := by decide +kernel
theorem dX9_copy_94 : decode cX9_copy 94 = .ok (.iload 5, 2) := by decide +kernel
theorem dX9_copy_96 : decode cX9_copy 96 = .ok (.if_icmp .ge 30, 3) := by decide +kernel
theorem dX9_copy_99 : decode cX9_copy 99 = .ok (.aload_n 0, 1) := by decide +kernel
theorem dX9_copy_100 : decode cX9_copy 100 = .ok (.getfield 19, 3) := by decide +kernel
theorem dX9_copy_103 : decode cX9_copy 103 = .ok (.iload 6, 2) := by decide +kernel
theorem dX9_copy_105 : decode cX9_copy 105 = .ok (.aload_n 0, 1) := by decide +kernel
theorem dX9_copy_106 : decode cX9_copy 106 = .ok (.getfield 16, 3) := by decide +kernel
theorem dX9_copy_109 : decode cX9_copy 109 = .ok (.bipush 40, 2) := by decide +kernel
theorem dX9_copy_111 : decode cX9_copy 111 = .ok (.iload_n 1, 1) := by decide +kernel
theorem dX9_copy_112 : decode cX9_copy 112 = .ok (.imul, 1) := by decide +kernel
theorem dX9_copy_113 : decode cX9_copy 113 = .ok (.iload_n 2, 1) := by decide +kernel
theorem dX9_copy_114 : decode cX9_copy 114 = .ok (.iadd, 1) := by decide +kernel
theorem dX9_copy_115 : decode cX9_copy 115 = .ok (.iload 6, 2) := by decide +kernel
theorem dX9_copy_117 : decode cX9_copy 117 = .ok (.iadd, 1) := by decide +kernel
theorem dX9_copy_118 : decode cX9_copy 118 = .ok (.iaload, 1) := by decide +kernel
theorem dX9_copy_119 : decode cX9_copy 119 = .ok (.iastore, 1) := by decide +kernel
theorem dX9_copy_120 : decode cX9_copy 120 = .ok (.iinc 6 1, 3) := by decide +kernel
theorem dX9_copy_123 : decode cX9_copy 123 = .ok (.goto (-31), 3) := by decide +kernel
theorem dX9_copy_126 : decode cX9_copy 126 = .ok (.iconst 0, 1) := by decide +kernel
theorem dX9_copy_127 : decode cX9_copy 127 = .ok (.istore 6, 2) := by decide +kernel
theorem dX9_copy_129 : decode cX9_copy 129 = .ok (.iload 6, 2) := by decide +kernel
theorem dX9_copy_131 : decode cX9_copy 131 = .ok (.iload 5, 2) := by decide +kernel
theorem dX9_copy_133 : decode cX9_copy 133 = .ok (.if_icmp .ge 31, 3) := by decide +kernel
theorem dX9_copy_136 : decode cX9_copy 136 = .ok (.aload_n 0, 1) := by decide +kernel
theorem dX9_copy_137 : decode cX9_copy 137 = .ok (.getfield 16, 3) := by decide +kernel
theorem dX9_copy_140 : decode cX9_copy 140 = .ok (.bipush 40, 2) := by decide +kernel
theorem dX9_copy_142 : decode cX9_copy 142 = .ok (.iload_n 3, 1) := by decide +kernel
theorem dX9_copy_143 : decode cX9_copy 143 = .ok (.imul, 1) := by decide +kernel
theorem dX9_copy_144 : decode cX9_copy 144 = .ok (.iload 4, 2) := by decide +kernel
theorem dX9_copy_146 : decode cX9_copy 146 = .ok (.iadd, 1) := by decide +kernel
theorem dX9_copy_147 : decode cX9_copy 147 = .ok (.iload 6, 2) := by decide +kernel
theorem dX9_copy_149 : decode cX9_copy 149 = .ok (.iadd, 1) := by decide +kernel
theorem dX9_copy_150 : decode cX9_copy 150 = .ok (.aload_n 0, 1) := by decide +kernel
theorem dX9_copy_151 : decode cX9_copy 151 = .ok (.getfield 19, 3) := by decide +kernel
theorem dX9_copy_154 : decode cX9_copy 154 = .ok (.iload 6, 2) := by decide +kernel
theorem dX9_copy_156 : decode cX9_copy 156 = .ok (.iaload, 1) := by decide +kernel
theorem dX9_copy_157 : decode cX9_copy 157 = .ok (.iastore, 1) := by decide +kernel
theorem dX9_copy_158 : decode cX9_copy 158 = .ok (.iinc 6 1, 3) := by decide +kernel
theorem dX9_copy_161 : decode cX9_copy 161 = .ok (.goto (-32), 3) := by decide +kernel
theorem dX9_copy_164 : decode cX9_copy 164 = .ok (.aload_n 0, 1) := by decide +kernel
theorem dX9_copy_165 : decode cX9_copy 165 = .ok (.iload 5, 2) := by decide +kernel
theorem dX9_copy_167 : decode cX9_copy 167 = .ok (.invokevirtual 75, 3) := by decide +kernel
theorem dX9_copy_170 : decode cX9_copy 170 = .ok (.ireturn, 1) := by decide +kernel
theorem dX9_drop_0 : decode cX9_drop 0 = .ok (.iload_n 1, 1) := by decide +kernel
theorem dX9_drop_1 : decode cX9_drop 1 = .ok (.invokestatic 66, 3) := by decide +kernel
theorem dX9_drop_4 : decode cX9_drop 4 = .ok (.ifCond .ne 6, 3) := by decide +kernel
theorem dX9_drop_7 : decode cX9_drop 7 = .ok (.ldc 70, 2) := by decide +kernel
theorem dX9_drop_9 : decode cX9_drop 9 = .ok (.ireturn, 1) := by decide +kernel
theorem dX9_drop_10 : decode cX9_drop 10 = .ok (.aload_n 0, 1) := by decide +kernel
theorem dX9_drop_11 : decode cX9_drop 11 = .ok (.iload_n 1, 1) := by decide +kernel
theorem dX9_drop_12 : decode cX9_drop 12 = .ok (.invokevirtual 78, 3) := by decide +kernel
theorem dX9_drop_15 : decode cX9_drop 15 = .ok (.ifCond .eq 9, 3) := by decide +kernel
theorem dX9_drop_18 : decode cX9_drop 18 = .ok (.aload_n 0, 1) := by decide +kernel
theorem dX9_drop_19 : decode cX9_drop 19 = .ok (.iconst 1, 1) := by decide +kernel
theorem dX9_drop_20 : decode cX9_drop 20 = .ok (.invokevirtual 71, 3) := by decide +kernel
theorem dX9_drop_23 : decode cX9_drop 23 = .ok (.ireturn, 1) := by decide +kernel
theorem dX9_drop_24 : decode cX9_drop 24 = .ok (.aload_n 0, 1) := by decide +kernel
theorem dX9_drop_25 : decode cX9_drop 25 = .ok (.getfield 7, 3) := by decide +kernel
theorem dX9_drop_28 : decode cX9_drop 28 = .ok (.iload_n 1, 1) := by decide +kernel
theorem dX9_drop_29 : decode cX9_drop 29 = .ok (.ldc 56, 2) := by decide +kernel
theorem dX9_drop_31 : decode cX9_drop 31 = .ok (.iastore, 1) := by decide +kernel
theorem dX9_drop_32 : decode cX9_drop 32 = .ok (.aload_n 0, 1) := by decide +kernel
theorem dX9_drop_33 : decode cX9_drop 33 = .ok (.aload_n 0, 1) := by decide +kernel
theorem dX9_drop_34 : decode cX9_drop 34 = .ok (.getfield 13, 3) := by decide +kernel
theorem dX9_drop_37 : decode cX9_drop 37 = .ok (.iload_n 1, 1) := by decide +kernel
theorem dX9_drop_38 : decode cX9_drop 38 = .ok (.iaload, 1) := by decide +kernel
theorem dX9_drop_39 : decode cX9_drop 39 = .ok (.invokevirtual 75, 3) := by decide +kernel
theorem dX9_drop_42 : decode cX9_drop 42 = .ok (.ireturn, 1) := by decide +kernel
theorem dX9_feed_0 : decode cX9_feed 0 = .ok (.iload_n 1, 1) := by decide +kernel
theorem dX9_feed_1 : decode cX9_feed 1 = .ok (.iconst 0, 1) := by decide +kernel
theorem dX9_feed_2 : decode cX9_feed 2 = .ok (.sipush 255, 3) := by decide +kernel
theorem dX9_feed_5 : decode cX9_feed 5 = .ok (.invokestatic 62, 3) := by decide +kernel
theorem dX9_feed_8 : decode cX9_feed 8 = .ok (.ifCond .ne 6, 3) := by decide +kernel
theorem dX9_feed_11 : decode cX9_feed 11 = .ok (.ldc 70, 2) := by decide +kernel
theorem dX9_feed_13 : decode cX9_feed 13 = .ok (.ireturn, 1) := by decide +kernel
theorem dX9_feed_14 : decode cX9_feed 14 = .ok (.aload_n 0, 1) := by decide +kernel
theorem dX9_feed_15 : decode cX9_feed 15 = .ok (.getfield 88, 3) := by decide +kernel
theorem dX9_feed_18 : decode cX9_feed 18 = .ok (.bipush 80, 2) := by decide +kernel
theorem dX9_feed_20 : decode cX9_feed 20 = .ok (.if_icmp .ne 6, 3) := by decide +kernel
theorem dX9_feed_23 : decode cX9_feed 23 = .ok (.ldc 91, 2) := by decide +kernel
theorem dX9_feed_25 : decode cX9_feed 25 = .ok (.ireturn, 1) := by decide +kernel
theorem dX9_feed_26 : decode cX9_feed 26 = .ok (.aload_n 0, 1) := by decide +kernel
theorem dX9_feed_27 : decode cX9_feed 27 = .ok (.getfield 22, 3) := by decide +kernel
theorem dX9_feed_30 : decode cX9_feed 30 = .ok (.aload_n 0, 1) := by decide +kernel
theorem dX9_feed_31 : decode cX9_feed 31 = .ok (.getfield 88, 3) := by decide +kernel
theorem dX9_feed_34 : decode cX9_feed 34 = .ok (.iload_n 1, 1) := by decide +kernel
theorem dX9_feed_35 : decode cX9_feed 35 = .ok (.iastore, 1) := by decide +kernel
theorem dX9_feed_36 : decode cX9_feed 36 = .ok (.aload_n 0, 1) := by decide +kernel
theorem dX9_feed_37 : decode cX9_feed 37 = .ok (.dup, 1) := by decide +kernel
theorem dX9_feed_38 : decode cX9_feed 38 = .ok (.getfield 88, 3) := by decide +kernel
theorem dX9_feed_41 : decode cX9_feed 41 = .ok (.iconst 1, 1) := by decide +kernel
theorem dX9_feed_42 : decode cX9_feed 42 = .ok (.iadd, 1) := by decide +kernel
theorem dX9_feed_43 : decode cX9_feed 43 = .ok (.putfield 88, 3) := by decide +kernel
theorem dX9_feed_46 : decode cX9_feed 46 = .ok (.aload_n 0, 1) := by decide +kernel
theorem dX9_feed_47 : decode cX9_feed 47 = .ok (.getfield 88, 3) := by decide +kernel
theorem dX9_feed_50 : decode cX9_feed 50 = .ok (.ireturn, 1) := by decide +kernel
theorem dX9_byteAt_0 : decode cX9_byteAt 0 = .ok (.iload_n 1, 1) := by decide +kernel
theorem dX9_byteAt_1 : decode cX9_byteAt 1 = .ok (.aload_n 0, 1) := by decide +kernel
theorem dX9_byteAt_2 : decode cX9_byteAt 2 = .ok (.getfield 88, 3) := by decide +kernel
theorem dX9_byteAt_5 : decode cX9_byteAt 5 = .ok (.if_icmp .ge 12, 3) := by decide +kernel
theorem dX9_byteAt_8 : decode cX9_byteAt 8 = .ok (.aload_n 0, 1) := by decide +kernel
theorem dX9_byteAt_9 : decode cX9_byteAt 9 = .ok (.getfield 22, 3) := by decide +kernel
theorem dX9_byteAt_12 : decode cX9_byteAt 12 = .ok (.iload_n 1, 1) := by decide +kernel
theorem dX9_byteAt_13 : decode cX9_byteAt 13 = .ok (.iaload, 1) := by decide +kernel
theorem dX9_byteAt_14 : decode cX9_byteAt 14 = .ok (.goto 4, 3) := by decide +kernel
theorem dX9_byteAt_17 : decode cX9_byteAt 17 = .ok (.iconst (-1), 1) := by decide +kernel
theorem dX9_byteAt_18 : decode cX9_byteAt 18 = .ok (.ireturn, 1) := by decide +kernel
theorem dX9_advances_0 : decode cX9_advances 0 = .ok (.aload_n 0, 1) := by decide +kernel
theorem dX9_advances_1 : decode cX9_advances 1 = .ok (.aload_n 0, 1) := by decide +kernel
theorem dX9_advances_2 : decode cX9_advances 2 = .ok (.getfield 92, 3) := by decide +kernel
theorem dX9_advances_5 : decode cX9_advances 5 = .ok (.putfield 95, 3) := by decide +kernel
theorem dX9_advances_8 : decode cX9_advances 8 = .ok (.aload_n 0, 1) := by decide +kernel
theorem dX9_advances_9 : decode cX9_advances 9 = .ok (.aload_n 0, 1) := by decide +kernel
theorem dX9_advances_10 : decode cX9_advances 10 = .ok (.getfield 92, 3) := by decide +kernel
theorem dX9_advances_13 : decode cX9_advances 13 = .ok (.invokevirtual 98, 3) := by decide +kernel
theorem dX9_advances_16 : decode cX9_advances 16 = .ok (.istore_n 1, 1) := by decide +kernel
theorem dX9_advances_17 : decode cX9_advances 17 = .ok (.aload_n 0, 1) := by decide +kernel
theorem dX9_advances_18 : decode cX9_advances 18 = .ok (.iload_n 1, 1) := by decide +kernel
theorem dX9_advances_19 : decode cX9_advances 19 = .ok (.putfield 101, 3) := by decide +kernel
theorem dX9_advances_22 : decode cX9_advances 22 = .ok (.iload_n 1, 1) := by decide +kernel
theorem dX9_advances_23 : decode cX9_advances 23 = .ok (.bipush 48, 2) := by decide +kernel
theorem dX9_advances_25 : decode cX9_advances 25 = .ok (.bipush 57, 2) := by decide +kernel
theorem dX9_advances_27 : decode cX9_advances 27 = .ok (.invokestatic 62, 3) := by decide +kernel
theorem dX9_advances_30 : decode cX9_advances 30 = .ok (.ifCond .eq 105, 3) := by decide +kernel
theorem dX9_advances_33 : decode cX9_advances 33 = .ok (.aload_n 0, 1) := by decide +kernel
theorem dX9_advances_34 : decode cX9_advances 34 = .ok (.iconst 0, 1) := by decide +kernel
theorem dX9_advances_35 : decode cX9_advances 35 = .ok (.putfield 101, 3) := by decide +kernel
theorem dX9_advances_38 : decode cX9_advances 38 = .ok (.aload_n 0, 1) := by decide +kernel
theorem dX9_advances_39 : decode cX9_advances 39 = .ok (.aload_n 0, 1) := by decide +kernel
theorem dX9_advances_40 : decode cX9_advances 40 = .ok (.getfield 92, 3) := by decide +kernel
theorem dX9_advances_43 : decode cX9_advances 43 = .ok (.invokevirtual 98, 3) := by decide +kernel
theorem dX9_advances_46 : decode cX9_advances 46 = .ok (.bipush 48, 2) := by decide +kernel
theorem dX9_advances_48 : decode cX9_advances 48 = .ok (.bipush 57, 2) := by decide +kernel
theorem dX9_advances_50 : decode cX9_advances 50 = .ok (.invokestatic 62, 3) := by decide +kernel
theorem dX9_advances_53 : decode cX9_advances 53 = .ok (.ifCond .eq 59, 3) := by decide +kernel
theorem dX9_advances_56 : decode cX9_advances 56 = .ok (.aload_n 0, 1) := by decide +kernel
theorem dX9_advances_57 : decode cX9_advances 57 = .ok (.aload_n 0, 1) := by decide +kernel
theorem dX9_advances_58 : decode cX9_advances 58 = .ok (.getfield 92, 3) := by decide +kernel
theorem dX9_advances_61 : decode cX9_advances 61 = .ok (.aload_n 0, 1) := by decide +kernel
theorem dX9_advances_62 : decode cX9_advances 62 = .ok (.getfield 95, 3) := by decide +kernel
theorem dX9_advances_65 : decode cX9_advances 65 = .ok (.isub, 1) := by decide +kernel
theorem dX9_advances_66 : decode cX9_advances 66 = .ok (.iconst 2, 1) := by decide +kernel
theorem dX9_advances_67 : decode cX9_advances 67 = .ok (.if_icmp .ge 25, 3) := by decide +kernel
theorem dX9_advances_70 : decode cX9_advances 70 = .ok (.bipush 10, 2) := by decide +kernel
theorem dX9_advances_72 : decode cX9_advances 72 = .ok (.aload_n 0, 1) := by decide +kernel
theorem dX9_advances_73 : decode cX9_advances 73 = .ok (.getfield 101, 3) := by decide +kernel
theorem dX9_advances_76 : decode cX9_advances 76 = .ok (.imul, 1) := by decide +kernel
theorem dX9_advances_77 : decode cX9_advances 77 = .ok (.aload_n 0, 1) := by decide +kernel
theorem dX9_advances_78 : decode cX9_advances 78 = .ok (.aload_n 0, 1) := by decide +kernel
theorem dX9_advances_79 : decode cX9_advances 79 = .ok (.getfield 92, 3) := by decide +kernel
theorem dX9_advances_82 : decode cX9_advances 82 = .ok (.invokevirtual 98, 3) := by decide +kernel
theorem dX9_advances_85 : decode cX9_advances 85 = .ok (.iadd, 1) := by decide +kernel
theorem dX9_advances_86 : decode cX9_advances 86 = .ok (.bipush 48, 2) := by decide +kernel
theorem dX9_advances_88 : decode cX9_advances 88 = .ok (.isub, 1) := by decide +kernel
theorem dX9_advances_89 : decode cX9_advances 89 = .ok (.goto 7, 3) := by decide +kernel
theorem dX9_advances_92 : decode cX9_advances 92 = .ok (.aload_n 0, 1) := by decide +kernel
theorem dX9_advances_93 : decode cX9_advances 93 = .ok (.getfield 101, 3) := by decide +kernel
theorem dX9_advances_96 : decode cX9_advances 96 = .ok (.putfield 101, 3) := by decide +kernel
theorem dX9_advances_99 : decode cX9_advances 99 = .ok (.aload_n 0, 1) := by decide +kernel
theorem dX9_advances_100 : decode cX9_advances 100 = .ok (.dup, 1) := by decide +kernel
theorem dX9_advances_101 : decode cX9_advances 101 = .ok (.getfield 92, 3) := by decide +kernel
theorem dX9_advances_104 : decode cX9_advances 104 = .ok (.iconst 1, 1) := by decide +kernel
theorem dX9_advances_105 : decode cX9_advances 105 = .ok (.iadd, 1) := by decide +kernel
theorem dX9_advances_106 : decode cX9_advances 106 = .ok (.putfield 92, 3) := by decide +kernel
theorem dX9_advances_109 : decode cX9_advances 109 = .ok (.goto (-71), 3) := by decide +kernel
theorem dX9_advances_112 : decode cX9_advances 112 = .ok (.aload_n 0, 1) := by decide +kernel
theorem dX9_advances_113 : decode cX9_advances 113 = .ok (.aload_n 0, 1) := by decide +kernel
theorem dX9_advances_114 : decode cX9_advances 114 = .ok (.getfield 92, 3) := by decide +kernel
theorem dX9_advances_117 : decode cX9_advances 117 = .ok (.aload_n 0, 1) := by decide +kernel
theorem dX9_advances_118 : decode cX9_advances 118 = .ok (.getfield 95, 3) := by decide +kernel
theorem dX9_advances_121 : decode cX9_advances 121 = .ok (.isub, 1) := by decide +kernel
theorem dX9_advances_122 : decode cX9_advances 122 = .ok (.iconst 3, 1) := by decide +kernel
theorem dX9_advances_123 : decode cX9_advances 123 = .ok (.if_icmp .ge 7, 3) := by decide +kernel
theorem dX9_advances_126 : decode cX9_advances 126 = .ok (.iconst 2, 1) := by decide +kernel
theorem dX9_advances_127 : decode cX9_advances 127 = .ok (.goto 4, 3) := by decide +kernel
theorem dX9_advances_130 : decode cX9_advances 130 = .ok (.iconst 5, 1) := by decide +kernel
theorem dX9_advances_131 : decode cX9_advances 131 = .ok (.putfield 104, 3) := by decide +kernel
theorem dX9_advances_134 : decode cX9_advances 134 = .ok (.return_, 1) := by decide +kernel
theorem dX9_advances_135 : decode cX9_advances 135 = .ok (.aload_n 0, 1) := by decide +kernel
theorem dX9_advances_136 : decode cX9_advances 136 = .ok (.iload_n 1, 1) := by decide +kernel
theorem dX9_advances_137 : decode cX9_advances 137 = .ok (.ifCond .ge 7, 3) := by decide +kernel
theorem dX9_advances_140 : decode cX9_advances 140 = .ok (.iconst 0, 1) := by decide +kernel
theorem dX9_advances_141 : decode cX9_advances 141 = .ok (.goto 39, 3) := by decide +kernel
theorem dX9_advances_144 : decode cX9_advances 144 = .ok (.iload_n 1, 1) := by decide +kernel
theorem dX9_advances_145 : decode cX9_advances 145 = .ok (.bipush 97, 2) := by decide +kernel
theorem dX9_advances_147 : decode cX9_advances 147 = .ok (.bipush 122, 2) := by decide +kernel
theorem dX9_advances_149 : decode cX9_advances 149 = .ok (.invokestatic 62, 3) := by decide +kernel
theorem dX9_advances_152 : decode cX9_advances 152 = .ok (.ifCond .eq 7, 3) := by decide +kernel
theorem dX9_advances_155 : decode cX9_advances 155 = .ok (.iconst 1, 1) := by decide +kernel
theorem dX9_advances_156 : decode cX9_advances 156 = .ok (.goto 24, 3) := by decide +kernel
theorem dX9_advances_159 : decode cX9_advances 159 = .ok (.iload_n 1, 1) := by decide +kernel
theorem dX9_advances_160 : decode cX9_advances 160 = .ok (.bipush 44, 2) := by decide +kernel
theorem dX9_advances_162 : decode cX9_advances 162 = .ok (.if_icmp .ne 7, 3) := by decide +kernel
theorem dX9_advances_165 : decode cX9_advances 165 = .ok (.iconst 3, 1) := by decide +kernel
theorem dX9_advances_166 : decode cX9_advances 166 = .ok (.goto 14, 3) := by decide +kernel
theorem dX9_advances_169 : decode cX9_advances 169 = .ok (.iload_n 1, 1) := by decide +kernel
theorem dX9_advances_170 : decode cX9_advances 170 = .ok (.bipush 59, 2) := by decide +kernel
theorem dX9_advances_172 : decode cX9_advances 172 = .ok (.if_icmp .ne 7, 3) := by decide +kernel
theorem dX9_advances_175 : decode cX9_advances 175 = .ok (.iconst 4, 1) := by decide +kernel
theorem dX9_advances_176 : decode cX9_advances 176 = .ok (.goto 4, 3) := by decide +kernel
theorem dX9_advances_179 : decode cX9_advances 179 = .ok (.iconst 5, 1) := by decide +kernel
theorem dX9_advances_180 : decode cX9_advances 180 = .ok (.putfield 104, 3) := by decide +kernel
theorem dX9_advances_183 : decode cX9_advances 183 = .ok (.aload_n 0, 1) := by decide +kernel
theorem dX9_advances_184 : decode cX9_advances 184 = .ok (.dup, 1) := by decide +kernel
theorem dX9_advances_185 : decode cX9_advances 185 = .ok (.getfield 92, 3) := by decide +kernel
theorem dX9_advances_188 : decode cX9_advances 188 = .ok (.aload_n 0, 1) := by decide +kernel
theorem dX9_advances_189 : decode cX9_advances 189 = .ok (.getfield 104, 3) := by decide +kernel
theorem dX9_advances_192 : decode cX9_advances 192 = .ok (.ifCond .ne 7, 3) := by decide +kernel
theorem dX9_advances_195 : decode cX9_advances 195 = .ok (.iconst 0, 1) := by decide +kernel
theorem dX9_advances_196 : decode cX9_advances 196 = .ok (.goto 4, 3) := by decide +kernel
theorem dX9_advances_199 : decode cX9_advances 199 = .ok (.iconst 1, 1) := by decide +kernel
theorem dX9_advances_200 : decode cX9_advances 200 = .ok (.iadd, 1) := by decide +kernel
theorem dX9_advances_201 : decode cX9_advances 201 = .ok (.putfield 92, 3) := by decide +kernel
theorem dX9_advances_204 : decode cX9_advances 204 = .ok (.return_, 1) := by decide +kernel
theorem dX9_isWell_0 : decode cX9_isWell 0 = .ok (.aload_n 0, 1) := by decide +kernel
theorem dX9_isWell_1 : decode cX9_isWell 1 = .ok (.getfield 107, 3) := by decide +kernel
theorem dX9_isWell_4 : decode cX9_isWell 4 = .ok (.ifCond .ge 7, 3) := by decide +kernel
theorem dX9_isWell_7 : decode cX9_isWell 7 = .ok (.iconst 1, 1) := by decide +kernel
theorem dX9_isWell_8 : decode cX9_isWell 8 = .ok (.goto 4, 3) := by decide +kernel
theorem dX9_isWell_11 : decode cX9_isWell 11 = .ok (.iconst 0, 1) := by decide +kernel
theorem dX9_isWell_12 : decode cX9_isWell 12 = .ok (.ireturn, 1) := by decide +kernel
theorem dX9_takes_0 : decode cX9_takes 0 = .ok (.aload_n 0, 1) := by decide +kernel
theorem dX9_takes_1 : decode cX9_takes 1 = .ok (.invokevirtual 110, 3) := by decide +kernel
theorem dX9_takes_4 : decode cX9_takes 4 = .ok (.ifCond .ne 5, 3) := by decide +kernel
theorem dX9_takes_7 : decode cX9_takes 7 = .ok (.iconst 0, 1) := by decide +kernel
theorem dX9_takes_8 : decode cX9_takes 8 = .ok (.ireturn, 1) := by decide +kernel
theorem dX9_takes_9 : decode cX9_takes 9 = .ok (.iload_n 1, 1) := by decide +kernel
theorem dX9_takes_10 : decode cX9_takes 10 = .ok (.ifCond .ne 18, 3) := by decide +kernel
theorem dX9_takes_13 : decode cX9_takes 13 = .ok (.aload_n 0, 1) := by decide +kernel
theorem dX9_takes_14 : decode cX9_takes 14 = .ok (.aload_n 0, 1) := by decide +kernel
theorem dX9_takes_15 : decode cX9_takes 15 = .ok (.getfield 95, 3) := by decide +kernel
theorem dX9_takes_18 : decode cX9_takes 18 = .ok (.putfield 107, 3) := by decide +kernel
theorem dX9_takes_21 : decode cX9_takes 21 = .ok (.aload_n 0, 1) := by decide +kernel
theorem dX9_takes_22 : decode cX9_takes 22 = .ok (.iload_n 2, 1) := by decide +kernel
theorem dX9_takes_23 : decode cX9_takes 23 = .ok (.putfield 114, 3) := by decide +kernel
theorem dX9_takes_26 : decode cX9_takes 26 = .ok (.iconst 0, 1) := by decide +kernel
theorem dX9_takes_27 : decode cX9_takes 27 = .ok (.ireturn, 1) := by decide +kernel
theorem dX9_takes_28 : decode cX9_takes 28 = .ok (.aload_n 0, 1) := by decide +kernel
theorem dX9_takes_29 : decode cX9_takes 29 = .ok (.getfield 101, 3) := by decide +kernel
theorem dX9_takes_32 : decode cX9_takes 32 = .ok (.istore_n 3, 1) := by decide +kernel
theorem dX9_takes_33 : decode cX9_takes 33 = .ok (.aload_n 0, 1) := by decide +kernel
theorem dX9_takes_34 : decode cX9_takes 34 = .ok (.invokevirtual 117, 3) := by decide +kernel
theorem dX9_takes_37 : decode cX9_takes 37 = .ok (.iload_n 3, 1) := by decide +kernel
theorem dX9_takes_38 : decode cX9_takes 38 = .ok (.ireturn, 1) := by decide +kernel
theorem dX9_figure_0 : decode cX9_figure 0 = .ok (.aload_n 0, 1) := by decide +kernel
theorem dX9_figure_1 : decode cX9_figure 1 = .ok (.invokevirtual 110, 3) := by decide +kernel
theorem dX9_figure_4 : decode cX9_figure 4 = .ok (.ifCond .eq 18, 3) := by decide +kernel
theorem dX9_figure_7 : decode cX9_figure 7 = .ok (.aload_n 0, 1) := by decide +kernel
theorem dX9_figure_8 : decode cX9_figure 8 = .ok (.getfield 104, 3) := by decide +kernel
theorem dX9_figure_11 : decode cX9_figure 11 = .ok (.iconst 2, 1) := by decide +kernel
theorem dX9_figure_12 : decode cX9_figure 12 = .ok (.if_icmp .eq 10, 3) := by decide +kernel
theorem dX9_figure_15 : decode cX9_figure 15 = .ok (.aload_n 0, 1) := by decide +kernel
theorem dX9_figure_16 : decode cX9_figure 16 = .ok (.iconst 0, 1) := by decide +kernel
theorem dX9_figure_17 : decode cX9_figure 17 = .ok (.iconst 1, 1) := by decide +kernel
theorem dX9_figure_18 : decode cX9_figure 18 = .ok (.invokevirtual 120, 3) := by decide +kernel
theorem dX9_figure_21 : decode cX9_figure 21 = .ok (.ireturn, 1) := by decide +kernel
theorem dX9_figure_22 : decode cX9_figure 22 = .ok (.aload_n 0, 1) := by decide +kernel
theorem dX9_figure_23 : decode cX9_figure 23 = .ok (.aload_n 0, 1) := by decide +kernel
theorem dX9_figure_24 : decode cX9_figure 24 = .ok (.getfield 101, 3) := by decide +kernel
theorem dX9_figure_27 : decode cX9_figure 27 = .ok (.iload_n 1, 1) := by decide +kernel
theorem dX9_figure_28 : decode cX9_figure 28 = .ok (.iload_n 2, 1) := by decide +kernel
theorem dX9_figure_29 : decode cX9_figure 29 = .ok (.invokestatic 62, 3) := by decide +kernel
theorem dX9_figure_32 : decode cX9_figure 32 = .ok (.iconst 2, 1) := by decide +kernel
theorem dX9_figure_33 : decode cX9_figure 33 = .ok (.invokevirtual 120, 3) := by decide +kernel
theorem dX9_figure_36 : decode cX9_figure 36 = .ok (.ireturn, 1) := by decide +kernel
theorem dX9_kindOf_0 : decode cX9_kindOf 0 = .ok (.iload_n 0, 1) := by decide +kernel
theorem dX9_kindOf_1 : decode cX9_kindOf 1 = .ok (.bipush 114, 2) := by decide +kernel
theorem dX9_kindOf_3 : decode cX9_kindOf 3 = .ok (.if_icmp .ne 7, 3) := by decide +kernel
theorem dX9_kindOf_6 : decode cX9_kindOf 6 = .ok (.iconst 1, 1) := by decide +kernel
theorem dX9_kindOf_7 : decode cX9_kindOf 7 = .ok (.goto 44, 3) := by decide +kernel
theorem dX9_kindOf_10 : decode cX9_kindOf 10 = .ok (.iload_n 0, 1) := by decide +kernel
theorem dX9_kindOf_11 : decode cX9_kindOf 11 = .ok (.bipush 109, 2) := by decide +kernel
theorem dX9_kindOf_13 : decode cX9_kindOf 13 = .ok (.if_icmp .ne 7, 3) := by decide +kernel
theorem dX9_kindOf_16 : decode cX9_kindOf 16 = .ok (.iconst 2, 1) := by decide +kernel
theorem dX9_kindOf_17 : decode cX9_kindOf 17 = .ok (.goto 34, 3) := by decide +kernel
theorem dX9_kindOf_20 : decode cX9_kindOf 20 = .ok (.iload_n 0, 1) := by decide +kernel
theorem dX9_kindOf_21 : decode cX9_kindOf 21 = .ok (.bipush 102, 2) := by decide +kernel
theorem dX9_kindOf_23 : decode cX9_kindOf 23 = .ok (.if_icmp .ne 7, 3) := by decide +kernel
theorem dX9_kindOf_26 : decode cX9_kindOf 26 = .ok (.iconst 3, 1) := by decide +kernel
theorem dX9_kindOf_27 : decode cX9_kindOf 27 = .ok (.goto 24, 3) := by decide +kernel
theorem dX9_kindOf_30 : decode cX9_kindOf 30 = .ok (.iload_n 0, 1) := by decide +kernel
theorem dX9_kindOf_31 : decode cX9_kindOf 31 = .ok (.bipush 116, 2) := by decide +kernel
theorem dX9_kindOf_33 : decode cX9_kindOf 33 = .ok (.if_icmp .ne 7, 3) := by decide +kernel
theorem dX9_kindOf_36 : decode cX9_kindOf 36 = .ok (.iconst 4, 1) := by decide +kernel
theorem dX9_kindOf_37 : decode cX9_kindOf 37 = .ok (.goto 14, 3) := by decide +kernel
theorem dX9_kindOf_40 : decode cX9_kindOf 40 = .ok (.iload_n 0, 1) := by decide +kernel
theorem dX9_kindOf_41 : decode cX9_kindOf 41 = .ok (.bipush 107, 2) := by decide +kernel
theorem dX9_kindOf_43 : decode cX9_kindOf 43 = .ok (.if_icmp .ne 7, 3) := by decide +kernel
theorem dX9_kindOf_46 : decode cX9_kindOf 46 = .ok (.iconst 5, 1) := by decide +kernel
theorem dX9_kindOf_47 : decode cX9_kindOf 47 = .ok (.goto 4, 3) := by decide +kernel
theorem dX9_kindOf_50 : decode cX9_kindOf 50 = .ok (.iconst 0, 1) := by decide +kernel
theorem dX9_kindOf_51 : decode cX9_kindOf 51 = .ok (.ireturn, 1) := by decide +kernel
theorem dX9_follows_0 : decode cX9_follows 0 = .ok (.aload_n 0, 1) := by decide +kernel
theorem dX9_follows_1 : decode cX9_follows 1 = .ok (.aload_n 0, 1) := by decide +kernel
theorem dX9_follows_2 : decode cX9_follows 2 = .ok (.getfield 104, 3) := by decide +kernel
theorem dX9_follows_5 : decode cX9_follows 5 = .ok (.iconst 3, 1) := by decide +kernel
theorem dX9_follows_6 : decode cX9_follows 6 = .ok (.if_icmp .ne 7, 3) := by decide +kernel
theorem dX9_follows_9 : decode cX9_follows 9 = .ok (.iconst 1, 1) := by decide +kernel
theorem dX9_follows_10 : decode cX9_follows 10 = .ok (.goto 4, 3) := by decide +kernel
theorem dX9_follows_13 : decode cX9_follows 13 = .ok (.iconst 0, 1) := by decide +kernel
theorem dX9_follows_14 : decode cX9_follows 14 = .ok (.iconst 1, 1) := by decide +kernel
theorem dX9_follows_15 : decode cX9_follows 15 = .ok (.invokevirtual 120, 3) := by decide +kernel
theorem dX9_follows_18 : decode cX9_follows 18 = .ok (.pop, 1) := by decide +kernel
theorem dX9_follows_19 : decode cX9_follows 19 = .ok (.aload_n 0, 1) := by decide +kernel
theorem dX9_follows_20 : decode cX9_follows 20 = .ok (.iload_n 1, 1) := by decide +kernel
theorem dX9_follows_21 : decode cX9_follows 21 = .ok (.iload_n 2, 1) := by decide +kernel
theorem dX9_follows_22 : decode cX9_follows 22 = .ok (.invokevirtual 124, 3) := by decide +kernel
theorem dX9_follows_25 : decode cX9_follows 25 = .ok (.ireturn, 1) := by decide +kernel
theorem dX9_must_0 : decode cX9_must 0 = .ok (.aload_n 0, 1) := by decide +kernel
theorem dX9_must_1 : decode cX9_must 1 = .ok (.invokevirtual 110, 3) := by decide +kernel
theorem dX9_must_4 : decode cX9_must 4 = .ok (.ifCond .eq 14, 3) := by decide +kernel
theorem dX9_must_7 : decode cX9_must 7 = .ok (.iload_n 1, 1) := by decide +kernel
theorem dX9_must_8 : decode cX9_must 8 = .ok (.ifCond .ne 10, 3) := by decide +kernel
theorem dX9_must_11 : decode cX9_must 11 = .ok (.aload_n 0, 1) := by decide +kernel
theorem dX9_must_12 : decode cX9_must 12 = .ok (.iconst 0, 1) := by decide +kernel
theorem dX9_must_13 : decode cX9_must 13 = .ok (.iload_n 2, 1) := by decide +kernel
theorem dX9_must_14 : decode cX9_must 14 = .ok (.invokevirtual 120, 3) := by decide +kernel
theorem dX9_must_17 : decode cX9_must 17 = .ok (.pop, 1) := by decide +kernel
theorem dX9_must_18 : decode cX9_must 18 = .ok (.return_, 1) := by decide +kernel
theorem dX9_readsItem_0 : decode cX9_readsItem 0 = .ok (.aload_n 0, 1) := by decide +kernel
theorem dX9_readsItem_1 : decode cX9_readsItem 1 = .ok (.getfield 101, 3) := by decide +kernel
theorem dX9_readsItem_4 : decode cX9_readsItem 4 = .ok (.invokestatic 127, 3) := by decide +kernel
theorem dX9_readsItem_7 : decode cX9_readsItem 7 = .ok (.istore_n 1, 1) := by decide +kernel
theorem dX9_readsItem_8 : decode cX9_readsItem 8 = .ok (.aload_n 0, 1) := by decide +kernel
theorem dX9_readsItem_9 : decode cX9_readsItem 9 = .ok (.aload_n 0, 1) := by decide +kernel
theorem dX9_readsItem_10 : decode cX9_readsItem 10 = .ok (.getfield 28, 3) := by decide +kernel
theorem dX9_readsItem_13 : decode cX9_readsItem 13 = .ok (.iconst 3, 1) := by decide +kernel
theorem dX9_readsItem_14 : decode cX9_readsItem 14 = .ok (.iaload, 1) := by decide +kernel
theorem dX9_readsItem_15 : decode cX9_readsItem 15 = .ok (.bipush 12, 2) := by decide +kernel
theorem dX9_readsItem_17 : decode cX9_readsItem 17 = .ok (.if_icmp .ge 7, 3) := by decide +kernel
theorem dX9_readsItem_20 : decode cX9_readsItem 20 = .ok (.iconst 1, 1) := by decide +kernel
theorem dX9_readsItem_21 : decode cX9_readsItem 21 = .ok (.goto 4, 3) := by decide +kernel
theorem dX9_readsItem_24 : decode cX9_readsItem 24 = .ok (.iconst 0, 1) := by decide +kernel
theorem dX9_readsItem_25 : decode cX9_readsItem 25 = .ok (.iconst 3, 1) := by decide +kernel
theorem dX9_readsItem_26 : decode cX9_readsItem 26 = .ok (.invokevirtual 120, 3) := by decide +kernel
theorem dX9_readsItem_29 : decode cX9_readsItem 29 = .ok (.pop, 1) := by decide +kernel
theorem dX9_readsItem_30 : decode cX9_readsItem 30 = .ok (.iconst 5, 1) := by decide +kernel
theorem dX9_readsItem_31 : decode cX9_readsItem 31 = .ok (.iconst 4, 1) := by decide +kernel
theorem dX9_readsItem_32 : decode cX9_readsItem 32 = .ok (.aload_n 0, 1) := by decide +kernel
theorem dX9_readsItem_33 : decode cX9_readsItem 33 = .ok (.getfield 28, 3) := by decide +kernel
theorem dX9_readsItem_36 : decode cX9_readsItem 36 = .ok (.iconst 3, 1) := by decide +kernel
theorem dX9_readsItem_37 : decode cX9_readsItem 37 = .ok (.iaload, 1) := by decide +kernel
theorem dX9_readsItem_38 : decode cX9_readsItem 38 = .ok (.bipush 12, 2) := by decide +kernel
theorem dX9_readsItem_40 : decode cX9_readsItem 40 = .ok (.if_icmp .ge 12, 3) := by decide +kernel
theorem dX9_readsItem_43 : decode cX9_readsItem 43 = .ok (.aload_n 0, 1) := by decide +kernel
theorem dX9_readsItem_44 : decode cX9_readsItem 44 = .ok (.getfield 28, 3) := by decide +kernel
theorem dX9_readsItem_47 : decode cX9_readsItem 47 = .ok (.iconst 3, 1) := by decide +kernel
theorem dX9_readsItem_48 : decode cX9_readsItem 48 = .ok (.iaload, 1) := by decide +kernel
theorem dX9_readsItem_49 : decode cX9_readsItem 49 = .ok (.goto 4, 3) := by decide +kernel
theorem dX9_readsItem_52 : decode cX9_readsItem 52 = .ok (.iconst 0, 1) := by decide +kernel
theorem dX9_readsItem_53 : decode cX9_readsItem 53 = .ok (.imul, 1) := by decide +kernel
theorem dX9_readsItem_54 : decode cX9_readsItem 54 = .ok (.iadd, 1) := by decide +kernel
theorem dX9_readsItem_55 : decode cX9_readsItem 55 = .ok (.istore_n 2, 1) := by decide +kernel
theorem dX9_readsItem_56 : decode cX9_readsItem 56 = .ok (.iload_n 1, 1) := by decide +kernel
theorem dX9_readsItem_57 : decode cX9_readsItem 57 = .ok (.iconst 5, 1) := by decide +kernel
theorem dX9_readsItem_58 : decode cX9_readsItem 58 = .ok (.if_icmp .ne 7, 3) := by decide +kernel
theorem dX9_readsItem_61 : decode cX9_readsItem 61 = .ok (.iconst 0, 1) := by decide +kernel
theorem dX9_readsItem_62 : decode cX9_readsItem 62 = .ok (.goto 25, 3) := by decide +kernel
theorem dX9_readsItem_65 : decode cX9_readsItem 65 = .ok (.iload_n 1, 1) := by decide +kernel
theorem dX9_readsItem_66 : decode cX9_readsItem 66 = .ok (.iconst 4, 1) := by decide +kernel
theorem dX9_readsItem_67 : decode cX9_readsItem 67 = .ok (.if_icmp .ne 13, 3) := by decide +kernel
theorem dX9_readsItem_70 : decode cX9_readsItem 70 = .ok (.aload_n 0, 1) := by decide +kernel
theorem dX9_readsItem_71 : decode cX9_readsItem 71 = .ok (.iconst 1, 1) := by decide +kernel
theorem dX9_readsItem_72 : decode cX9_readsItem 72 = .ok (.bipush 20, 2) := by decide +kernel
theorem dX9_readsItem_74 : decode cX9_readsItem 74 = .ok (.invokevirtual 124, 3) := by decide +kernel
theorem dX9_readsItem_77 : decode cX9_readsItem 77 = .ok (.goto 10, 3) := by decide +kernel
theorem dX9_readsItem_80 : decode cX9_readsItem 80 = .ok (.aload_n 0, 1) := by decide +kernel
theorem dX9_readsItem_81 : decode cX9_readsItem 81 = .ok (.iconst 0, 1) := by decide +kernel
theorem dX9_readsItem_82 : decode cX9_readsItem 82 = .ok (.bipush 11, 2) := by decide +kernel
theorem dX9_readsItem_84 : decode cX9_readsItem 84 = .ok (.invokevirtual 124, 3) := by decide +kernel
theorem dX9_readsItem_87 : decode cX9_readsItem 87 = .ok (.istore_n 3, 1) := by decide +kernel
theorem dX9_readsItem_88 : decode cX9_readsItem 88 = .ok (.aload_n 0, 1) := by decide +kernel
theorem dX9_readsItem_89 : decode cX9_readsItem 89 = .ok (.aload_n 0, 1) := by decide +kernel
theorem dX9_readsItem_90 : decode cX9_readsItem 90 = .ok (.getfield 104, 3) := by decide +kernel
theorem dX9_readsItem_93 : decode cX9_readsItem 93 = .ok (.iconst 4, 1) := by decide +kernel
theorem dX9_readsItem_94 : decode cX9_readsItem 94 = .ok (.if_icmp .ne 7, 3) := by decide +kernel
theorem dX9_readsItem_97 : decode cX9_readsItem 97 = .ok (.iconst 1, 1) := by decide +kernel
theorem dX9_readsItem_98 : decode cX9_readsItem 98 = .ok (.goto 4, 3) := by decide +kernel
theorem dX9_readsItem_101 : decode cX9_readsItem 101 = .ok (.iconst 0, 1) := by decide +kernel
theorem dX9_readsItem_102 : decode cX9_readsItem 102 = .ok (.iconst 1, 1) := by decide +kernel
theorem dX9_readsItem_103 : decode cX9_readsItem 103 = .ok (.invokevirtual 120, 3) := by decide +kernel
theorem dX9_readsItem_106 : decode cX9_readsItem 106 = .ok (.pop, 1) := by decide +kernel
theorem dX9_readsItem_107 : decode cX9_readsItem 107 = .ok (.aload_n 0, 1) := by decide +kernel
theorem dX9_readsItem_108 : decode cX9_readsItem 108 = .ok (.invokevirtual 110, 3) := by decide +kernel
theorem dX9_readsItem_111 : decode cX9_readsItem 111 = .ok (.ifCond .eq 43, 3) := by decide +kernel
theorem dX9_readsItem_114 : decode cX9_readsItem 114 = .ok (.aload_n 0, 1) := by decide +kernel
theorem dX9_readsItem_115 : decode cX9_readsItem 115 = .ok (.getfield 28, 3) := by decide +kernel
theorem dX9_readsItem_118 : decode cX9_readsItem 118 = .ok (.iload_n 2, 1) := by decide +kernel
theorem dX9_readsItem_119 : decode cX9_readsItem 119 = .ok (.iload_n 1, 1) := by decide +kernel
theorem dX9_readsItem_120 : decode cX9_readsItem 120 = .ok (.iastore, 1) := by decide +kernel
theorem dX9_readsItem_121 : decode cX9_readsItem 121 = .ok (.aload_n 0, 1) := by decide +kernel
theorem dX9_readsItem_122 : decode cX9_readsItem 122 = .ok (.getfield 28, 3) := by decide +kernel
theorem dX9_readsItem_125 : decode cX9_readsItem 125 = .ok (.iload_n 2, 1) := by decide +kernel
theorem dX9_readsItem_126 : decode cX9_readsItem 126 = .ok (.iconst 1, 1) := by decide +kernel
theorem dX9_readsItem_127 : decode cX9_readsItem 127 = .ok (.iadd, 1) := by decide +kernel
theorem dX9_readsItem_128 : decode cX9_readsItem 128 = .ok (.iload_n 3, 1) := by decide +kernel
theorem dX9_readsItem_129 : decode cX9_readsItem 129 = .ok (.iastore, 1) := by decide +kernel
theorem dX9_readsItem_130 : decode cX9_readsItem 130 = .ok (.aload_n 0, 1) := by decide +kernel
theorem dX9_readsItem_131 : decode cX9_readsItem 131 = .ok (.getfield 28, 3) := by decide +kernel
theorem dX9_readsItem_134 : decode cX9_readsItem 134 = .ok (.iload_n 2, 1) := by decide +kernel
theorem dX9_readsItem_135 : decode cX9_readsItem 135 = .ok (.iconst 2, 1) := by decide +kernel
theorem dX9_readsItem_136 : decode cX9_readsItem 136 = .ok (.iadd, 1) := by decide +kernel
theorem dX9_readsItem_137 : decode cX9_readsItem 137 = .ok (.aload_n 0, 1) := by decide +kernel
theorem dX9_readsItem_138 : decode cX9_readsItem 138 = .ok (.getfield 28, 3) := by decide +kernel
theorem dX9_readsItem_141 : decode cX9_readsItem 141 = .ok (.iconst 2, 1) := by decide +kernel
theorem dX9_readsItem_142 : decode cX9_readsItem 142 = .ok (.iaload, 1) := by decide +kernel
theorem dX9_readsItem_143 : decode cX9_readsItem 143 = .ok (.iastore, 1) := by decide +kernel
theorem dX9_readsItem_144 : decode cX9_readsItem 144 = .ok (.aload_n 0, 1) := by decide +kernel
theorem dX9_readsItem_145 : decode cX9_readsItem 145 = .ok (.getfield 28, 3) := by decide +kernel
theorem dX9_readsItem_148 : decode cX9_readsItem 148 = .ok (.iconst 3, 1) := by decide +kernel
theorem dX9_readsItem_149 : decode cX9_readsItem 149 = .ok (.dup2, 1) := by decide +kernel
theorem dX9_readsItem_150 : decode cX9_readsItem 150 = .ok (.iaload, 1) := by decide +kernel
theorem dX9_readsItem_151 : decode cX9_readsItem 151 = .ok (.iconst 1, 1) := by decide +kernel
theorem dX9_readsItem_152 : decode cX9_readsItem 152 = .ok (.iadd, 1) := by decide +kernel
theorem dX9_readsItem_153 : decode cX9_readsItem 153 = .ok (.iastore, 1) := by decide +kernel
theorem dX9_readsItem_154 : decode cX9_readsItem 154 = .ok (.return_, 1) := by decide +kernel
theorem dX9_areThere_0 : decode cX9_areThere 0 = .ok (.iconst 1, 1) := by decide +kernel
theorem dX9_areThere_1 : decode cX9_areThere 1 = .ok (.istore_n 1, 1) := by decide +kernel
theorem dX9_areThere_2 : decode cX9_areThere 2 = .ok (.iconst 0, 1) := by decide +kernel
theorem dX9_areThere_3 : decode cX9_areThere 3 = .ok (.istore_n 2, 1) := by decide +kernel
theorem dX9_areThere_4 : decode cX9_areThere 4 = .ok (.iload_n 2, 1) := by decide +kernel
theorem dX9_areThere_5 : decode cX9_areThere 5 = .ok (.aload_n 0, 1) := by decide +kernel
theorem dX9_areThere_6 : decode cX9_areThere 6 = .ok (.iconst 3, 1) := by decide +kernel
theorem dX9_areThere_7 : decode cX9_areThere 7 = .ok (.iaload, 1) := by decide +kernel
theorem dX9_areThere_8 : decode cX9_areThere 8 = .ok (.if_icmp .ge 45, 3) := by decide +kernel
theorem dX9_areThere_11 : decode cX9_areThere 11 = .ok (.iload_n 1, 1) := by decide +kernel
theorem dX9_areThere_12 : decode cX9_areThere 12 = .ok (.ifCond .eq 33, 3) := by decide +kernel
theorem dX9_areThere_15 : decode cX9_areThere 15 = .ok (.aload_n 0, 1) := by decide +kernel
theorem dX9_areThere_16 : decode cX9_areThere 16 = .ok (.iconst 5, 1) := by decide +kernel
theorem dX9_areThere_17 : decode cX9_areThere 17 = .ok (.iconst 4, 1) := by decide +kernel
theorem dX9_areThere_18 : decode cX9_areThere 18 = .ok (.iload_n 2, 1) := by decide +kernel
theorem dX9_areThere_19 : decode cX9_areThere 19 = .ok (.imul, 1) := by decide +kernel
theorem dX9_areThere_20 : decode cX9_areThere 20 = .ok (.iadd, 1) := by decide +kernel
theorem dX9_areThere_21 : decode cX9_areThere 21 = .ok (.iaload, 1) := by decide +kernel
theorem dX9_areThere_22 : decode cX9_areThere 22 = .ok (.iconst 3, 1) := by decide +kernel
theorem dX9_areThere_23 : decode cX9_areThere 23 = .ok (.if_icmp .gt 18, 3) := by decide +kernel
theorem dX9_areThere_26 : decode cX9_areThere 26 = .ok (.aload_n 0, 1) := by decide +kernel
theorem dX9_areThere_27 : decode cX9_areThere 27 = .ok (.iconst 5, 1) := by decide +kernel
theorem dX9_areThere_28 : decode cX9_areThere 28 = .ok (.iconst 4, 1) := by decide +kernel
theorem dX9_areThere_29 : decode cX9_areThere 29 = .ok (.iload_n 2, 1) := by decide +kernel
theorem dX9_areThere_30 : decode cX9_areThere 30 = .ok (.imul, 1) := by decide +kernel
theorem dX9_areThere_31 : decode cX9_areThere 31 = .ok (.iadd, 1) := by decide +kernel
theorem dX9_areThere_32 : decode cX9_areThere 32 = .ok (.iconst 1, 1) := by decide +kernel
theorem dX9_areThere_33 : decode cX9_areThere 33 = .ok (.iadd, 1) := by decide +kernel
theorem dX9_areThere_34 : decode cX9_areThere 34 = .ok (.iaload, 1) := by decide +kernel
theorem dX9_areThere_35 : decode cX9_areThere 35 = .ok (.aload_n 0, 1) := by decide +kernel
theorem dX9_areThere_36 : decode cX9_areThere 36 = .ok (.iconst 3, 1) := by decide +kernel
theorem dX9_areThere_37 : decode cX9_areThere 37 = .ok (.iaload, 1) := by decide +kernel
theorem dX9_areThere_38 : decode cX9_areThere 38 = .ok (.if_icmp .ge 7, 3) := by decide +kernel
theorem dX9_areThere_41 : decode cX9_areThere 41 = .ok (.iconst 1, 1) := by decide +kernel
theorem dX9_areThere_42 : decode cX9_areThere 42 = .ok (.goto 4, 3) := by decide +kernel
theorem dX9_areThere_45 : decode cX9_areThere 45 = .ok (.iconst 0, 1) := by decide +kernel
theorem dX9_areThere_46 : decode cX9_areThere 46 = .ok (.istore_n 1, 1) := by decide +kernel
theorem dX9_areThere_47 : decode cX9_areThere 47 = .ok (.iinc 2 1, 3) := by decide +kernel
theorem dX9_areThere_50 : decode cX9_areThere 50 = .ok (.goto (-46), 3) := by decide +kernel
theorem dX9_areThere_53 : decode cX9_areThere 53 = .ok (.iload_n 1, 1) := by decide +kernel
theorem dX9_areThere_54 : decode cX9_areThere 54 = .ok (.ireturn, 1) := by decide +kernel
theorem dX9_sheet_0 : decode cX9_sheet 0 = .ok (.iconst 0, 1) := by decide +kernel
theorem dX9_sheet_1 : decode cX9_sheet 1 = .ok (.istore_n 1, 1) := by decide +kernel
theorem dX9_sheet_2 : decode cX9_sheet 2 = .ok (.iload_n 1, 1) := by decide +kernel
theorem dX9_sheet_3 : decode cX9_sheet 3 = .ok (.bipush 53, 2) := by decide +kernel
theorem dX9_sheet_5 : decode cX9_sheet 5 = .ok (.if_icmp .ge 16, 3) := by decide +kernel
theorem dX9_sheet_8 : decode cX9_sheet 8 = .ok (.aload_n 0, 1) := by decide +kernel
theorem dX9_sheet_9 : decode cX9_sheet 9 = .ok (.getfield 28, 3) := by decide +kernel
theorem dX9_sheet_12 : decode cX9_sheet 12 = .ok (.iload_n 1, 1) := by decide +kernel
theorem dX9_sheet_13 : decode cX9_sheet 13 = .ok (.iconst 0, 1) := by decide +kernel
theorem dX9_sheet_14 : decode cX9_sheet 14 = .ok (.iastore, 1) := by decide +kernel
theorem dX9_sheet_15 : decode cX9_sheet 15 = .ok (.iinc 1 1, 3) := by decide +kernel
theorem dX9_sheet_18 : decode cX9_sheet 18 = .ok (.goto (-16), 3) := by decide +kernel
theorem dX9_sheet_21 : decode cX9_sheet 21 = .ok (.aload_n 0, 1) := by decide +kernel
end
section
theorem dX9_sheet_22 : decode cX9_sheet 22 = .ok (.iconst 0, 1) := by decide +kernel
theorem dX9_sheet_23 : decode cX9_sheet 23 = .ok (.putfield 92, 3) := by decide +kernel
theorem dX9_sheet_26 : decode cX9_sheet 26 = .ok (.aload_n 0, 1) := by decide +kernel
theorem dX9_sheet_27 : decode cX9_sheet 27 = .ok (.iconst (-1), 1) := by decide +kernel
theorem dX9_sheet_28 : decode cX9_sheet 28 = .ok (.putfield 107, 3) := by decide +kernel
theorem dX9_sheet_31 : decode cX9_sheet 31 = .ok (.aload_n 0, 1) := by decide +kernel
theorem dX9_sheet_32 : decode cX9_sheet 32 = .ok (.invokevirtual 117, 3) := by decide +kernel
theorem dX9_sheet_35 : decode cX9_sheet 35 = .ok (.aload_n 0, 1) := by decide +kernel
theorem dX9_sheet_36 : decode cX9_sheet 36 = .ok (.aload_n 0, 1) := by decide +kernel
theorem dX9_sheet_37 : decode cX9_sheet 37 = .ok (.getfield 104, 3) := by decide +kernel
theorem dX9_sheet_40 : decode cX9_sheet 40 = .ok (.iconst 1, 1) := by decide +kernel
theorem dX9_sheet_41 : decode cX9_sheet 41 = .ok (.if_icmp .ne 16, 3) := by decide +kernel
theorem dX9_sheet_44 : decode cX9_sheet 44 = .ok (.aload_n 0, 1) := by decide +kernel
theorem dX9_sheet_45 : decode cX9_sheet 45 = .ok (.getfield 101, 3) := by decide +kernel
theorem dX9_sheet_48 : decode cX9_sheet 48 = .ok (.bipush 119, 2) := by decide +kernel
theorem dX9_sheet_50 : decode cX9_sheet 50 = .ok (.if_icmp .ne 7, 3) := by decide +kernel
theorem dX9_sheet_53 : decode cX9_sheet 53 = .ok (.iconst 1, 1) := by decide +kernel
theorem dX9_sheet_54 : decode cX9_sheet 54 = .ok (.goto 4, 3) := by decide +kernel
theorem dX9_sheet_57 : decode cX9_sheet 57 = .ok (.iconst 0, 1) := by decide +kernel
theorem dX9_sheet_58 : decode cX9_sheet 58 = .ok (.iconst 1, 1) := by decide +kernel
theorem dX9_sheet_59 : decode cX9_sheet 59 = .ok (.invokevirtual 120, 3) := by decide +kernel
theorem dX9_sheet_62 : decode cX9_sheet 62 = .ok (.pop, 1) := by decide +kernel
theorem dX9_sheet_63 : decode cX9_sheet 63 = .ok (.aload_n 0, 1) := by decide +kernel
theorem dX9_sheet_64 : decode cX9_sheet 64 = .ok (.getfield 28, 3) := by decide +kernel
theorem dX9_sheet_67 : decode cX9_sheet 67 = .ok (.iconst 0, 1) := by decide +kernel
theorem dX9_sheet_68 : decode cX9_sheet 68 = .ok (.aload_n 0, 1) := by decide +kernel
theorem dX9_sheet_69 : decode cX9_sheet 69 = .ok (.iconst 4, 1) := by decide +kernel
theorem dX9_sheet_70 : decode cX9_sheet 70 = .ok (.bipush 20, 2) := by decide +kernel
theorem dX9_sheet_72 : decode cX9_sheet 72 = .ok (.invokevirtual 124, 3) := by decide +kernel
theorem dX9_sheet_75 : decode cX9_sheet 75 = .ok (.iastore, 1) := by decide +kernel
theorem dX9_sheet_76 : decode cX9_sheet 76 = .ok (.aload_n 0, 1) := by decide +kernel
theorem dX9_sheet_77 : decode cX9_sheet 77 = .ok (.getfield 28, 3) := by decide +kernel
theorem dX9_sheet_80 : decode cX9_sheet 80 = .ok (.iconst 1, 1) := by decide +kernel
theorem dX9_sheet_81 : decode cX9_sheet 81 = .ok (.aload_n 0, 1) := by decide +kernel
theorem dX9_sheet_82 : decode cX9_sheet 82 = .ok (.iconst 1, 1) := by decide +kernel
theorem dX9_sheet_83 : decode cX9_sheet 83 = .ok (.iconst 5, 1) := by decide +kernel
theorem dX9_sheet_84 : decode cX9_sheet 84 = .ok (.invokevirtual 130, 3) := by decide +kernel
theorem dX9_sheet_87 : decode cX9_sheet 87 = .ok (.iastore, 1) := by decide +kernel
theorem dX9_sheet_88 : decode cX9_sheet 88 = .ok (.aload_n 0, 1) := by decide +kernel
theorem dX9_sheet_89 : decode cX9_sheet 89 = .ok (.getfield 28, 3) := by decide +kernel
theorem dX9_sheet_92 : decode cX9_sheet 92 = .ok (.iconst 2, 1) := by decide +kernel
theorem dX9_sheet_93 : decode cX9_sheet 93 = .ok (.aload_n 0, 1) := by decide +kernel
theorem dX9_sheet_94 : decode cX9_sheet 94 = .ok (.iconst 1, 1) := by decide +kernel
theorem dX9_sheet_95 : decode cX9_sheet 95 = .ok (.bipush 87, 2) := by decide +kernel
theorem dX9_sheet_97 : decode cX9_sheet 97 = .ok (.invokevirtual 130, 3) := by decide +kernel
theorem dX9_sheet_100 : decode cX9_sheet 100 = .ok (.iastore, 1) := by decide +kernel
theorem dX9_sheet_101 : decode cX9_sheet 101 = .ok (.aload_n 0, 1) := by decide +kernel
theorem dX9_sheet_102 : decode cX9_sheet 102 = .ok (.aload_n 0, 1) := by decide +kernel
theorem dX9_sheet_103 : decode cX9_sheet 103 = .ok (.getfield 104, 3) := by decide +kernel
theorem dX9_sheet_106 : decode cX9_sheet 106 = .ok (.iconst 4, 1) := by decide +kernel
theorem dX9_sheet_107 : decode cX9_sheet 107 = .ok (.if_icmp .ne 7, 3) := by decide +kernel
theorem dX9_sheet_110 : decode cX9_sheet 110 = .ok (.iconst 1, 1) := by decide +kernel
theorem dX9_sheet_111 : decode cX9_sheet 111 = .ok (.goto 4, 3) := by decide +kernel
theorem dX9_sheet_114 : decode cX9_sheet 114 = .ok (.iconst 0, 1) := by decide +kernel
theorem dX9_sheet_115 : decode cX9_sheet 115 = .ok (.iconst 1, 1) := by decide +kernel
theorem dX9_sheet_116 : decode cX9_sheet 116 = .ok (.invokevirtual 120, 3) := by decide +kernel
theorem dX9_sheet_119 : decode cX9_sheet 119 = .ok (.pop, 1) := by decide +kernel
theorem dX9_sheet_120 : decode cX9_sheet 120 = .ok (.aload_n 0, 1) := by decide +kernel
theorem dX9_sheet_121 : decode cX9_sheet 121 = .ok (.invokevirtual 110, 3) := by decide +kernel
theorem dX9_sheet_124 : decode cX9_sheet 124 = .ok (.ifCond .eq 28, 3) := by decide +kernel
theorem dX9_sheet_127 : decode cX9_sheet 127 = .ok (.aload_n 0, 1) := by decide +kernel
theorem dX9_sheet_128 : decode cX9_sheet 128 = .ok (.getfield 104, 3) := by decide +kernel
theorem dX9_sheet_131 : decode cX9_sheet 131 = .ok (.iconst 1, 1) := by decide +kernel
theorem dX9_sheet_132 : decode cX9_sheet 132 = .ok (.if_icmp .ne 20, 3) := by decide +kernel
theorem dX9_sheet_135 : decode cX9_sheet 135 = .ok (.aload_n 0, 1) := by decide +kernel
theorem dX9_sheet_136 : decode cX9_sheet 136 = .ok (.getfield 101, 3) := by decide +kernel
theorem dX9_sheet_139 : decode cX9_sheet 139 = .ok (.invokestatic 127, 3) := by decide +kernel
theorem dX9_sheet_142 : decode cX9_sheet 142 = .ok (.ifCond .le 10, 3) := by decide +kernel
theorem dX9_sheet_145 : decode cX9_sheet 145 = .ok (.aload_n 0, 1) := by decide +kernel
theorem dX9_sheet_146 : decode cX9_sheet 146 = .ok (.invokevirtual 133, 3) := by decide +kernel
theorem dX9_sheet_149 : decode cX9_sheet 149 = .ok (.goto (-29), 3) := by decide +kernel
theorem dX9_sheet_152 : decode cX9_sheet 152 = .ok (.aload_n 0, 1) := by decide +kernel
theorem dX9_sheet_153 : decode cX9_sheet 153 = .ok (.aload_n 0, 1) := by decide +kernel
theorem dX9_sheet_154 : decode cX9_sheet 154 = .ok (.getfield 28, 3) := by decide +kernel
theorem dX9_sheet_157 : decode cX9_sheet 157 = .ok (.iconst 3, 1) := by decide +kernel
theorem dX9_sheet_158 : decode cX9_sheet 158 = .ok (.iaload, 1) := by decide +kernel
theorem dX9_sheet_159 : decode cX9_sheet 159 = .ok (.ifCond .le 14, 3) := by decide +kernel
theorem dX9_sheet_162 : decode cX9_sheet 162 = .ok (.aload_n 0, 1) := by decide +kernel
theorem dX9_sheet_163 : decode cX9_sheet 163 = .ok (.getfield 104, 3) := by decide +kernel
theorem dX9_sheet_166 : decode cX9_sheet 166 = .ok (.ifCond .ne 7, 3) := by decide +kernel
theorem dX9_sheet_169 : decode cX9_sheet 169 = .ok (.iconst 1, 1) := by decide +kernel
theorem dX9_sheet_170 : decode cX9_sheet 170 = .ok (.goto 4, 3) := by decide +kernel
theorem dX9_sheet_173 : decode cX9_sheet 173 = .ok (.iconst 0, 1) := by decide +kernel
theorem dX9_sheet_174 : decode cX9_sheet 174 = .ok (.iconst 1, 1) := by decide +kernel
theorem dX9_sheet_175 : decode cX9_sheet 175 = .ok (.invokevirtual 136, 3) := by decide +kernel
theorem dX9_sheet_178 : decode cX9_sheet 178 = .ok (.aload_n 0, 1) := by decide +kernel
theorem dX9_sheet_179 : decode cX9_sheet 179 = .ok (.aload_n 0, 1) := by decide +kernel
theorem dX9_sheet_180 : decode cX9_sheet 180 = .ok (.getfield 28, 3) := by decide +kernel
theorem dX9_sheet_183 : decode cX9_sheet 183 = .ok (.invokestatic 140, 3) := by decide +kernel
theorem dX9_sheet_186 : decode cX9_sheet 186 = .ok (.iconst 4, 1) := by decide +kernel
theorem dX9_sheet_187 : decode cX9_sheet 187 = .ok (.invokevirtual 136, 3) := by decide +kernel
theorem dX9_sheet_190 : decode cX9_sheet 190 = .ok (.aload_n 0, 1) := by decide +kernel
theorem dX9_sheet_191 : decode cX9_sheet 191 = .ok (.iconst 0, 1) := by decide +kernel
theorem dX9_sheet_192 : decode cX9_sheet 192 = .ok (.putfield 88, 3) := by decide +kernel
theorem dX9_sheet_195 : decode cX9_sheet 195 = .ok (.aload_n 0, 1) := by decide +kernel
theorem dX9_sheet_196 : decode cX9_sheet 196 = .ok (.invokevirtual 110, 3) := by decide +kernel
theorem dX9_sheet_199 : decode cX9_sheet 199 = .ok (.ifCond .ne 11, 3) := by decide +kernel
theorem dX9_sheet_202 : decode cX9_sheet 202 = .ok (.ldc 144, 2) := by decide +kernel
theorem dX9_sheet_204 : decode cX9_sheet 204 = .ok (.aload_n 0, 1) := by decide +kernel
theorem dX9_sheet_205 : decode cX9_sheet 205 = .ok (.getfield 107, 3) := by decide +kernel
theorem dX9_sheet_208 : decode cX9_sheet 208 = .ok (.isub, 1) := by decide +kernel
theorem dX9_sheet_209 : decode cX9_sheet 209 = .ok (.ireturn, 1) := by decide +kernel
theorem dX9_sheet_210 : decode cX9_sheet 210 = .ok (.aload_n 0, 1) := by decide +kernel
theorem dX9_sheet_211 : decode cX9_sheet 211 = .ok (.getfield 28, 3) := by decide +kernel
theorem dX9_sheet_214 : decode cX9_sheet 214 = .ok (.iconst 0, 1) := by decide +kernel
theorem dX9_sheet_215 : decode cX9_sheet 215 = .ok (.aload_n 0, 1) := by decide +kernel
theorem dX9_sheet_216 : decode cX9_sheet 216 = .ok (.getfield 25, 3) := by decide +kernel
theorem dX9_sheet_219 : decode cX9_sheet 219 = .ok (.iconst 0, 1) := by decide +kernel
theorem dX9_sheet_220 : decode cX9_sheet 220 = .ok (.invokestatic 145, 3) := by decide +kernel
theorem dX9_sheet_223 : decode cX9_sheet 223 = .ok (.aload_n 0, 1) := by decide +kernel
theorem dX9_sheet_224 : decode cX9_sheet 224 = .ok (.iconst 0, 1) := by decide +kernel
theorem dX9_sheet_225 : decode cX9_sheet 225 = .ok (.putfield 149, 3) := by decide +kernel
theorem dX9_sheet_228 : decode cX9_sheet 228 = .ok (.aload_n 0, 1) := by decide +kernel
theorem dX9_sheet_229 : decode cX9_sheet 229 = .ok (.getfield 25, 3) := by decide +kernel
theorem dX9_sheet_232 : decode cX9_sheet 232 = .ok (.iconst 3, 1) := by decide +kernel
theorem dX9_sheet_233 : decode cX9_sheet 233 = .ok (.iaload, 1) := by decide +kernel
theorem dX9_sheet_234 : decode cX9_sheet 234 = .ok (.ireturn, 1) := by decide +kernel
theorem dX9_fault_0 : decode cX9_fault 0 = .ok (.aload_n 0, 1) := by decide +kernel
theorem dX9_fault_1 : decode cX9_fault 1 = .ok (.getfield 114, 3) := by decide +kernel
theorem dX9_fault_4 : decode cX9_fault 4 = .ok (.ireturn, 1) := by decide +kernel
theorem dX9_isSheet_0 : decode cX9_isSheet 0 = .ok (.aload_n 0, 1) := by decide +kernel
theorem dX9_isSheet_1 : decode cX9_isSheet 1 = .ok (.getfield 25, 3) := by decide +kernel
theorem dX9_isSheet_4 : decode cX9_isSheet 4 = .ok (.iconst 0, 1) := by decide +kernel
theorem dX9_isSheet_5 : decode cX9_isSheet 5 = .ok (.iaload, 1) := by decide +kernel
theorem dX9_isSheet_6 : decode cX9_isSheet 6 = .ok (.ifCond .le 7, 3) := by decide +kernel
theorem dX9_isSheet_9 : decode cX9_isSheet 9 = .ok (.iconst 1, 1) := by decide +kernel
theorem dX9_isSheet_10 : decode cX9_isSheet 10 = .ok (.goto 4, 3) := by decide +kernel
theorem dX9_isSheet_13 : decode cX9_isSheet 13 = .ok (.iconst 0, 1) := by decide +kernel
theorem dX9_isSheet_14 : decode cX9_isSheet 14 = .ok (.ireturn, 1) := by decide +kernel
theorem dX9_isItem_0 : decode cX9_isItem 0 = .ok (.iload_n 1, 1) := by decide +kernel
theorem dX9_isItem_1 : decode cX9_isItem 1 = .ok (.iconst 0, 1) := by decide +kernel
theorem dX9_isItem_2 : decode cX9_isItem 2 = .ok (.aload_n 0, 1) := by decide +kernel
theorem dX9_isItem_3 : decode cX9_isItem 3 = .ok (.getfield 25, 3) := by decide +kernel
theorem dX9_isItem_6 : decode cX9_isItem 6 = .ok (.iconst 3, 1) := by decide +kernel
theorem dX9_isItem_7 : decode cX9_isItem 7 = .ok (.iaload, 1) := by decide +kernel
theorem dX9_isItem_8 : decode cX9_isItem 8 = .ok (.iconst 1, 1) := by decide +kernel
theorem dX9_isItem_9 : decode cX9_isItem 9 = .ok (.isub, 1) := by decide +kernel
theorem dX9_isItem_10 : decode cX9_isItem 10 = .ok (.invokestatic 62, 3) := by decide +kernel
theorem dX9_isItem_13 : decode cX9_isItem 13 = .ok (.ireturn, 1) := by decide +kernel
theorem dX9_romanSigns_0 : decode cX9_romanSigns 0 = .ok (.iload_n 0, 1) := by decide +kernel
theorem dX9_romanSigns_1 : decode cX9_romanSigns 1 = .ok (.bipush 9, 2) := by decide +kernel
theorem dX9_romanSigns_3 : decode cX9_romanSigns 3 = .ok (.if_icmp .eq 8, 3) := by decide +kernel
theorem dX9_romanSigns_6 : decode cX9_romanSigns 6 = .ok (.iload_n 0, 1) := by decide +kernel
theorem dX9_romanSigns_7 : decode cX9_romanSigns 7 = .ok (.iconst 4, 1) := by decide +kernel
theorem dX9_romanSigns_8 : decode cX9_romanSigns 8 = .ok (.if_icmp .ne 7, 3) := by decide +kernel
theorem dX9_romanSigns_11 : decode cX9_romanSigns 11 = .ok (.iconst 2, 1) := by decide +kernel
theorem dX9_romanSigns_12 : decode cX9_romanSigns 12 = .ok (.goto 15, 3) := by decide +kernel
theorem dX9_romanSigns_15 : decode cX9_romanSigns 15 = .ok (.iload_n 0, 1) := by decide +kernel
theorem dX9_romanSigns_16 : decode cX9_romanSigns 16 = .ok (.iconst 4, 1) := by decide +kernel
theorem dX9_romanSigns_17 : decode cX9_romanSigns 17 = .ok (.if_icmp .le 9, 3) := by decide +kernel
theorem dX9_romanSigns_20 : decode cX9_romanSigns 20 = .ok (.iload_n 0, 1) := by decide +kernel
theorem dX9_romanSigns_21 : decode cX9_romanSigns 21 = .ok (.iconst 4, 1) := by decide +kernel
theorem dX9_romanSigns_22 : decode cX9_romanSigns 22 = .ok (.isub, 1) := by decide +kernel
theorem dX9_romanSigns_23 : decode cX9_romanSigns 23 = .ok (.goto 4, 3) := by decide +kernel
theorem dX9_romanSigns_26 : decode cX9_romanSigns 26 = .ok (.iload_n 0, 1) := by decide +kernel
theorem dX9_romanSigns_27 : decode cX9_romanSigns 27 = .ok (.ireturn, 1) := by decide +kernel
theorem dX9_signs_0 : decode cX9_signs 0 = .ok (.iload_n 1, 1) := by decide +kernel
theorem dX9_signs_1 : decode cX9_signs 1 = .ok (.bipush 9, 2) := by decide +kernel
theorem dX9_signs_3 : decode cX9_signs 3 = .ok (.if_icmp .le 7, 3) := by decide +kernel
theorem dX9_signs_6 : decode cX9_signs 6 = .ok (.iconst 2, 1) := by decide +kernel
theorem dX9_signs_7 : decode cX9_signs 7 = .ok (.goto 4, 3) := by decide +kernel
theorem dX9_signs_10 : decode cX9_signs 10 = .ok (.iconst 1, 1) := by decide +kernel
theorem dX9_signs_11 : decode cX9_signs 11 = .ok (.istore_n 2, 1) := by decide +kernel
theorem dX9_signs_12 : decode cX9_signs 12 = .ok (.iload_n 0, 1) := by decide +kernel
theorem dX9_signs_13 : decode cX9_signs 13 = .ok (.iconst 2, 1) := by decide +kernel
theorem dX9_signs_14 : decode cX9_signs 14 = .ok (.if_icmp .ne 21, 3) := by decide +kernel
theorem dX9_signs_17 : decode cX9_signs 17 = .ok (.iload_n 1, 1) := by decide +kernel
theorem dX9_signs_18 : decode cX9_signs 18 = .ok (.bipush 10, 2) := by decide +kernel
theorem dX9_signs_20 : decode cX9_signs 20 = .ok (.idiv, 1) := by decide +kernel
theorem dX9_signs_21 : decode cX9_signs 21 = .ok (.invokestatic 152, 3) := by decide +kernel
theorem dX9_signs_24 : decode cX9_signs 24 = .ok (.iload_n 1, 1) := by decide +kernel
theorem dX9_signs_25 : decode cX9_signs 25 = .ok (.bipush 10, 2) := by decide +kernel
theorem dX9_signs_27 : decode cX9_signs 27 = .ok (.irem, 1) := by decide +kernel
theorem dX9_signs_28 : decode cX9_signs 28 = .ok (.invokestatic 152, 3) := by decide +kernel
theorem dX9_signs_31 : decode cX9_signs 31 = .ok (.iadd, 1) := by decide +kernel
theorem dX9_signs_32 : decode cX9_signs 32 = .ok (.goto 15, 3) := by decide +kernel
theorem dX9_signs_35 : decode cX9_signs 35 = .ok (.iload_n 0, 1) := by decide +kernel
theorem dX9_signs_36 : decode cX9_signs 36 = .ok (.iconst 3, 1) := by decide +kernel
theorem dX9_signs_37 : decode cX9_signs 37 = .ok (.if_icmp .ne 9, 3) := by decide +kernel
theorem dX9_signs_40 : decode cX9_signs 40 = .ok (.iload_n 2, 1) := by decide +kernel
theorem dX9_signs_41 : decode cX9_signs 41 = .ok (.iconst 1, 1) := by decide +kernel
theorem dX9_signs_42 : decode cX9_signs 42 = .ok (.iadd, 1) := by decide +kernel
theorem dX9_signs_43 : decode cX9_signs 43 = .ok (.goto 4, 3) := by decide +kernel
theorem dX9_signs_46 : decode cX9_signs 46 = .ok (.iload_n 2, 1) := by decide +kernel
theorem dX9_signs_47 : decode cX9_signs 47 = .ok (.ireturn, 1) := by decide +kernel
theorem dX9_wide_0 : decode cX9_wide 0 = .ok (.iconst 5, 1) := by decide +kernel
theorem dX9_wide_1 : decode cX9_wide 1 = .ok (.iconst 4, 1) := by decide +kernel
theorem dX9_wide_2 : decode cX9_wide 2 = .ok (.iload_n 1, 1) := by decide +kernel
theorem dX9_wide_3 : decode cX9_wide 3 = .ok (.imul, 1) := by decide +kernel
theorem dX9_wide_4 : decode cX9_wide 4 = .ok (.iadd, 1) := by decide +kernel
theorem dX9_wide_5 : decode cX9_wide 5 = .ok (.istore_n 2, 1) := by decide +kernel
theorem dX9_wide_6 : decode cX9_wide 6 = .ok (.aload_n 0, 1) := by decide +kernel
theorem dX9_wide_7 : decode cX9_wide 7 = .ok (.iload_n 2, 1) := by decide +kernel
theorem dX9_wide_8 : decode cX9_wide 8 = .ok (.iaload, 1) := by decide +kernel
theorem dX9_wide_9 : decode cX9_wide 9 = .ok (.iconst 3, 1) := by decide +kernel
theorem dX9_wide_10 : decode cX9_wide 10 = .ok (.if_icmp .le 20, 3) := by decide +kernel
theorem dX9_wide_13 : decode cX9_wide 13 = .ok (.aload_n 0, 1) := by decide +kernel
theorem dX9_wide_14 : decode cX9_wide 14 = .ok (.iload_n 2, 1) := by decide +kernel
theorem dX9_wide_15 : decode cX9_wide 15 = .ok (.iaload, 1) := by decide +kernel
theorem dX9_wide_16 : decode cX9_wide 16 = .ok (.iconst 4, 1) := by decide +kernel
theorem dX9_wide_17 : decode cX9_wide 17 = .ok (.if_icmp .ne 11, 3) := by decide +kernel
theorem dX9_wide_20 : decode cX9_wide 20 = .ok (.aload_n 0, 1) := by decide +kernel
theorem dX9_wide_21 : decode cX9_wide 21 = .ok (.iload_n 2, 1) := by decide +kernel
theorem dX9_wide_22 : decode cX9_wide 22 = .ok (.iconst 1, 1) := by decide +kernel
theorem dX9_wide_23 : decode cX9_wide 23 = .ok (.iadd, 1) := by decide +kernel
theorem dX9_wide_24 : decode cX9_wide 24 = .ok (.iaload, 1) := by decide +kernel
theorem dX9_wide_25 : decode cX9_wide 25 = .ok (.goto 4, 3) := by decide +kernel
theorem dX9_wide_28 : decode cX9_wide 28 = .ok (.iconst 0, 1) := by decide +kernel
theorem dX9_wide_29 : decode cX9_wide 29 = .ok (.ireturn, 1) := by decide +kernel
theorem dX9_wide_30 : decode cX9_wide 30 = .ok (.aload_n 0, 1) := by decide +kernel
theorem dX9_wide_31 : decode cX9_wide 31 = .ok (.iload_n 2, 1) := by decide +kernel
theorem dX9_wide_32 : decode cX9_wide 32 = .ok (.iaload, 1) := by decide +kernel
theorem dX9_wide_33 : decode cX9_wide 33 = .ok (.aload_n 0, 1) := by decide +kernel
theorem dX9_wide_34 : decode cX9_wide 34 = .ok (.iconst 5, 1) := by decide +kernel
theorem dX9_wide_35 : decode cX9_wide 35 = .ok (.iconst 4, 1) := by decide +kernel
theorem dX9_wide_36 : decode cX9_wide 36 = .ok (.aload_n 0, 1) := by decide +kernel
theorem dX9_wide_37 : decode cX9_wide 37 = .ok (.iload_n 2, 1) := by decide +kernel
theorem dX9_wide_38 : decode cX9_wide 38 = .ok (.iconst 1, 1) := by decide +kernel
theorem dX9_wide_39 : decode cX9_wide 39 = .ok (.iadd, 1) := by decide +kernel
theorem dX9_wide_40 : decode cX9_wide 40 = .ok (.iaload, 1) := by decide +kernel
theorem dX9_wide_41 : decode cX9_wide 41 = .ok (.imul, 1) := by decide +kernel
theorem dX9_wide_42 : decode cX9_wide 42 = .ok (.iadd, 1) := by decide +kernel
theorem dX9_wide_43 : decode cX9_wide 43 = .ok (.iconst 2, 1) := by decide +kernel
theorem dX9_wide_44 : decode cX9_wide 44 = .ok (.iadd, 1) := by decide +kernel
theorem dX9_wide_45 : decode cX9_wide 45 = .ok (.iaload, 1) := by decide +kernel
theorem dX9_wide_46 : decode cX9_wide 46 = .ok (.invokestatic 155, 3) := by decide +kernel
theorem dX9_wide_49 : decode cX9_wide 49 = .ok (.istore_n 3, 1) := by decide +kernel
theorem dX9_wide_50 : decode cX9_wide 50 = .ok (.iload_n 3, 1) := by decide +kernel
theorem dX9_wide_51 : decode cX9_wide 51 = .ok (.aload_n 0, 1) := by decide +kernel
theorem dX9_wide_52 : decode cX9_wide 52 = .ok (.iload_n 2, 1) := by decide +kernel
theorem dX9_wide_53 : decode cX9_wide 53 = .ok (.iconst 3, 1) := by decide +kernel
theorem dX9_wide_54 : decode cX9_wide 54 = .ok (.iadd, 1) := by decide +kernel
theorem dX9_wide_55 : decode cX9_wide 55 = .ok (.iaload, 1) := by decide +kernel
theorem dX9_wide_56 : decode cX9_wide 56 = .ok (.if_icmp .le 7, 3) := by decide +kernel
theorem dX9_wide_59 : decode cX9_wide 59 = .ok (.iload_n 3, 1) := by decide +kernel
theorem dX9_wide_60 : decode cX9_wide 60 = .ok (.goto 8, 3) := by decide +kernel
theorem dX9_wide_63 : decode cX9_wide 63 = .ok (.aload_n 0, 1) := by decide +kernel
theorem dX9_wide_64 : decode cX9_wide 64 = .ok (.iload_n 2, 1) := by decide +kernel
theorem dX9_wide_65 : decode cX9_wide 65 = .ok (.iconst 3, 1) := by decide +kernel
theorem dX9_wide_66 : decode cX9_wide 66 = .ok (.iadd, 1) := by decide +kernel
theorem dX9_wide_67 : decode cX9_wide 67 = .ok (.iaload, 1) := by decide +kernel
theorem dX9_wide_68 : decode cX9_wide 68 = .ok (.ireturn, 1) := by decide +kernel
theorem dX9_setsOut_0 : decode cX9_setsOut 0 = .ok (.aload_n 1, 1) := by decide +kernel
theorem dX9_setsOut_1 : decode cX9_setsOut 1 = .ok (.iconst 2, 1) := by decide +kernel
theorem dX9_setsOut_2 : decode cX9_setsOut 2 = .ok (.iaload, 1) := by decide +kernel
theorem dX9_setsOut_3 : decode cX9_setsOut 3 = .ok (.istore 4, 2) := by decide +kernel
theorem dX9_setsOut_5 : decode cX9_setsOut 5 = .ok (.iconst 0, 1) := by decide +kernel
theorem dX9_setsOut_6 : decode cX9_setsOut 6 = .ok (.istore 5, 2) := by decide +kernel
theorem dX9_setsOut_8 : decode cX9_setsOut 8 = .ok (.iconst 0, 1) := by decide +kernel
theorem dX9_setsOut_9 : decode cX9_setsOut 9 = .ok (.istore 6, 2) := by decide +kernel
theorem dX9_setsOut_11 : decode cX9_setsOut 11 = .ok (.iconst 0, 1) := by decide +kernel
theorem dX9_setsOut_12 : decode cX9_setsOut 12 = .ok (.istore 7, 2) := by decide +kernel
theorem dX9_setsOut_14 : decode cX9_setsOut 14 = .ok (.iload 7, 2) := by decide +kernel
theorem dX9_setsOut_16 : decode cX9_setsOut 16 = .ok (.aload_n 1, 1) := by decide +kernel
theorem dX9_setsOut_17 : decode cX9_setsOut 17 = .ok (.iconst 3, 1) := by decide +kernel
theorem dX9_setsOut_18 : decode cX9_setsOut 18 = .ok (.iaload, 1) := by decide +kernel
theorem dX9_setsOut_19 : decode cX9_setsOut 19 = .ok (.if_icmp .ge 147, 3) := by decide +kernel
theorem dX9_setsOut_22 : decode cX9_setsOut 22 = .ok (.aload_n 1, 1) := by decide +kernel
theorem dX9_setsOut_23 : decode cX9_setsOut 23 = .ok (.iload 7, 2) := by decide +kernel
theorem dX9_setsOut_25 : decode cX9_setsOut 25 = .ok (.invokestatic 158, 3) := by decide +kernel
theorem dX9_setsOut_28 : decode cX9_setsOut 28 = .ok (.iload 7, 2) := by decide +kernel
theorem dX9_setsOut_30 : decode cX9_setsOut 30 = .ok (.iload_n 2, 1) := by decide +kernel
theorem dX9_setsOut_31 : decode cX9_setsOut 31 = .ok (.if_icmp .ne 7, 3) := by decide +kernel
theorem dX9_setsOut_34 : decode cX9_setsOut 34 = .ok (.iload_n 3, 1) := by decide +kernel
theorem dX9_setsOut_35 : decode cX9_setsOut 35 = .ok (.goto 4, 3) := by decide +kernel
theorem dX9_setsOut_38 : decode cX9_setsOut 38 = .ok (.iconst 0, 1) := by decide +kernel
theorem dX9_setsOut_39 : decode cX9_setsOut 39 = .ok (.iadd, 1) := by decide +kernel
theorem dX9_setsOut_40 : decode cX9_setsOut 40 = .ok (.istore 8, 2) := by decide +kernel
theorem dX9_setsOut_42 : decode cX9_setsOut 42 = .ok (.aload_n 1, 1) := by decide +kernel
theorem dX9_setsOut_43 : decode cX9_setsOut 43 = .ok (.iconst 5, 1) := by decide +kernel
theorem dX9_setsOut_44 : decode cX9_setsOut 44 = .ok (.iconst 4, 1) := by decide +kernel
theorem dX9_setsOut_45 : decode cX9_setsOut 45 = .ok (.iload 7, 2) := by decide +kernel
theorem dX9_setsOut_47 : decode cX9_setsOut 47 = .ok (.imul, 1) := by decide +kernel
theorem dX9_setsOut_48 : decode cX9_setsOut 48 = .ok (.iadd, 1) := by decide +kernel
theorem dX9_setsOut_49 : decode cX9_setsOut 49 = .ok (.iaload, 1) := by decide +kernel
theorem dX9_setsOut_50 : decode cX9_setsOut 50 = .ok (.iconst 5, 1) := by decide +kernel
theorem dX9_setsOut_51 : decode cX9_setsOut 51 = .ok (.if_icmp .ne 7, 3) := by decide +kernel
theorem dX9_setsOut_54 : decode cX9_setsOut 54 = .ok (.iconst 1, 1) := by decide +kernel
theorem dX9_setsOut_55 : decode cX9_setsOut 55 = .ok (.goto 4, 3) := by decide +kernel
theorem dX9_setsOut_58 : decode cX9_setsOut 58 = .ok (.iconst 0, 1) := by decide +kernel
theorem dX9_setsOut_59 : decode cX9_setsOut 59 = .ok (.istore 9, 2) := by decide +kernel
theorem dX9_setsOut_61 : decode cX9_setsOut 61 = .ok (.iload 9, 2) := by decide +kernel
theorem dX9_setsOut_63 : decode cX9_setsOut 63 = .ok (.ifCond .ne 39, 3) := by decide +kernel
theorem dX9_setsOut_66 : decode cX9_setsOut 66 = .ok (.iload 6, 2) := by decide +kernel
theorem dX9_setsOut_68 : decode cX9_setsOut 68 = .ok (.ifCond .le 34, 3) := by decide +kernel
theorem dX9_setsOut_71 : decode cX9_setsOut 71 = .ok (.iload 6, 2) := by decide +kernel
theorem dX9_setsOut_73 : decode cX9_setsOut 73 = .ok (.iload 8, 2) := by decide +kernel
theorem dX9_setsOut_75 : decode cX9_setsOut 75 = .ok (.iadd, 1) := by decide +kernel
theorem dX9_setsOut_76 : decode cX9_setsOut 76 = .ok (.aload_n 1, 1) := by decide +kernel
theorem dX9_setsOut_77 : decode cX9_setsOut 77 = .ok (.iconst 0, 1) := by decide +kernel
theorem dX9_setsOut_78 : decode cX9_setsOut 78 = .ok (.iaload, 1) := by decide +kernel
theorem dX9_setsOut_79 : decode cX9_setsOut 79 = .ok (.if_icmp .le 23, 3) := by decide +kernel
theorem dX9_setsOut_82 : decode cX9_setsOut 82 = .ok (.iconst 0, 1) := by decide +kernel
theorem dX9_setsOut_83 : decode cX9_setsOut 83 = .ok (.istore 6, 2) := by decide +kernel
theorem dX9_setsOut_85 : decode cX9_setsOut 85 = .ok (.iinc 5 1, 3) := by decide +kernel
theorem dX9_setsOut_88 : decode cX9_setsOut 88 = .ok (.iload 5, 2) := by decide +kernel
theorem dX9_setsOut_90 : decode cX9_setsOut 90 = .ok (.aload_n 1, 1) := by decide +kernel
theorem dX9_setsOut_91 : decode cX9_setsOut 91 = .ok (.iconst 1, 1) := by decide +kernel
theorem dX9_setsOut_92 : decode cX9_setsOut 92 = .ok (.iaload, 1) := by decide +kernel
theorem dX9_setsOut_93 : decode cX9_setsOut 93 = .ok (.if_icmp .ne 9, 3) := by decide +kernel
theorem dX9_setsOut_96 : decode cX9_setsOut 96 = .ok (.iconst 0, 1) := by decide +kernel
theorem dX9_setsOut_97 : decode cX9_setsOut 97 = .ok (.istore 5, 2) := by decide +kernel
theorem dX9_setsOut_99 : decode cX9_setsOut 99 = .ok (.iinc 4 1, 3) := by decide +kernel
theorem dX9_setsOut_102 : decode cX9_setsOut 102 = .ok (.aload_n 0, 1) := by decide +kernel
theorem dX9_setsOut_103 : decode cX9_setsOut 103 = .ok (.getfield 44, 3) := by decide +kernel
theorem dX9_setsOut_106 : decode cX9_setsOut 106 = .ok (.iconst 3, 1) := by decide +kernel
theorem dX9_setsOut_107 : decode cX9_setsOut 107 = .ok (.iload 7, 2) := by decide +kernel
theorem dX9_setsOut_109 : decode cX9_setsOut 109 = .ok (.imul, 1) := by decide +kernel
theorem dX9_setsOut_110 : decode cX9_setsOut 110 = .ok (.iload 4, 2) := by decide +kernel
theorem dX9_setsOut_112 : decode cX9_setsOut 112 = .ok (.iastore, 1) := by decide +kernel
theorem dX9_setsOut_113 : decode cX9_setsOut 113 = .ok (.aload_n 0, 1) := by decide +kernel
theorem dX9_setsOut_114 : decode cX9_setsOut 114 = .ok (.getfield 44, 3) := by decide +kernel
theorem dX9_setsOut_117 : decode cX9_setsOut 117 = .ok (.iconst 3, 1) := by decide +kernel
theorem dX9_setsOut_118 : decode cX9_setsOut 118 = .ok (.iload 7, 2) := by decide +kernel
theorem dX9_setsOut_120 : decode cX9_setsOut 120 = .ok (.imul, 1) := by decide +kernel
theorem dX9_setsOut_121 : decode cX9_setsOut 121 = .ok (.iconst 1, 1) := by decide +kernel
theorem dX9_setsOut_122 : decode cX9_setsOut 122 = .ok (.iadd, 1) := by decide +kernel
theorem dX9_setsOut_123 : decode cX9_setsOut 123 = .ok (.iload 5, 2) := by decide +kernel
theorem dX9_setsOut_125 : decode cX9_setsOut 125 = .ok (.iastore, 1) := by decide +kernel
theorem dX9_setsOut_126 : decode cX9_setsOut 126 = .ok (.aload_n 0, 1) := by decide +kernel
theorem dX9_setsOut_127 : decode cX9_setsOut 127 = .ok (.getfield 44, 3) := by decide +kernel
theorem dX9_setsOut_130 : decode cX9_setsOut 130 = .ok (.iconst 3, 1) := by decide +kernel
theorem dX9_setsOut_131 : decode cX9_setsOut 131 = .ok (.iload 7, 2) := by decide +kernel
theorem dX9_setsOut_133 : decode cX9_setsOut 133 = .ok (.imul, 1) := by decide +kernel
theorem dX9_setsOut_134 : decode cX9_setsOut 134 = .ok (.iconst 2, 1) := by decide +kernel
theorem dX9_setsOut_135 : decode cX9_setsOut 135 = .ok (.iadd, 1) := by decide +kernel
theorem dX9_setsOut_136 : decode cX9_setsOut 136 = .ok (.iload 6, 2) := by decide +kernel
theorem dX9_setsOut_138 : decode cX9_setsOut 138 = .ok (.iastore, 1) := by decide +kernel
theorem dX9_setsOut_139 : decode cX9_setsOut 139 = .ok (.iload 6, 2) := by decide +kernel
theorem dX9_setsOut_141 : decode cX9_setsOut 141 = .ok (.iload 8, 2) := by decide +kernel
theorem dX9_setsOut_143 : decode cX9_setsOut 143 = .ok (.iadd, 1) := by decide +kernel
theorem dX9_setsOut_144 : decode cX9_setsOut 144 = .ok (.istore 6, 2) := by decide +kernel
theorem dX9_setsOut_146 : decode cX9_setsOut 146 = .ok (.iload 9, 2) := by decide +kernel
theorem dX9_setsOut_148 : decode cX9_setsOut 148 = .ok (.ifCond .eq 12, 3) := by decide +kernel
theorem dX9_setsOut_151 : decode cX9_setsOut 151 = .ok (.iinc 4 1, 3) := by decide +kernel
theorem dX9_setsOut_154 : decode cX9_setsOut 154 = .ok (.iconst 0, 1) := by decide +kernel
theorem dX9_setsOut_155 : decode cX9_setsOut 155 = .ok (.istore 5, 2) := by decide +kernel
theorem dX9_setsOut_157 : decode cX9_setsOut 157 = .ok (.iconst 0, 1) := by decide +kernel
theorem dX9_setsOut_158 : decode cX9_setsOut 158 = .ok (.istore 6, 2) := by decide +kernel
theorem dX9_setsOut_160 : decode cX9_setsOut 160 = .ok (.iinc 7 1, 3) := by decide +kernel
theorem dX9_setsOut_163 : decode cX9_setsOut 163 = .ok (.goto (-149), 3) := by decide +kernel
theorem dX9_setsOut_166 : decode cX9_setsOut 166 = .ok (.return_, 1) := by decide +kernel
theorem dX9_rounds_0 : decode cX9_rounds 0 = .ok (.aload_n 0, 1) := by decide +kernel
theorem dX9_rounds_1 : decode cX9_rounds 1 = .ok (.aload_n 1, 1) := by decide +kernel
theorem dX9_rounds_2 : decode cX9_rounds 2 = .ok (.ldc 56, 2) := by decide +kernel
theorem dX9_rounds_4 : decode cX9_rounds 4 = .ok (.iconst 0, 1) := by decide +kernel
theorem dX9_rounds_5 : decode cX9_rounds 5 = .ok (.invokevirtual 162, 3) := by decide +kernel
theorem dX9_rounds_8 : decode cX9_rounds 8 = .ok (.iconst 0, 1) := by decide +kernel
theorem dX9_rounds_9 : decode cX9_rounds 9 = .ok (.istore_n 2, 1) := by decide +kernel
theorem dX9_rounds_10 : decode cX9_rounds 10 = .ok (.iconst 0, 1) := by decide +kernel
theorem dX9_rounds_11 : decode cX9_rounds 11 = .ok (.istore_n 3, 1) := by decide +kernel
theorem dX9_rounds_12 : decode cX9_rounds 12 = .ok (.iload_n 3, 1) := by decide +kernel
theorem dX9_rounds_13 : decode cX9_rounds 13 = .ok (.aload_n 1, 1) := by decide +kernel
theorem dX9_rounds_14 : decode cX9_rounds 14 = .ok (.iconst 3, 1) := by decide +kernel
theorem dX9_rounds_15 : decode cX9_rounds 15 = .ok (.iaload, 1) := by decide +kernel
theorem dX9_rounds_16 : decode cX9_rounds 16 = .ok (.if_icmp .ge 54, 3) := by decide +kernel
theorem dX9_rounds_19 : decode cX9_rounds 19 = .ok (.iload_n 2, 1) := by decide +kernel
theorem dX9_rounds_20 : decode cX9_rounds 20 = .ok (.aload_n 1, 1) := by decide +kernel
theorem dX9_rounds_21 : decode cX9_rounds 21 = .ok (.iconst 5, 1) := by decide +kernel
theorem dX9_rounds_22 : decode cX9_rounds 22 = .ok (.iconst 4, 1) := by decide +kernel
theorem dX9_rounds_23 : decode cX9_rounds 23 = .ok (.iload_n 3, 1) := by decide +kernel
theorem dX9_rounds_24 : decode cX9_rounds 24 = .ok (.imul, 1) := by decide +kernel
theorem dX9_rounds_25 : decode cX9_rounds 25 = .ok (.iadd, 1) := by decide +kernel
theorem dX9_rounds_26 : decode cX9_rounds 26 = .ok (.iconst 2, 1) := by decide +kernel
theorem dX9_rounds_27 : decode cX9_rounds 27 = .ok (.iadd, 1) := by decide +kernel
theorem dX9_rounds_28 : decode cX9_rounds 28 = .ok (.iaload, 1) := by decide +kernel
theorem dX9_rounds_29 : decode cX9_rounds 29 = .ok (.aload_n 0, 1) := by decide +kernel
theorem dX9_rounds_30 : decode cX9_rounds 30 = .ok (.getfield 44, 3) := by decide +kernel
theorem dX9_rounds_33 : decode cX9_rounds 33 = .ok (.iconst 3, 1) := by decide +kernel
theorem dX9_rounds_34 : decode cX9_rounds 34 = .ok (.iload_n 3, 1) := by decide +kernel
theorem dX9_rounds_35 : decode cX9_rounds 35 = .ok (.imul, 1) := by decide +kernel
theorem dX9_rounds_36 : decode cX9_rounds 36 = .ok (.iaload, 1) := by decide +kernel
theorem dX9_rounds_37 : decode cX9_rounds 37 = .ok (.if_icmp .eq 7, 3) := by decide +kernel
theorem dX9_rounds_40 : decode cX9_rounds 40 = .ok (.iconst 1, 1) := by decide +kernel
theorem dX9_rounds_41 : decode cX9_rounds 41 = .ok (.goto 4, 3) := by decide +kernel
theorem dX9_rounds_44 : decode cX9_rounds 44 = .ok (.iconst 0, 1) := by decide +kernel
theorem dX9_rounds_45 : decode cX9_rounds 45 = .ok (.iadd, 1) := by decide +kernel
theorem dX9_rounds_46 : decode cX9_rounds 46 = .ok (.istore_n 2, 1) := by decide +kernel
theorem dX9_rounds_47 : decode cX9_rounds 47 = .ok (.aload_n 1, 1) := by decide +kernel
theorem dX9_rounds_48 : decode cX9_rounds 48 = .ok (.iconst 5, 1) := by decide +kernel
theorem dX9_rounds_49 : decode cX9_rounds 49 = .ok (.iconst 4, 1) := by decide +kernel
theorem dX9_rounds_50 : decode cX9_rounds 50 = .ok (.iload_n 3, 1) := by decide +kernel
theorem dX9_rounds_51 : decode cX9_rounds 51 = .ok (.imul, 1) := by decide +kernel
theorem dX9_rounds_52 : decode cX9_rounds 52 = .ok (.iadd, 1) := by decide +kernel
theorem dX9_rounds_53 : decode cX9_rounds 53 = .ok (.iconst 2, 1) := by decide +kernel
theorem dX9_rounds_54 : decode cX9_rounds 54 = .ok (.iadd, 1) := by decide +kernel
theorem dX9_rounds_55 : decode cX9_rounds 55 = .ok (.aload_n 0, 1) := by decide +kernel
theorem dX9_rounds_56 : decode cX9_rounds 56 = .ok (.getfield 44, 3) := by decide +kernel
theorem dX9_rounds_59 : decode cX9_rounds 59 = .ok (.iconst 3, 1) := by decide +kernel
theorem dX9_rounds_60 : decode cX9_rounds 60 = .ok (.iload_n 3, 1) := by decide +kernel
theorem dX9_rounds_61 : decode cX9_rounds 61 = .ok (.imul, 1) := by decide +kernel
theorem dX9_rounds_62 : decode cX9_rounds 62 = .ok (.iaload, 1) := by decide +kernel
theorem dX9_rounds_63 : decode cX9_rounds 63 = .ok (.iastore, 1) := by decide +kernel
theorem dX9_rounds_64 : decode cX9_rounds 64 = .ok (.iinc 3 1, 3) := by decide +kernel
theorem dX9_rounds_67 : decode cX9_rounds 67 = .ok (.goto (-55), 3) := by decide +kernel
theorem dX9_rounds_70 : decode cX9_rounds 70 = .ok (.aload_n 1, 1) := by decide +kernel
theorem dX9_rounds_71 : decode cX9_rounds 71 = .ok (.iconst 4, 1) := by decide +kernel
theorem dX9_rounds_72 : decode cX9_rounds 72 = .ok (.dup2, 1) := by decide +kernel
theorem dX9_rounds_73 : decode cX9_rounds 73 = .ok (.iaload, 1) := by decide +kernel
theorem dX9_rounds_74 : decode cX9_rounds 74 = .ok (.iconst 1, 1) := by decide +kernel
theorem dX9_rounds_75 : decode cX9_rounds 75 = .ok (.iadd, 1) := by decide +kernel
theorem dX9_rounds_76 : decode cX9_rounds 76 = .ok (.iastore, 1) := by decide +kernel
theorem dX9_rounds_77 : decode cX9_rounds 77 = .ok (.iload_n 2, 1) := by decide +kernel
theorem dX9_rounds_78 : decode cX9_rounds 78 = .ok (.ireturn, 1) := by decide +kernel
theorem dX9_isSettled_0 : decode cX9_isSettled 0 = .ok (.aload_n 0, 1) := by decide +kernel
theorem dX9_isSettled_1 : decode cX9_isSettled 1 = .ok (.aload_n 1, 1) := by decide +kernel
theorem dX9_isSettled_2 : decode cX9_isSettled 2 = .ok (.ldc 56, 2) := by decide +kernel
theorem dX9_isSettled_4 : decode cX9_isSettled 4 = .ok (.iconst 0, 1) := by decide +kernel
theorem dX9_isSettled_5 : decode cX9_isSettled 5 = .ok (.invokevirtual 162, 3) := by decide +kernel
theorem dX9_isSettled_8 : decode cX9_isSettled 8 = .ok (.iconst 1, 1) := by decide +kernel
theorem dX9_isSettled_9 : decode cX9_isSettled 9 = .ok (.istore_n 2, 1) := by decide +kernel
theorem dX9_isSettled_10 : decode cX9_isSettled 10 = .ok (.iconst 0, 1) := by decide +kernel
theorem dX9_isSettled_11 : decode cX9_isSettled 11 = .ok (.istore_n 3, 1) := by decide +kernel
theorem dX9_isSettled_12 : decode cX9_isSettled 12 = .ok (.iload_n 3, 1) := by decide +kernel
theorem dX9_isSettled_13 : decode cX9_isSettled 13 = .ok (.aload_n 1, 1) := by decide +kernel
theorem dX9_isSettled_14 : decode cX9_isSettled 14 = .ok (.iconst 3, 1) := by decide +kernel
theorem dX9_isSettled_15 : decode cX9_isSettled 15 = .ok (.iaload, 1) := by decide +kernel
theorem dX9_isSettled_16 : decode cX9_isSettled 16 = .ok (.if_icmp .ge 39, 3) := by decide +kernel
theorem dX9_isSettled_19 : decode cX9_isSettled 19 = .ok (.iload_n 2, 1) := by decide +kernel
theorem dX9_isSettled_20 : decode cX9_isSettled 20 = .ok (.ifCond .eq 27, 3) := by decide +kernel
theorem dX9_isSettled_23 : decode cX9_isSettled 23 = .ok (.aload_n 1, 1) := by decide +kernel
theorem dX9_isSettled_24 : decode cX9_isSettled 24 = .ok (.iconst 5, 1) := by decide +kernel
theorem dX9_isSettled_25 : decode cX9_isSettled 25 = .ok (.iconst 4, 1) := by decide +kernel
theorem dX9_isSettled_26 : decode cX9_isSettled 26 = .ok (.iload_n 3, 1) := by decide +kernel
theorem dX9_isSettled_27 : decode cX9_isSettled 27 = .ok (.imul, 1) := by decide +kernel
theorem dX9_isSettled_28 : decode cX9_isSettled 28 = .ok (.iadd, 1) := by decide +kernel
theorem dX9_isSettled_29 : decode cX9_isSettled 29 = .ok (.iconst 2, 1) := by decide +kernel
theorem dX9_isSettled_30 : decode cX9_isSettled 30 = .ok (.iadd, 1) := by decide +kernel
theorem dX9_isSettled_31 : decode cX9_isSettled 31 = .ok (.iaload, 1) := by decide +kernel
theorem dX9_isSettled_32 : decode cX9_isSettled 32 = .ok (.aload_n 0, 1) := by decide +kernel
theorem dX9_isSettled_33 : decode cX9_isSettled 33 = .ok (.getfield 44, 3) := by decide +kernel
theorem dX9_isSettled_36 : decode cX9_isSettled 36 = .ok (.iconst 3, 1) := by decide +kernel
theorem dX9_isSettled_37 : decode cX9_isSettled 37 = .ok (.iload_n 3, 1) := by decide +kernel
theorem dX9_isSettled_38 : decode cX9_isSettled 38 = .ok (.imul, 1) := by decide +kernel
theorem dX9_isSettled_39 : decode cX9_isSettled 39 = .ok (.iaload, 1) := by decide +kernel
theorem dX9_isSettled_40 : decode cX9_isSettled 40 = .ok (.if_icmp .ne 7, 3) := by decide +kernel
theorem dX9_isSettled_43 : decode cX9_isSettled 43 = .ok (.iconst 1, 1) := by decide +kernel
theorem dX9_isSettled_44 : decode cX9_isSettled 44 = .ok (.goto 4, 3) := by decide +kernel
theorem dX9_isSettled_47 : decode cX9_isSettled 47 = .ok (.iconst 0, 1) := by decide +kernel
theorem dX9_isSettled_48 : decode cX9_isSettled 48 = .ok (.istore_n 2, 1) := by decide +kernel
theorem dX9_isSettled_49 : decode cX9_isSettled 49 = .ok (.iinc 3 1, 3) := by decide +kernel
theorem dX9_isSettled_52 : decode cX9_isSettled 52 = .ok (.goto (-40), 3) := by decide +kernel
theorem dX9_isSettled_55 : decode cX9_isSettled 55 = .ok (.iload_n 2, 1) := by decide +kernel
theorem dX9_isSettled_56 : decode cX9_isSettled 56 = .ok (.ireturn, 1) := by decide +kernel
theorem dX9_begins_0 : decode cX9_begins 0 = .ok (.iconst 0, 1) := by decide +kernel
theorem dX9_begins_1 : decode cX9_begins 1 = .ok (.istore_n 1, 1) := by decide +kernel
theorem dX9_begins_2 : decode cX9_begins 2 = .ok (.iload_n 1, 1) := by decide +kernel
theorem dX9_begins_3 : decode cX9_begins 3 = .ok (.aload_n 0, 1) := by decide +kernel
theorem dX9_begins_4 : decode cX9_begins 4 = .ok (.iconst 3, 1) := by decide +kernel
theorem dX9_begins_5 : decode cX9_begins 5 = .ok (.iaload, 1) := by decide +kernel
theorem dX9_begins_6 : decode cX9_begins 6 = .ok (.if_icmp .ge 31, 3) := by decide +kernel
theorem dX9_begins_9 : decode cX9_begins 9 = .ok (.aload_n 0, 1) := by decide +kernel
theorem dX9_begins_10 : decode cX9_begins 10 = .ok (.iconst 5, 1) := by decide +kernel
theorem dX9_begins_11 : decode cX9_begins 11 = .ok (.iconst 4, 1) := by decide +kernel
theorem dX9_begins_12 : decode cX9_begins 12 = .ok (.iload_n 1, 1) := by decide +kernel
theorem dX9_begins_13 : decode cX9_begins 13 = .ok (.imul, 1) := by decide +kernel
theorem dX9_begins_14 : decode cX9_begins 14 = .ok (.iadd, 1) := by decide +kernel
theorem dX9_begins_15 : decode cX9_begins 15 = .ok (.iconst 2, 1) := by decide +kernel
theorem dX9_begins_16 : decode cX9_begins 16 = .ok (.iadd, 1) := by decide +kernel
theorem dX9_begins_17 : decode cX9_begins 17 = .ok (.aload_n 0, 1) := by decide +kernel
theorem dX9_begins_18 : decode cX9_begins 18 = .ok (.iconst 2, 1) := by decide +kernel
theorem dX9_begins_19 : decode cX9_begins 19 = .ok (.iaload, 1) := by decide +kernel
theorem dX9_begins_20 : decode cX9_begins 20 = .ok (.iastore, 1) := by decide +kernel
theorem dX9_begins_21 : decode cX9_begins 21 = .ok (.aload_n 0, 1) := by decide +kernel
theorem dX9_begins_22 : decode cX9_begins 22 = .ok (.iconst 5, 1) := by decide +kernel
theorem dX9_begins_23 : decode cX9_begins 23 = .ok (.iconst 4, 1) := by decide +kernel
theorem dX9_begins_24 : decode cX9_begins 24 = .ok (.iload_n 1, 1) := by decide +kernel
theorem dX9_begins_25 : decode cX9_begins 25 = .ok (.imul, 1) := by decide +kernel
theorem dX9_begins_26 : decode cX9_begins 26 = .ok (.iadd, 1) := by decide +kernel
theorem dX9_begins_27 : decode cX9_begins 27 = .ok (.iconst 3, 1) := by decide +kernel
theorem dX9_begins_28 : decode cX9_begins 28 = .ok (.iadd, 1) := by decide +kernel
theorem dX9_begins_29 : decode cX9_begins 29 = .ok (.iconst 0, 1) := by decide +kernel
theorem dX9_begins_30 : decode cX9_begins 30 = .ok (.iastore, 1) := by decide +kernel
theorem dX9_begins_31 : decode cX9_begins 31 = .ok (.iinc 1 1, 3) := by decide +kernel
theorem dX9_begins_34 : decode cX9_begins 34 = .ok (.goto (-32), 3) := by decide +kernel
theorem dX9_begins_37 : decode cX9_begins 37 = .ok (.return_, 1) := by decide +kernel
theorem dX9_keepsGuesses_0 : decode cX9_keepsGuesses 0 = .ok (.iconst 0, 1) := by decide +kernel
theorem dX9_keepsGuesses_1 : decode cX9_keepsGuesses 1 = .ok (.istore_n 3, 1) := by decide +kernel
theorem dX9_keepsGuesses_2 : decode cX9_keepsGuesses 2 = .ok (.iload_n 3, 1) := by decide +kernel
theorem dX9_keepsGuesses_3 : decode cX9_keepsGuesses 3 = .ok (.aload_n 1, 1) := by decide +kernel
theorem dX9_keepsGuesses_4 : decode cX9_keepsGuesses 4 = .ok (.iconst 3, 1) := by decide +kernel
theorem dX9_keepsGuesses_5 : decode cX9_keepsGuesses 5 = .ok (.iaload, 1) := by decide +kernel
theorem dX9_keepsGuesses_6 : decode cX9_keepsGuesses 6 = .ok (.if_icmp .ge 29, 3) := by decide +kernel
theorem dX9_keepsGuesses_9 : decode cX9_keepsGuesses 9 = .ok (.aload_n 0, 1) := by decide +kernel
theorem dX9_keepsGuesses_10 : decode cX9_keepsGuesses 10 = .ok (.getfield 50, 3) := by decide +kernel
theorem dX9_keepsGuesses_13 : decode cX9_keepsGuesses 13 = .ok (.bipush 12, 2) := by decide +kernel
theorem dX9_keepsGuesses_15 : decode cX9_keepsGuesses 15 = .ok (.iload_n 2, 1) := by decide +kernel
theorem dX9_keepsGuesses_16 : decode cX9_keepsGuesses 16 = .ok (.imul, 1) := by decide +kernel
theorem dX9_keepsGuesses_17 : decode cX9_keepsGuesses 17 = .ok (.iload_n 3, 1) := by decide +kernel
theorem dX9_keepsGuesses_18 : decode cX9_keepsGuesses 18 = .ok (.iadd, 1) := by decide +kernel
theorem dX9_keepsGuesses_19 : decode cX9_keepsGuesses 19 = .ok (.aload_n 1, 1) := by decide +kernel
theorem dX9_keepsGuesses_20 : decode cX9_keepsGuesses 20 = .ok (.iconst 5, 1) := by decide +kernel
theorem dX9_keepsGuesses_21 : decode cX9_keepsGuesses 21 = .ok (.iconst 4, 1) := by decide +kernel
theorem dX9_keepsGuesses_22 : decode cX9_keepsGuesses 22 = .ok (.iload_n 3, 1) := by decide +kernel
theorem dX9_keepsGuesses_23 : decode cX9_keepsGuesses 23 = .ok (.imul, 1) := by decide +kernel
theorem dX9_keepsGuesses_24 : decode cX9_keepsGuesses 24 = .ok (.iadd, 1) := by decide +kernel
theorem dX9_keepsGuesses_25 : decode cX9_keepsGuesses 25 = .ok (.iconst 2, 1) := by decide +kernel
theorem dX9_keepsGuesses_26 : decode cX9_keepsGuesses 26 = .ok (.iadd, 1) := by decide +kernel
theorem dX9_keepsGuesses_27 : decode cX9_keepsGuesses 27 = .ok (.iaload, 1) := by decide +kernel
theorem dX9_keepsGuesses_28 : decode cX9_keepsGuesses 28 = .ok (.iastore, 1) := by decide +kernel
theorem dX9_keepsGuesses_29 : decode cX9_keepsGuesses 29 = .ok (.iinc 3 1, 3) := by decide +kernel
theorem dX9_keepsGuesses_32 : decode cX9_keepsGuesses 32 = .ok (.goto (-30), 3) := by decide +kernel
theorem dX9_keepsGuesses_35 : decode cX9_keepsGuesses 35 = .ok (.return_, 1) := by decide +kernel
theorem dX9_areGuesses_0 : decode cX9_areGuesses 0 = .ok (.iconst 1, 1) := by decide +kernel
theorem dX9_areGuesses_1 : decode cX9_areGuesses 1 = .ok (.istore_n 3, 1) := by decide +kernel
theorem dX9_areGuesses_2 : decode cX9_areGuesses 2 = .ok (.iconst 0, 1) := by decide +kernel
theorem dX9_areGuesses_3 : decode cX9_areGuesses 3 = .ok (.istore 4, 2) := by decide +kernel
theorem dX9_areGuesses_5 : decode cX9_areGuesses 5 = .ok (.iload 4, 2) := by decide +kernel
theorem dX9_areGuesses_7 : decode cX9_areGuesses 7 = .ok (.aload_n 1, 1) := by decide +kernel
theorem dX9_areGuesses_8 : decode cX9_areGuesses 8 = .ok (.iconst 3, 1) := by decide +kernel
theorem dX9_areGuesses_9 : decode cX9_areGuesses 9 = .ok (.iaload, 1) := by decide +kernel
theorem dX9_areGuesses_10 : decode cX9_areGuesses 10 = .ok (.if_icmp .ge 44, 3) := by decide +kernel
theorem dX9_areGuesses_13 : decode cX9_areGuesses 13 = .ok (.iload_n 3, 1) := by decide +kernel
theorem dX9_areGuesses_14 : decode cX9_areGuesses 14 = .ok (.ifCond .eq 32, 3) := by decide +kernel
theorem dX9_areGuesses_17 : decode cX9_areGuesses 17 = .ok (.aload_n 0, 1) := by decide +kernel
theorem dX9_areGuesses_18 : decode cX9_areGuesses 18 = .ok (.getfield 50, 3) := by decide +kernel
theorem dX9_areGuesses_21 : decode cX9_areGuesses 21 = .ok (.bipush 12, 2) := by decide +kernel
theorem dX9_areGuesses_23 : decode cX9_areGuesses 23 = .ok (.iload_n 2, 1) := by decide +kernel
theorem dX9_areGuesses_24 : decode cX9_areGuesses 24 = .ok (.imul, 1) := by decide +kernel
theorem dX9_areGuesses_25 : decode cX9_areGuesses 25 = .ok (.iload 4, 2) := by decide +kernel
theorem dX9_areGuesses_27 : decode cX9_areGuesses 27 = .ok (.iadd, 1) := by decide +kernel
theorem dX9_areGuesses_28 : decode cX9_areGuesses 28 = .ok (.iaload, 1) := by decide +kernel
theorem dX9_areGuesses_29 : decode cX9_areGuesses 29 = .ok (.aload_n 1, 1) := by decide +kernel
theorem dX9_areGuesses_30 : decode cX9_areGuesses 30 = .ok (.iconst 5, 1) := by decide +kernel
theorem dX9_areGuesses_31 : decode cX9_areGuesses 31 = .ok (.iconst 4, 1) := by decide +kernel
theorem dX9_areGuesses_32 : decode cX9_areGuesses 32 = .ok (.iload 4, 2) := by decide +kernel
theorem dX9_areGuesses_34 : decode cX9_areGuesses 34 = .ok (.imul, 1) := by decide +kernel
theorem dX9_areGuesses_35 : decode cX9_areGuesses 35 = .ok (.iadd, 1) := by decide +kernel
theorem dX9_areGuesses_36 : decode cX9_areGuesses 36 = .ok (.iconst 2, 1) := by decide +kernel
theorem dX9_areGuesses_37 : decode cX9_areGuesses 37 = .ok (.iadd, 1) := by decide +kernel
theorem dX9_areGuesses_38 : decode cX9_areGuesses 38 = .ok (.iaload, 1) := by decide +kernel
theorem dX9_areGuesses_39 : decode cX9_areGuesses 39 = .ok (.if_icmp .ne 7, 3) := by decide +kernel
theorem dX9_areGuesses_42 : decode cX9_areGuesses 42 = .ok (.iconst 1, 1) := by decide +kernel
theorem dX9_areGuesses_43 : decode cX9_areGuesses 43 = .ok (.goto 4, 3) := by decide +kernel
theorem dX9_areGuesses_46 : decode cX9_areGuesses 46 = .ok (.iconst 0, 1) := by decide +kernel
theorem dX9_areGuesses_47 : decode cX9_areGuesses 47 = .ok (.istore_n 3, 1) := by decide +kernel
theorem dX9_areGuesses_48 : decode cX9_areGuesses 48 = .ok (.iinc 4 1, 3) := by decide +kernel
theorem dX9_areGuesses_51 : decode cX9_areGuesses 51 = .ok (.goto (-46), 3) := by decide +kernel
theorem dX9_areGuesses_54 : decode cX9_areGuesses 54 = .ok (.iload_n 3, 1) := by decide +kernel
theorem dX9_areGuesses_55 : decode cX9_areGuesses 55 = .ok (.ireturn, 1) := by decide +kernel
theorem dX9_freezes_0 : decode cX9_freezes 0 = .ok (.iconst 0, 1) := by decide +kernel
theorem dX9_freezes_1 : decode cX9_freezes 1 = .ok (.istore 4, 2) := by decide +kernel
theorem dX9_freezes_3 : decode cX9_freezes 3 = .ok (.iload 4, 2) := by decide +kernel
theorem dX9_freezes_5 : decode cX9_freezes 5 = .ok (.aload_n 1, 1) := by decide +kernel
theorem dX9_freezes_6 : decode cX9_freezes 6 = .ok (.iconst 3, 1) := by decide +kernel
theorem dX9_freezes_7 : decode cX9_freezes 7 = .ok (.iaload, 1) := by decide +kernel
theorem dX9_freezes_8 : decode cX9_freezes 8 = .ok (.if_icmp .ge 159, 3) := by decide +kernel
theorem dX9_freezes_11 : decode cX9_freezes 11 = .ok (.iconst 5, 1) := by decide +kernel
theorem dX9_freezes_12 : decode cX9_freezes 12 = .ok (.iconst 4, 1) := by decide +kernel
theorem dX9_freezes_13 : decode cX9_freezes 13 = .ok (.iload 4, 2) := by decide +kernel
theorem dX9_freezes_15 : decode cX9_freezes 15 = .ok (.imul, 1) := by decide +kernel
theorem dX9_freezes_16 : decode cX9_freezes 16 = .ok (.iadd, 1) := by decide +kernel
theorem dX9_freezes_17 : decode cX9_freezes 17 = .ok (.istore 5, 2) := by decide +kernel
theorem dX9_freezes_19 : decode cX9_freezes 19 = .ok (.iconst 0, 1) := by decide +kernel
theorem dX9_freezes_20 : decode cX9_freezes 20 = .ok (.istore 6, 2) := by decide +kernel
theorem dX9_freezes_22 : decode cX9_freezes 22 = .ok (.iconst 1, 1) := by decide +kernel
theorem dX9_freezes_23 : decode cX9_freezes 23 = .ok (.istore 7, 2) := by decide +kernel
theorem dX9_freezes_25 : decode cX9_freezes 25 = .ok (.iload_n 2, 1) := by decide +kernel
theorem dX9_freezes_26 : decode cX9_freezes 26 = .ok (.istore 8, 2) := by decide +kernel
theorem dX9_freezes_28 : decode cX9_freezes 28 = .ok (.iload 8, 2) := by decide +kernel
theorem dX9_freezes_30 : decode cX9_freezes 30 = .ok (.iload_n 3, 1) := by decide +kernel
theorem dX9_freezes_31 : decode cX9_freezes 31 = .ok (.if_icmp .ge 108, 3) := by decide +kernel
theorem dX9_freezes_34 : decode cX9_freezes 34 = .ok (.aload_n 1, 1) := by decide +kernel
theorem dX9_freezes_35 : decode cX9_freezes 35 = .ok (.iload 5, 2) := by decide +kernel
theorem dX9_freezes_37 : decode cX9_freezes 37 = .ok (.iaload, 1) := by decide +kernel
theorem dX9_freezes_38 : decode cX9_freezes 38 = .ok (.iconst 3, 1) := by decide +kernel
theorem dX9_freezes_39 : decode cX9_freezes 39 = .ok (.if_icmp .gt 100, 3) := by decide +kernel
theorem dX9_freezes_42 : decode cX9_freezes 42 = .ok (.aload_n 1, 1) := by decide +kernel
theorem dX9_freezes_43 : decode cX9_freezes 43 = .ok (.iload 5, 2) := by decide +kernel
theorem dX9_freezes_45 : decode cX9_freezes 45 = .ok (.iaload, 1) := by decide +kernel
theorem dX9_freezes_46 : decode cX9_freezes 46 = .ok (.aload_n 0, 1) := by decide +kernel
theorem dX9_freezes_47 : decode cX9_freezes 47 = .ok (.getfield 50, 3) := by decide +kernel
theorem dX9_freezes_50 : decode cX9_freezes 50 = .ok (.bipush 12, 2) := by decide +kernel
theorem dX9_freezes_52 : decode cX9_freezes 52 = .ok (.iload 8, 2) := by decide +kernel
theorem dX9_freezes_54 : decode cX9_freezes 54 = .ok (.imul, 1) := by decide +kernel
theorem dX9_freezes_55 : decode cX9_freezes 55 = .ok (.aload_n 1, 1) := by decide +kernel
theorem dX9_freezes_56 : decode cX9_freezes 56 = .ok (.iload 5, 2) := by decide +kernel
theorem dX9_freezes_58 : decode cX9_freezes 58 = .ok (.iconst 1, 1) := by decide +kernel
theorem dX9_freezes_59 : decode cX9_freezes 59 = .ok (.iadd, 1) := by decide +kernel
theorem dX9_freezes_60 : decode cX9_freezes 60 = .ok (.iaload, 1) := by decide +kernel
theorem dX9_freezes_61 : decode cX9_freezes 61 = .ok (.iadd, 1) := by decide +kernel
theorem dX9_freezes_62 : decode cX9_freezes 62 = .ok (.iaload, 1) := by decide +kernel
theorem dX9_freezes_63 : decode cX9_freezes 63 = .ok (.invokestatic 155, 3) := by decide +kernel
theorem dX9_freezes_66 : decode cX9_freezes 66 = .ok (.istore 9, 2) := by decide +kernel
theorem dX9_freezes_68 : decode cX9_freezes 68 = .ok (.iload 9, 2) := by decide +kernel
theorem dX9_freezes_70 : decode cX9_freezes 70 = .ok (.aload_n 1, 1) := by decide +kernel
theorem dX9_freezes_71 : decode cX9_freezes 71 = .ok (.iload 5, 2) := by decide +kernel
theorem dX9_freezes_73 : decode cX9_freezes 73 = .ok (.iconst 3, 1) := by decide +kernel
theorem dX9_freezes_74 : decode cX9_freezes 74 = .ok (.iadd, 1) := by decide +kernel
theorem dX9_freezes_75 : decode cX9_freezes 75 = .ok (.iaload, 1) := by decide +kernel
theorem dX9_freezes_76 : decode cX9_freezes 76 = .ok (.if_icmp .le 8, 3) := by decide +kernel
theorem dX9_freezes_79 : decode cX9_freezes 79 = .ok (.iload 9, 2) := by decide +kernel
theorem dX9_freezes_81 : decode cX9_freezes 81 = .ok (.goto 9, 3) := by decide +kernel
theorem dX9_freezes_84 : decode cX9_freezes 84 = .ok (.aload_n 1, 1) := by decide +kernel
theorem dX9_freezes_85 : decode cX9_freezes 85 = .ok (.iload 5, 2) := by decide +kernel
theorem dX9_freezes_87 : decode cX9_freezes 87 = .ok (.iconst 3, 1) := by decide +kernel
theorem dX9_freezes_88 : decode cX9_freezes 88 = .ok (.iadd, 1) := by decide +kernel
theorem dX9_freezes_89 : decode cX9_freezes 89 = .ok (.iaload, 1) := by decide +kernel
theorem dX9_freezes_90 : decode cX9_freezes 90 = .ok (.istore 9, 2) := by decide +kernel
theorem dX9_freezes_92 : decode cX9_freezes 92 = .ok (.iload 7, 2) := by decide +kernel
theorem dX9_freezes_94 : decode cX9_freezes 94 = .ok (.ifCond .eq 20, 3) := by decide +kernel
theorem dX9_freezes_97 : decode cX9_freezes 97 = .ok (.iload 8, 2) := by decide +kernel
theorem dX9_freezes_99 : decode cX9_freezes 99 = .ok (.iload_n 2, 1) := by decide +kernel
theorem dX9_freezes_100 : decode cX9_freezes 100 = .ok (.if_icmp .eq 10, 3) := by decide +kernel
theorem dX9_freezes_103 : decode cX9_freezes 103 = .ok (.iload 9, 2) := by decide +kernel
theorem dX9_freezes_105 : decode cX9_freezes 105 = .ok (.iload 6, 2) := by decide +kernel
theorem dX9_freezes_107 : decode cX9_freezes 107 = .ok (.if_icmp .ne 7, 3) := by decide +kernel
theorem dX9_freezes_110 : decode cX9_freezes 110 = .ok (.iconst 1, 1) := by decide +kernel
theorem dX9_freezes_111 : decode cX9_freezes 111 = .ok (.goto 4, 3) := by decide +kernel
theorem dX9_freezes_114 : decode cX9_freezes 114 = .ok (.iconst 0, 1) := by decide +kernel
theorem dX9_freezes_115 : decode cX9_freezes 115 = .ok (.istore 7, 2) := by decide +kernel
theorem dX9_freezes_117 : decode cX9_freezes 117 = .ok (.iload 9, 2) := by decide +kernel
theorem dX9_freezes_119 : decode cX9_freezes 119 = .ok (.iload 6, 2) := by decide +kernel
theorem dX9_freezes_121 : decode cX9_freezes 121 = .ok (.if_icmp .le 8, 3) := by decide +kernel
theorem dX9_freezes_124 : decode cX9_freezes 124 = .ok (.iload 9, 2) := by decide +kernel
theorem dX9_freezes_126 : decode cX9_freezes 126 = .ok (.goto 5, 3) := by decide +kernel
theorem dX9_freezes_129 : decode cX9_freezes 129 = .ok (.iload 6, 2) := by decide +kernel
theorem dX9_freezes_131 : decode cX9_freezes 131 = .ok (.istore 6, 2) := by decide +kernel
theorem dX9_freezes_133 : decode cX9_freezes 133 = .ok (.iinc 8 1, 3) := by decide +kernel
theorem dX9_freezes_136 : decode cX9_freezes 136 = .ok (.goto (-108), 3) := by decide +kernel
theorem dX9_freezes_139 : decode cX9_freezes 139 = .ok (.aload_n 1, 1) := by decide +kernel
theorem dX9_freezes_140 : decode cX9_freezes 140 = .ok (.iload 5, 2) := by decide +kernel
theorem dX9_freezes_142 : decode cX9_freezes 142 = .ok (.iconst 3, 1) := by decide +kernel
theorem dX9_freezes_143 : decode cX9_freezes 143 = .ok (.iadd, 1) := by decide +kernel
theorem dX9_freezes_144 : decode cX9_freezes 144 = .ok (.iload 7, 2) := by decide +kernel
theorem dX9_freezes_146 : decode cX9_freezes 146 = .ok (.ifCond .eq 12, 3) := by decide +kernel
theorem dX9_freezes_149 : decode cX9_freezes 149 = .ok (.aload_n 1, 1) := by decide +kernel
theorem dX9_freezes_150 : decode cX9_freezes 150 = .ok (.iload 5, 2) := by decide +kernel
theorem dX9_freezes_152 : decode cX9_freezes 152 = .ok (.iconst 3, 1) := by decide +kernel
theorem dX9_freezes_153 : decode cX9_freezes 153 = .ok (.iadd, 1) := by decide +kernel
theorem dX9_freezes_154 : decode cX9_freezes 154 = .ok (.iaload, 1) := by decide +kernel
theorem dX9_freezes_155 : decode cX9_freezes 155 = .ok (.goto 5, 3) := by decide +kernel
theorem dX9_freezes_158 : decode cX9_freezes 158 = .ok (.iload 6, 2) := by decide +kernel
theorem dX9_freezes_160 : decode cX9_freezes 160 = .ok (.iastore, 1) := by decide +kernel
theorem dX9_freezes_161 : decode cX9_freezes 161 = .ok (.iinc 4 1, 3) := by decide +kernel
theorem dX9_freezes_164 : decode cX9_freezes 164 = .ok (.goto (-161), 3) := by decide +kernel
theorem dX9_freezes_167 : decode cX9_freezes 167 = .ok (.return_, 1) := by decide +kernel
theorem dX9_settles_0 : decode cX9_settles 0 = .ok (.aload_n 0, 1) := by decide +kernel
theorem dX9_settles_1 : decode cX9_settles 1 = .ok (.iconst 0, 1) := by decide +kernel
theorem dX9_settles_2 : decode cX9_settles 2 = .ok (.putfield 166, 3) := by decide +kernel
theorem dX9_settles_5 : decode cX9_settles 5 = .ok (.aload_n 0, 1) := by decide +kernel
theorem dX9_settles_6 : decode cX9_settles 6 = .ok (.iconst 0, 1) := by decide +kernel
theorem dX9_settles_7 : decode cX9_settles 7 = .ok (.putfield 169, 3) := by decide +kernel
theorem dX9_settles_10 : decode cX9_settles 10 = .ok (.aload_n 0, 1) := by decide +kernel
theorem dX9_settles_11 : decode cX9_settles 11 = .ok (.iconst 0, 1) := by decide +kernel
theorem dX9_settles_12 : decode cX9_settles 12 = .ok (.putfield 172, 3) := by decide +kernel
theorem dX9_settles_15 : decode cX9_settles 15 = .ok (.iconst 0, 1) := by decide +kernel
theorem dX9_settles_16 : decode cX9_settles 16 = .ok (.istore_n 2, 1) := by decide +kernel
theorem dX9_settles_17 : decode cX9_settles 17 = .ok (.aload_n 0, 1) := by decide +kernel
theorem dX9_settles_18 : decode cX9_settles 18 = .ok (.aload_n 1, 1) := by decide +kernel
theorem dX9_settles_19 : decode cX9_settles 19 = .ok (.iconst 0, 1) := by decide +kernel
theorem dX9_settles_20 : decode cX9_settles 20 = .ok (.invokevirtual 175, 3) := by decide +kernel
theorem dX9_settles_23 : decode cX9_settles 23 = .ok (.aload_n 0, 1) := by decide +kernel
theorem dX9_settles_24 : decode cX9_settles 24 = .ok (.getfield 166, 3) := by decide +kernel
theorem dX9_settles_27 : decode cX9_settles 27 = .ok (.sipush 200, 3) := by decide +kernel
theorem dX9_settles_30 : decode cX9_settles 30 = .ok (.if_icmp .ge 134, 3) := by decide +kernel
theorem dX9_settles_33 : decode cX9_settles 33 = .ok (.aload_n 0, 1) := by decide +kernel
theorem dX9_settles_34 : decode cX9_settles 34 = .ok (.aload_n 1, 1) := by decide +kernel
theorem dX9_settles_35 : decode cX9_settles 35 = .ok (.invokevirtual 179, 3) := by decide +kernel
theorem dX9_settles_38 : decode cX9_settles 38 = .ok (.ifCond .ne 126, 3) := by decide +kernel
theorem dX9_settles_41 : decode cX9_settles 41 = .ok (.aload_n 0, 1) := by decide +kernel
theorem dX9_settles_42 : decode cX9_settles 42 = .ok (.aload_n 1, 1) := by decide +kernel
theorem dX9_settles_43 : decode cX9_settles 43 = .ok (.invokevirtual 182, 3) := by decide +kernel
theorem dX9_settles_46 : decode cX9_settles 46 = .ok (.pop, 1) := by decide +kernel
theorem dX9_settles_47 : decode cX9_settles 47 = .ok (.aload_n 0, 1) := by decide +kernel
theorem dX9_settles_48 : decode cX9_settles 48 = .ok (.dup, 1) := by decide +kernel
theorem dX9_settles_49 : decode cX9_settles 49 = .ok (.getfield 166, 3) := by decide +kernel
theorem dX9_settles_52 : decode cX9_settles 52 = .ok (.iconst 1, 1) := by decide +kernel
theorem dX9_settles_53 : decode cX9_settles 53 = .ok (.iadd, 1) := by decide +kernel
theorem dX9_settles_54 : decode cX9_settles 54 = .ok (.putfield 166, 3) := by decide +kernel
theorem dX9_settles_57 : decode cX9_settles 57 = .ok (.ldc 56, 2) := by decide +kernel
theorem dX9_settles_59 : decode cX9_settles 59 = .ok (.istore_n 3, 1) := by decide +kernel
theorem dX9_settles_60 : decode cX9_settles 60 = .ok (.iload_n 2, 1) := by decide +kernel
theorem dX9_settles_61 : decode cX9_settles 61 = .ok (.istore 4, 2) := by decide +kernel
theorem dX9_settles_63 : decode cX9_settles 63 = .ok (.iload 4, 2) := by decide +kernel
theorem dX9_settles_65 : decode cX9_settles 65 = .ok (.aload_n 0, 1) := by decide +kernel
theorem dX9_settles_66 : decode cX9_settles 66 = .ok (.getfield 166, 3) := by decide +kernel
theorem dX9_settles_69 : decode cX9_settles 69 = .ok (.iconst 2, 1) := by decide +kernel
theorem dX9_settles_70 : decode cX9_settles 70 = .ok (.isub, 1) := by decide +kernel
theorem dX9_settles_71 : decode cX9_settles 71 = .ok (.if_icmp .gt 26, 3) := by decide +kernel
theorem dX9_settles_74 : decode cX9_settles 74 = .ok (.aload_n 0, 1) := by decide +kernel
theorem dX9_settles_75 : decode cX9_settles 75 = .ok (.aload_n 1, 1) := by decide +kernel
theorem dX9_settles_76 : decode cX9_settles 76 = .ok (.iload 4, 2) := by decide +kernel
theorem dX9_settles_78 : decode cX9_settles 78 = .ok (.invokevirtual 185, 3) := by decide +kernel
theorem dX9_settles_81 : decode cX9_settles 81 = .ok (.ifCond .eq 8, 3) := by decide +kernel
theorem dX9_settles_84 : decode cX9_settles 84 = .ok (.iload 4, 2) := by decide +kernel
theorem dX9_settles_86 : decode cX9_settles 86 = .ok (.goto 4, 3) := by decide +kernel
theorem dX9_settles_89 : decode cX9_settles 89 = .ok (.iload_n 3, 1) := by decide +kernel
theorem dX9_settles_90 : decode cX9_settles 90 = .ok (.istore_n 3, 1) := by decide +kernel
theorem dX9_settles_91 : decode cX9_settles 91 = .ok (.iinc 4 1, 3) := by decide +kernel
theorem dX9_settles_94 : decode cX9_settles 94 = .ok (.goto (-31), 3) := by decide +kernel
theorem dX9_settles_97 : decode cX9_settles 97 = .ok (.aload_n 0, 1) := by decide +kernel
theorem dX9_settles_98 : decode cX9_settles 98 = .ok (.aload_n 1, 1) := by decide +kernel
theorem dX9_settles_99 : decode cX9_settles 99 = .ok (.aload_n 0, 1) := by decide +kernel
theorem dX9_settles_100 : decode cX9_settles 100 = .ok (.getfield 166, 3) := by decide +kernel
theorem dX9_settles_103 : decode cX9_settles 103 = .ok (.invokevirtual 175, 3) := by decide +kernel
theorem dX9_settles_106 : decode cX9_settles 106 = .ok (.iload_n 3, 1) := by decide +kernel
theorem dX9_settles_107 : decode cX9_settles 107 = .ok (.ldc 56, 2) := by decide +kernel
theorem dX9_settles_109 : decode cX9_settles 109 = .ok (.if_icmp .eq 52, 3) := by decide +kernel
theorem dX9_settles_112 : decode cX9_settles 112 = .ok (.aload_n 0, 1) := by decide +kernel
theorem dX9_settles_113 : decode cX9_settles 113 = .ok (.dup, 1) := by decide +kernel
theorem dX9_settles_114 : decode cX9_settles 114 = .ok (.getfield 169, 3) := by decide +kernel
theorem dX9_settles_117 : decode cX9_settles 117 = .ok (.iconst 1, 1) := by decide +kernel
theorem dX9_settles_118 : decode cX9_settles 118 = .ok (.iadd, 1) := by decide +kernel
theorem dX9_settles_119 : decode cX9_settles 119 = .ok (.putfield 169, 3) := by decide +kernel
theorem dX9_settles_122 : decode cX9_settles 122 = .ok (.aload_n 0, 1) := by decide +kernel
theorem dX9_settles_123 : decode cX9_settles 123 = .ok (.aload_n 0, 1) := by decide +kernel
theorem dX9_settles_124 : decode cX9_settles 124 = .ok (.getfield 172, 3) := by decide +kernel
theorem dX9_settles_127 : decode cX9_settles 127 = .ok (.ifCond .ne 12, 3) := by decide +kernel
theorem dX9_settles_130 : decode cX9_settles 130 = .ok (.aload_n 0, 1) := by decide +kernel
theorem dX9_settles_131 : decode cX9_settles 131 = .ok (.getfield 166, 3) := by decide +kernel
theorem dX9_settles_134 : decode cX9_settles 134 = .ok (.iload_n 3, 1) := by decide +kernel
theorem dX9_settles_135 : decode cX9_settles 135 = .ok (.isub, 1) := by decide +kernel
theorem dX9_settles_136 : decode cX9_settles 136 = .ok (.goto 7, 3) := by decide +kernel
theorem dX9_settles_139 : decode cX9_settles 139 = .ok (.aload_n 0, 1) := by decide +kernel
theorem dX9_settles_140 : decode cX9_settles 140 = .ok (.getfield 172, 3) := by decide +kernel
theorem dX9_settles_143 : decode cX9_settles 143 = .ok (.putfield 172, 3) := by decide +kernel
theorem dX9_settles_146 : decode cX9_settles 146 = .ok (.aload_n 0, 1) := by decide +kernel
theorem dX9_settles_147 : decode cX9_settles 147 = .ok (.aload_n 1, 1) := by decide +kernel
theorem dX9_settles_148 : decode cX9_settles 148 = .ok (.iload_n 3, 1) := by decide +kernel
theorem dX9_settles_149 : decode cX9_settles 149 = .ok (.aload_n 0, 1) := by decide +kernel
theorem dX9_settles_150 : decode cX9_settles 150 = .ok (.getfield 166, 3) := by decide +kernel
theorem dX9_settles_153 : decode cX9_settles 153 = .ok (.invokevirtual 189, 3) := by decide +kernel
theorem dX9_settles_156 : decode cX9_settles 156 = .ok (.aload_n 0, 1) := by decide +kernel
theorem dX9_settles_157 : decode cX9_settles 157 = .ok (.getfield 166, 3) := by decide +kernel
theorem dX9_settles_160 : decode cX9_settles 160 = .ok (.istore_n 2, 1) := by decide +kernel
theorem dX9_settles_161 : decode cX9_settles 161 = .ok (.goto (-138), 3) := by decide +kernel
theorem dX9_settles_164 : decode cX9_settles 164 = .ok (.return_, 1) := by decide +kernel
theorem dX9_notes_0 : decode cX9_notes 0 = .ok (.aload_n 0, 1) := by decide +kernel
theorem dX9_notes_1 : decode cX9_notes 1 = .ok (.getfield 149, 3) := by decide +kernel
theorem dX9_notes_4 : decode cX9_notes 4 = .ok (.bipush 24, 2) := by decide +kernel
theorem dX9_notes_6 : decode cX9_notes 6 = .ok (.if_icmp .ne 43, 3) := by decide +kernel
theorem dX9_notes_9 : decode cX9_notes 9 = .ok (.iconst 0, 1) := by decide +kernel
theorem dX9_notes_10 : decode cX9_notes 10 = .ok (.istore_n 1, 1) := by decide +kernel
theorem dX9_notes_11 : decode cX9_notes 11 = .ok (.iload_n 1, 1) := by decide +kernel
theorem dX9_notes_12 : decode cX9_notes 12 = .ok (.sipush 1219, 3) := by decide +kernel
theorem dX9_notes_15 : decode cX9_notes 15 = .ok (.if_icmp .ge 24, 3) := by decide +kernel
theorem dX9_notes_18 : decode cX9_notes 18 = .ok (.aload_n 0, 1) := by decide +kernel
theorem dX9_notes_19 : decode cX9_notes 19 = .ok (.getfield 34, 3) := by decide +kernel
theorem dX9_notes_22 : decode cX9_notes 22 = .ok (.iload_n 1, 1) := by decide +kernel
theorem dX9_notes_23 : decode cX9_notes 23 = .ok (.aload_n 0, 1) := by decide +kernel
theorem dX9_notes_24 : decode cX9_notes 24 = .ok (.getfield 34, 3) := by decide +kernel
theorem dX9_notes_27 : decode cX9_notes 27 = .ok (.iload_n 1, 1) := by decide +kernel
theorem dX9_notes_28 : decode cX9_notes 28 = .ok (.bipush 53, 2) := by decide +kernel
theorem dX9_notes_30 : decode cX9_notes 30 = .ok (.iadd, 1) := by decide +kernel
theorem dX9_notes_31 : decode cX9_notes 31 = .ok (.iaload, 1) := by decide +kernel
theorem dX9_notes_32 : decode cX9_notes 32 = .ok (.iastore, 1) := by decide +kernel
theorem dX9_notes_33 : decode cX9_notes 33 = .ok (.iinc 1 1, 3) := by decide +kernel
theorem dX9_notes_36 : decode cX9_notes 36 = .ok (.goto (-25), 3) := by decide +kernel
theorem dX9_notes_39 : decode cX9_notes 39 = .ok (.aload_n 0, 1) := by decide +kernel
theorem dX9_notes_40 : decode cX9_notes 40 = .ok (.dup, 1) := by decide +kernel
theorem dX9_notes_41 : decode cX9_notes 41 = .ok (.getfield 149, 3) := by decide +kernel
theorem dX9_notes_44 : decode cX9_notes 44 = .ok (.iconst 1, 1) := by decide +kernel
theorem dX9_notes_45 : decode cX9_notes 45 = .ok (.isub, 1) := by decide +kernel
theorem dX9_notes_46 : decode cX9_notes 46 = .ok (.putfield 149, 3) := by decide +kernel
theorem dX9_notes_49 : decode cX9_notes 49 = .ok (.aload_n 0, 1) := by decide +kernel
theorem dX9_notes_50 : decode cX9_notes 50 = .ok (.getfield 25, 3) := by decide +kernel
theorem dX9_notes_53 : decode cX9_notes 53 = .ok (.iconst 0, 1) := by decide +kernel
theorem dX9_notes_54 : decode cX9_notes 54 = .ok (.aload_n 0, 1) := by decide +kernel
theorem dX9_notes_55 : decode cX9_notes 55 = .ok (.getfield 34, 3) := by decide +kernel
theorem dX9_notes_58 : decode cX9_notes 58 = .ok (.bipush 53, 2) := by decide +kernel
theorem dX9_notes_60 : decode cX9_notes 60 = .ok (.aload_n 0, 1) := by decide +kernel
theorem dX9_notes_61 : decode cX9_notes 61 = .ok (.getfield 149, 3) := by decide +kernel
theorem dX9_notes_64 : decode cX9_notes 64 = .ok (.imul, 1) := by decide +kernel
theorem dX9_notes_65 : decode cX9_notes 65 = .ok (.invokestatic 145, 3) := by decide +kernel
theorem dX9_notes_68 : decode cX9_notes 68 = .ok (.aload_n 0, 1) := by decide +kernel
theorem dX9_notes_69 : decode cX9_notes 69 = .ok (.dup, 1) := by decide +kernel
theorem dX9_notes_70 : decode cX9_notes 70 = .ok (.getfield 149, 3) := by decide +kernel
theorem dX9_notes_73 : decode cX9_notes 73 = .ok (.iconst 1, 1) := by decide +kernel
theorem dX9_notes_74 : decode cX9_notes 74 = .ok (.iadd, 1) := by decide +kernel
theorem dX9_notes_75 : decode cX9_notes 75 = .ok (.putfield 149, 3) := by decide +kernel
theorem dX9_notes_78 : decode cX9_notes 78 = .ok (.return_, 1) := by decide +kernel
theorem dX9_round_0 : decode cX9_round 0 = .ok (.aload_n 0, 1) := by decide +kernel
theorem dX9_round_1 : decode cX9_round 1 = .ok (.invokevirtual 191, 3) := by decide +kernel
theorem dX9_round_4 : decode cX9_round 4 = .ok (.ifCond .ne 6, 3) := by decide +kernel
theorem dX9_round_7 : decode cX9_round 7 = .ok (.ldc 194, 2) := by decide +kernel
theorem dX9_round_9 : decode cX9_round 9 = .ok (.ireturn, 1) := by decide +kernel
theorem dX9_round_10 : decode cX9_round 10 = .ok (.aload_n 0, 1) := by decide +kernel
theorem dX9_round_11 : decode cX9_round 11 = .ok (.getfield 25, 3) := by decide +kernel
theorem dX9_round_14 : decode cX9_round 14 = .ok (.iconst 4, 1) := by decide +kernel
theorem dX9_round_15 : decode cX9_round 15 = .ok (.iaload, 1) := by decide +kernel
theorem dX9_round_16 : decode cX9_round 16 = .ok (.sipush 9999, 3) := by decide +kernel
theorem dX9_round_19 : decode cX9_round 19 = .ok (.if_icmp .ne 6, 3) := by decide +kernel
theorem dX9_round_22 : decode cX9_round 22 = .ok (.ldc 91, 2) := by decide +kernel
theorem dX9_round_24 : decode cX9_round 24 = .ok (.ireturn, 1) := by decide +kernel
theorem dX9_round_25 : decode cX9_round 25 = .ok (.aload_n 0, 1) := by decide +kernel
theorem dX9_round_26 : decode cX9_round 26 = .ok (.invokevirtual 195, 3) := by decide +kernel
theorem dX9_round_29 : decode cX9_round 29 = .ok (.aload_n 0, 1) := by decide +kernel
theorem dX9_round_30 : decode cX9_round 30 = .ok (.aload_n 0, 1) := by decide +kernel
theorem dX9_round_31 : decode cX9_round 31 = .ok (.getfield 25, 3) := by decide +kernel
theorem dX9_round_34 : decode cX9_round 34 = .ok (.invokevirtual 182, 3) := by decide +kernel
theorem dX9_round_37 : decode cX9_round 37 = .ok (.ireturn, 1) := by decide +kernel
theorem dX9_settle_0 : decode cX9_settle 0 = .ok (.aload_n 0, 1) := by decide +kernel
theorem dX9_settle_1 : decode cX9_settle 1 = .ok (.invokevirtual 191, 3) := by decide +kernel
theorem dX9_settle_4 : decode cX9_settle 4 = .ok (.ifCond .ne 6, 3) := by decide +kernel
theorem dX9_settle_7 : decode cX9_settle 7 = .ok (.ldc 194, 2) := by decide +kernel
theorem dX9_settle_9 : decode cX9_settle 9 = .ok (.ireturn, 1) := by decide +kernel
theorem dX9_settle_10 : decode cX9_settle 10 = .ok (.aload_n 0, 1) := by decide +kernel
theorem dX9_settle_11 : decode cX9_settle 11 = .ok (.getfield 25, 3) := by decide +kernel
theorem dX9_settle_14 : decode cX9_settle 14 = .ok (.iconst 0, 1) := by decide +kernel
theorem dX9_settle_15 : decode cX9_settle 15 = .ok (.aload_n 0, 1) := by decide +kernel
theorem dX9_settle_16 : decode cX9_settle 16 = .ok (.getfield 31, 3) := by decide +kernel
theorem dX9_settle_19 : decode cX9_settle 19 = .ok (.iconst 0, 1) := by decide +kernel
theorem dX9_settle_20 : decode cX9_settle 20 = .ok (.invokestatic 145, 3) := by decide +kernel
theorem dX9_settle_23 : decode cX9_settle 23 = .ok (.aload_n 0, 1) := by decide +kernel
theorem dX9_settle_24 : decode cX9_settle 24 = .ok (.aload_n 0, 1) := by decide +kernel
theorem dX9_settle_25 : decode cX9_settle 25 = .ok (.getfield 31, 3) := by decide +kernel
theorem dX9_settle_28 : decode cX9_settle 28 = .ok (.invokevirtual 198, 3) := by decide +kernel
theorem dX9_settle_31 : decode cX9_settle 31 = .ok (.aload_n 0, 1) := by decide +kernel
theorem dX9_settle_32 : decode cX9_settle 32 = .ok (.getfield 31, 3) := by decide +kernel
theorem dX9_settle_35 : decode cX9_settle 35 = .ok (.iconst 4, 1) := by decide +kernel
theorem dX9_settle_36 : decode cX9_settle 36 = .ok (.iaload, 1) := by decide +kernel
theorem dX9_settle_37 : decode cX9_settle 37 = .ok (.sipush 9999, 3) := by decide +kernel
theorem dX9_settle_40 : decode cX9_settle 40 = .ok (.if_icmp .le 6, 3) := by decide +kernel
theorem dX9_settle_43 : decode cX9_settle 43 = .ok (.ldc 91, 2) := by decide +kernel
theorem dX9_settle_45 : decode cX9_settle 45 = .ok (.ireturn, 1) := by decide +kernel
theorem dX9_settle_46 : decode cX9_settle 46 = .ok (.aload_n 0, 1) := by decide +kernel
theorem dX9_settle_47 : decode cX9_settle 47 = .ok (.invokevirtual 195, 3) := by decide +kernel
theorem dX9_settle_50 : decode cX9_settle 50 = .ok (.aload_n 0, 1) := by decide +kernel
theorem dX9_settle_51 : decode cX9_settle 51 = .ok (.getfield 31, 3) := by decide +kernel
theorem dX9_settle_54 : decode cX9_settle 54 = .ok (.iconst 0, 1) := by decide +kernel
theorem dX9_settle_55 : decode cX9_settle 55 = .ok (.aload_n 0, 1) := by decide +kernel
theorem dX9_settle_56 : decode cX9_settle 56 = .ok (.getfield 25, 3) := by decide +kernel
theorem dX9_settle_59 : decode cX9_settle 59 = .ok (.iconst 0, 1) := by decide +kernel
theorem dX9_settle_60 : decode cX9_settle 60 = .ok (.invokestatic 145, 3) := by decide +kernel
theorem dX9_settle_63 : decode cX9_settle 63 = .ok (.aload_n 0, 1) := by decide +kernel
theorem dX9_settle_64 : decode cX9_settle 64 = .ok (.getfield 166, 3) := by decide +kernel
theorem dX9_settle_67 : decode cX9_settle 67 = .ok (.ireturn, 1) := by decide +kernel
theorem dX9_isNumber_0 : decode cX9_isNumber 0 = .ok (.iload_n 1, 1) := by decide +kernel
theorem dX9_isNumber_1 : decode cX9_isNumber 1 = .ok (.iconst 5, 1) := by decide +kernel
theorem dX9_isNumber_2 : decode cX9_isNumber 2 = .ok (.if_icmp .eq 31, 3) := by decide +kernel
theorem dX9_isNumber_5 : decode cX9_isNumber 5 = .ok (.iload_n 1, 1) := by decide +kernel
theorem dX9_isNumber_6 : decode cX9_isNumber 6 = .ok (.iconst 4, 1) := by decide +kernel
theorem dX9_isNumber_7 : decode cX9_isNumber 7 = .ok (.if_icmp .ne 13, 3) := by decide +kernel
theorem dX9_isNumber_10 : decode cX9_isNumber 10 = .ok (.iload_n 2, 1) := by decide +kernel
theorem dX9_isNumber_11 : decode cX9_isNumber 11 = .ok (.iconst 1, 1) := by decide +kernel
theorem dX9_isNumber_12 : decode cX9_isNumber 12 = .ok (.bipush 20, 2) := by decide +kernel
theorem dX9_isNumber_14 : decode cX9_isNumber 14 = .ok (.invokestatic 62, 3) := by decide +kernel
theorem dX9_isNumber_17 : decode cX9_isNumber 17 = .ok (.ifCond .ne 16, 3) := by decide +kernel
theorem dX9_isNumber_20 : decode cX9_isNumber 20 = .ok (.iload_n 1, 1) := by decide +kernel
theorem dX9_isNumber_21 : decode cX9_isNumber 21 = .ok (.iconst 3, 1) := by decide +kernel
theorem dX9_isNumber_22 : decode cX9_isNumber 22 = .ok (.if_icmp .gt 15, 3) := by decide +kernel
theorem dX9_isNumber_25 : decode cX9_isNumber 25 = .ok (.aload_n 0, 1) := by decide +kernel
theorem dX9_isNumber_26 : decode cX9_isNumber 26 = .ok (.iload_n 2, 1) := by decide +kernel
theorem dX9_isNumber_27 : decode cX9_isNumber 27 = .ok (.invokevirtual 202, 3) := by decide +kernel
theorem dX9_isNumber_30 : decode cX9_isNumber 30 = .ok (.ifCond .eq 7, 3) := by decide +kernel
theorem dX9_isNumber_33 : decode cX9_isNumber 33 = .ok (.iconst 1, 1) := by decide +kernel
theorem dX9_isNumber_34 : decode cX9_isNumber 34 = .ok (.goto 4, 3) := by decide +kernel
theorem dX9_isNumber_37 : decode cX9_isNumber 37 = .ok (.iconst 0, 1) := by decide +kernel
theorem dX9_isNumber_38 : decode cX9_isNumber 38 = .ok (.ireturn, 1) := by decide +kernel
theorem dX9_number_0 : decode cX9_number 0 = .ok (.aload_n 0, 1) := by decide +kernel
theorem dX9_number_1 : decode cX9_number 1 = .ok (.iload_n 1, 1) := by decide +kernel
theorem dX9_number_2 : decode cX9_number 2 = .ok (.invokevirtual 202, 3) := by decide +kernel
theorem dX9_number_5 : decode cX9_number 5 = .ok (.ifCond .eq 35, 3) := by decide +kernel
theorem dX9_number_8 : decode cX9_number 8 = .ok (.aload_n 0, 1) := by decide +kernel
theorem dX9_number_9 : decode cX9_number 9 = .ok (.getfield 25, 3) := by decide +kernel
theorem dX9_number_12 : decode cX9_number 12 = .ok (.iconst 5, 1) := by decide +kernel
theorem dX9_number_13 : decode cX9_number 13 = .ok (.iconst 4, 1) := by decide +kernel
theorem dX9_number_14 : decode cX9_number 14 = .ok (.iload_n 1, 1) := by decide +kernel
theorem dX9_number_15 : decode cX9_number 15 = .ok (.imul, 1) := by decide +kernel
theorem dX9_number_16 : decode cX9_number 16 = .ok (.iadd, 1) := by decide +kernel
theorem dX9_number_17 : decode cX9_number 17 = .ok (.iaload, 1) := by decide +kernel
theorem dX9_number_18 : decode cX9_number 18 = .ok (.iconst 5, 1) := by decide +kernel
theorem dX9_number_19 : decode cX9_number 19 = .ok (.if_icmp .eq 21, 3) := by decide +kernel
theorem dX9_number_22 : decode cX9_number 22 = .ok (.aload_n 0, 1) := by decide +kernel
theorem dX9_number_23 : decode cX9_number 23 = .ok (.aload_n 0, 1) := by decide +kernel
theorem dX9_number_24 : decode cX9_number 24 = .ok (.getfield 25, 3) := by decide +kernel
theorem dX9_number_27 : decode cX9_number 27 = .ok (.iconst 5, 1) := by decide +kernel
theorem dX9_number_28 : decode cX9_number 28 = .ok (.iconst 4, 1) := by decide +kernel
theorem dX9_number_29 : decode cX9_number 29 = .ok (.iload_n 1, 1) := by decide +kernel
theorem dX9_number_30 : decode cX9_number 30 = .ok (.imul, 1) := by decide +kernel
theorem dX9_number_31 : decode cX9_number 31 = .ok (.iadd, 1) := by decide +kernel
theorem dX9_number_32 : decode cX9_number 32 = .ok (.iaload, 1) := by decide +kernel
theorem dX9_number_33 : decode cX9_number 33 = .ok (.iload_n 2, 1) := by decide +kernel
theorem dX9_number_34 : decode cX9_number 34 = .ok (.invokevirtual 205, 3) := by decide +kernel
theorem dX9_number_37 : decode cX9_number 37 = .ok (.ifCond .ne 6, 3) := by decide +kernel
theorem dX9_number_40 : decode cX9_number 40 = .ok (.ldc 70, 2) := by decide +kernel
theorem dX9_number_42 : decode cX9_number 42 = .ok (.ireturn, 1) := by decide +kernel
theorem dX9_number_43 : decode cX9_number 43 = .ok (.aload_n 0, 1) := by decide +kernel
theorem dX9_number_44 : decode cX9_number 44 = .ok (.invokevirtual 195, 3) := by decide +kernel
theorem dX9_number_47 : decode cX9_number 47 = .ok (.aload_n 0, 1) := by decide +kernel
theorem dX9_number_48 : decode cX9_number 48 = .ok (.getfield 25, 3) := by decide +kernel
theorem dX9_number_51 : decode cX9_number 51 = .ok (.iconst 5, 1) := by decide +kernel
theorem dX9_number_52 : decode cX9_number 52 = .ok (.iconst 4, 1) := by decide +kernel
theorem dX9_number_53 : decode cX9_number 53 = .ok (.iload_n 1, 1) := by decide +kernel
theorem dX9_number_54 : decode cX9_number 54 = .ok (.imul, 1) := by decide +kernel
theorem dX9_number_55 : decode cX9_number 55 = .ok (.iadd, 1) := by decide +kernel
theorem dX9_number_56 : decode cX9_number 56 = .ok (.iconst 1, 1) := by decide +kernel
theorem dX9_number_57 : decode cX9_number 57 = .ok (.iadd, 1) := by decide +kernel
theorem dX9_number_58 : decode cX9_number 58 = .ok (.iaload, 1) := by decide +kernel
theorem dX9_number_59 : decode cX9_number 59 = .ok (.istore_n 3, 1) := by decide +kernel
theorem dX9_number_60 : decode cX9_number 60 = .ok (.aload_n 0, 1) := by decide +kernel
theorem dX9_number_61 : decode cX9_number 61 = .ok (.getfield 25, 3) := by decide +kernel
theorem dX9_number_64 : decode cX9_number 64 = .ok (.iconst 5, 1) := by decide +kernel
theorem dX9_number_65 : decode cX9_number 65 = .ok (.iconst 4, 1) := by decide +kernel
theorem dX9_number_66 : decode cX9_number 66 = .ok (.iload_n 1, 1) := by decide +kernel
theorem dX9_number_67 : decode cX9_number 67 = .ok (.imul, 1) := by decide +kernel
theorem dX9_number_68 : decode cX9_number 68 = .ok (.iadd, 1) := by decide +kernel
theorem dX9_number_69 : decode cX9_number 69 = .ok (.iconst 1, 1) := by decide +kernel
theorem dX9_number_70 : decode cX9_number 70 = .ok (.iadd, 1) := by decide +kernel
theorem dX9_number_71 : decode cX9_number 71 = .ok (.iload_n 2, 1) := by decide +kernel
theorem dX9_number_72 : decode cX9_number 72 = .ok (.iastore, 1) := by decide +kernel
theorem dX9_number_73 : decode cX9_number 73 = .ok (.iload_n 3, 1) := by decide +kernel
theorem dX9_number_74 : decode cX9_number 74 = .ok (.ireturn, 1) := by decide +kernel
theorem dX9_rule_0 : decode cX9_rule 0 = .ok (.aload_n 0, 1) := by decide +kernel
theorem dX9_rule_1 : decode cX9_rule 1 = .ok (.invokevirtual 191, 3) := by decide +kernel
theorem dX9_rule_4 : decode cX9_rule 4 = .ok (.ifCond .ne 6, 3) := by decide +kernel
theorem dX9_rule_7 : decode cX9_rule 7 = .ok (.ldc 194, 2) := by decide +kernel
theorem dX9_rule_9 : decode cX9_rule 9 = .ok (.ireturn, 1) := by decide +kernel
theorem dX9_rule_10 : decode cX9_rule 10 = .ok (.iload_n 1, 1) := by decide +kernel
theorem dX9_rule_11 : decode cX9_rule 11 = .ok (.ifCond .ne 13, 3) := by decide +kernel
theorem dX9_rule_14 : decode cX9_rule 14 = .ok (.iload_n 2, 1) := by decide +kernel
theorem dX9_rule_15 : decode cX9_rule 15 = .ok (.iconst 4, 1) := by decide +kernel
theorem dX9_rule_16 : decode cX9_rule 16 = .ok (.bipush 20, 2) := by decide +kernel
theorem dX9_rule_18 : decode cX9_rule 18 = .ok (.invokestatic 62, 3) := by decide +kernel
theorem dX9_rule_21 : decode cX9_rule 21 = .ok (.ifCond .ne 32, 3) := by decide +kernel
theorem dX9_rule_24 : decode cX9_rule 24 = .ok (.iload_n 1, 1) := by decide +kernel
theorem dX9_rule_25 : decode cX9_rule 25 = .ok (.iconst 1, 1) := by decide +kernel
theorem dX9_rule_26 : decode cX9_rule 26 = .ok (.if_icmp .ne 12, 3) := by decide +kernel
theorem dX9_rule_29 : decode cX9_rule 29 = .ok (.iload_n 2, 1) := by decide +kernel
theorem dX9_rule_30 : decode cX9_rule 30 = .ok (.iconst 1, 1) := by decide +kernel
theorem dX9_rule_31 : decode cX9_rule 31 = .ok (.iconst 5, 1) := by decide +kernel
theorem dX9_rule_32 : decode cX9_rule 32 = .ok (.invokestatic 62, 3) := by decide +kernel
theorem dX9_rule_35 : decode cX9_rule 35 = .ok (.ifCond .ne 18, 3) := by decide +kernel
theorem dX9_rule_38 : decode cX9_rule 38 = .ok (.iload_n 1, 1) := by decide +kernel
theorem dX9_rule_39 : decode cX9_rule 39 = .ok (.iconst 2, 1) := by decide +kernel
theorem dX9_rule_40 : decode cX9_rule 40 = .ok (.if_icmp .ne 17, 3) := by decide +kernel
theorem dX9_rule_43 : decode cX9_rule 43 = .ok (.iload_n 2, 1) := by decide +kernel
theorem dX9_rule_44 : decode cX9_rule 44 = .ok (.iconst 1, 1) := by decide +kernel
theorem dX9_rule_45 : decode cX9_rule 45 = .ok (.bipush 87, 2) := by decide +kernel
theorem dX9_rule_47 : decode cX9_rule 47 = .ok (.invokestatic 62, 3) := by decide +kernel
theorem dX9_rule_50 : decode cX9_rule 50 = .ok (.ifCond .eq 7, 3) := by decide +kernel
theorem dX9_rule_53 : decode cX9_rule 53 = .ok (.iconst 1, 1) := by decide +kernel
theorem dX9_rule_54 : decode cX9_rule 54 = .ok (.goto 4, 3) := by decide +kernel
theorem dX9_rule_57 : decode cX9_rule 57 = .ok (.iconst 0, 1) := by decide +kernel
theorem dX9_rule_58 : decode cX9_rule 58 = .ok (.istore_n 3, 1) := by decide +kernel
theorem dX9_rule_59 : decode cX9_rule 59 = .ok (.iload_n 3, 1) := by decide +kernel
theorem dX9_rule_60 : decode cX9_rule 60 = .ok (.ifCond .ne 6, 3) := by decide +kernel
theorem dX9_rule_63 : decode cX9_rule 63 = .ok (.ldc 70, 2) := by decide +kernel
theorem dX9_rule_65 : decode cX9_rule 65 = .ok (.ireturn, 1) := by decide +kernel
theorem dX9_rule_66 : decode cX9_rule 66 = .ok (.aload_n 0, 1) := by decide +kernel
theorem dX9_rule_67 : decode cX9_rule 67 = .ok (.invokevirtual 195, 3) := by decide +kernel
theorem dX9_rule_70 : decode cX9_rule 70 = .ok (.aload_n 0, 1) := by decide +kernel
theorem dX9_rule_71 : decode cX9_rule 71 = .ok (.getfield 25, 3) := by decide +kernel
theorem dX9_rule_74 : decode cX9_rule 74 = .ok (.iload_n 1, 1) := by decide +kernel
theorem dX9_rule_75 : decode cX9_rule 75 = .ok (.iaload, 1) := by decide +kernel
theorem dX9_rule_76 : decode cX9_rule 76 = .ok (.istore 4, 2) := by decide +kernel
theorem dX9_rule_78 : decode cX9_rule 78 = .ok (.aload_n 0, 1) := by decide +kernel
theorem dX9_rule_79 : decode cX9_rule 79 = .ok (.getfield 25, 3) := by decide +kernel
theorem dX9_rule_82 : decode cX9_rule 82 = .ok (.iload_n 1, 1) := by decide +kernel
theorem dX9_rule_83 : decode cX9_rule 83 = .ok (.iload_n 2, 1) := by decide +kernel
theorem dX9_rule_84 : decode cX9_rule 84 = .ok (.iastore, 1) := by decide +kernel
theorem dX9_rule_85 : decode cX9_rule 85 = .ok (.iload 4, 2) := by decide +kernel
theorem dX9_rule_87 : decode cX9_rule 87 = .ok (.ireturn, 1) := by decide +kernel
theorem dX9_frozenOnes_0 : decode cX9_frozenOnes 0 = .ok (.iconst 0, 1) := by decide +kernel
theorem dX9_frozenOnes_1 : decode cX9_frozenOnes 1 = .ok (.istore_n 1, 1) := by decide +kernel
theorem dX9_frozenOnes_2 : decode cX9_frozenOnes 2 = .ok (.iconst 0, 1) := by decide +kernel
theorem dX9_frozenOnes_3 : decode cX9_frozenOnes 3 = .ok (.istore_n 2, 1) := by decide +kernel
theorem dX9_frozenOnes_4 : decode cX9_frozenOnes 4 = .ok (.iload_n 2, 1) := by decide +kernel
theorem dX9_frozenOnes_5 : decode cX9_frozenOnes 5 = .ok (.aload_n 0, 1) := by decide +kernel
theorem dX9_frozenOnes_6 : decode cX9_frozenOnes 6 = .ok (.iconst 3, 1) := by decide +kernel
theorem dX9_frozenOnes_7 : decode cX9_frozenOnes 7 = .ok (.iaload, 1) := by decide +kernel
theorem dX9_frozenOnes_8 : decode cX9_frozenOnes 8 = .ok (.if_icmp .ge 31, 3) := by decide +kernel
theorem dX9_frozenOnes_11 : decode cX9_frozenOnes 11 = .ok (.iload_n 1, 1) := by decide +kernel
theorem dX9_frozenOnes_12 : decode cX9_frozenOnes 12 = .ok (.aload_n 0, 1) := by decide +kernel
theorem dX9_frozenOnes_13 : decode cX9_frozenOnes 13 = .ok (.iconst 5, 1) := by decide +kernel
theorem dX9_frozenOnes_14 : decode cX9_frozenOnes 14 = .ok (.iconst 4, 1) := by decide +kernel
theorem dX9_frozenOnes_15 : decode cX9_frozenOnes 15 = .ok (.iload_n 2, 1) := by decide +kernel
theorem dX9_frozenOnes_16 : decode cX9_frozenOnes 16 = .ok (.imul, 1) := by decide +kernel
theorem dX9_frozenOnes_17 : decode cX9_frozenOnes 17 = .ok (.iadd, 1) := by decide +kernel
theorem dX9_frozenOnes_18 : decode cX9_frozenOnes 18 = .ok (.iconst 3, 1) := by decide +kernel
theorem dX9_frozenOnes_19 : decode cX9_frozenOnes 19 = .ok (.iadd, 1) := by decide +kernel
theorem dX9_frozenOnes_20 : decode cX9_frozenOnes 20 = .ok (.iaload, 1) := by decide +kernel
theorem dX9_frozenOnes_21 : decode cX9_frozenOnes 21 = .ok (.ifCond .le 9, 3) := by decide +kernel
theorem dX9_frozenOnes_24 : decode cX9_frozenOnes 24 = .ok (.iconst 1, 1) := by decide +kernel
theorem dX9_frozenOnes_25 : decode cX9_frozenOnes 25 = .ok (.iload_n 2, 1) := by decide +kernel
theorem dX9_frozenOnes_26 : decode cX9_frozenOnes 26 = .ok (.ishl, 1) := by decide +kernel
theorem dX9_frozenOnes_27 : decode cX9_frozenOnes 27 = .ok (.goto 4, 3) := by decide +kernel
theorem dX9_frozenOnes_30 : decode cX9_frozenOnes 30 = .ok (.iconst 0, 1) := by decide +kernel
theorem dX9_frozenOnes_31 : decode cX9_frozenOnes 31 = .ok (.ior, 1) := by decide +kernel
theorem dX9_frozenOnes_32 : decode cX9_frozenOnes 32 = .ok (.istore_n 1, 1) := by decide +kernel
theorem dX9_frozenOnes_33 : decode cX9_frozenOnes 33 = .ok (.iinc 2 1, 3) := by decide +kernel
theorem dX9_frozenOnes_36 : decode cX9_frozenOnes 36 = .ok (.goto (-32), 3) := by decide +kernel
theorem dX9_frozenOnes_39 : decode cX9_frozenOnes 39 = .ok (.iload_n 1, 1) := by decide +kernel
theorem dX9_frozenOnes_40 : decode cX9_frozenOnes 40 = .ok (.ireturn, 1) := by decide +kernel
theorem dX9_ones_0 : decode cX9_ones 0 = .ok (.iconst 0, 1) := by decide +kernel
theorem dX9_ones_1 : decode cX9_ones 1 = .ok (.istore_n 1, 1) := by decide +kernel
theorem dX9_ones_2 : decode cX9_ones 2 = .ok (.iconst 0, 1) := by decide +kernel
theorem dX9_ones_3 : decode cX9_ones 3 = .ok (.istore_n 2, 1) := by decide +kernel
theorem dX9_ones_4 : decode cX9_ones 4 = .ok (.iload_n 2, 1) := by decide +kernel
theorem dX9_ones_5 : decode cX9_ones 5 = .ok (.bipush 12, 2) := by decide +kernel
theorem dX9_ones_7 : decode cX9_ones 7 = .ok (.if_icmp .ge 17, 3) := by decide +kernel
theorem dX9_ones_10 : decode cX9_ones 10 = .ok (.iload_n 1, 1) := by decide +kernel
theorem dX9_ones_11 : decode cX9_ones 11 = .ok (.iload_n 0, 1) := by decide +kernel
theorem dX9_ones_12 : decode cX9_ones 12 = .ok (.iload_n 2, 1) := by decide +kernel
theorem dX9_ones_13 : decode cX9_ones 13 = .ok (.ishr, 1) := by decide +kernel
theorem dX9_ones_14 : decode cX9_ones 14 = .ok (.iconst 1, 1) := by decide +kernel
theorem dX9_ones_15 : decode cX9_ones 15 = .ok (.iand, 1) := by decide +kernel
theorem dX9_ones_16 : decode cX9_ones 16 = .ok (.iadd, 1) := by decide +kernel
theorem dX9_ones_17 : decode cX9_ones 17 = .ok (.istore_n 1, 1) := by decide +kernel
theorem dX9_ones_18 : decode cX9_ones 18 = .ok (.iinc 2 1, 3) := by decide +kernel
theorem dX9_ones_21 : decode cX9_ones 21 = .ok (.goto (-17), 3) := by decide +kernel
theorem dX9_ones_24 : decode cX9_ones 24 = .ok (.iload_n 1, 1) := by decide +kernel
theorem dX9_ones_25 : decode cX9_ones 25 = .ok (.ireturn, 1) := by decide +kernel
theorem dX9_anew_0 : decode cX9_anew 0 = .ok (.aload_n 0, 1) := by decide +kernel
theorem dX9_anew_1 : decode cX9_anew 1 = .ok (.invokevirtual 191, 3) := by decide +kernel
theorem dX9_anew_4 : decode cX9_anew 4 = .ok (.ifCond .ne 6, 3) := by decide +kernel
theorem dX9_anew_7 : decode cX9_anew 7 = .ok (.ldc 194, 2) := by decide +kernel
theorem dX9_anew_9 : decode cX9_anew 9 = .ok (.ireturn, 1) := by decide +kernel
theorem dX9_anew_10 : decode cX9_anew 10 = .ok (.aload_n 0, 1) := by decide +kernel
theorem dX9_anew_11 : decode cX9_anew 11 = .ok (.invokevirtual 195, 3) := by decide +kernel
theorem dX9_anew_14 : decode cX9_anew 14 = .ok (.aload_n 0, 1) := by decide +kernel
theorem dX9_anew_15 : decode cX9_anew 15 = .ok (.getfield 25, 3) := by decide +kernel
theorem dX9_anew_18 : decode cX9_anew 18 = .ok (.invokestatic 209, 3) := by decide +kernel
theorem dX9_anew_21 : decode cX9_anew 21 = .ok (.invokestatic 212, 3) := by decide +kernel
theorem dX9_anew_24 : decode cX9_anew 24 = .ok (.istore_n 1, 1) := by decide +kernel
theorem dX9_anew_25 : decode cX9_anew 25 = .ok (.aload_n 0, 1) := by decide +kernel
theorem dX9_anew_26 : decode cX9_anew 26 = .ok (.getfield 25, 3) := by decide +kernel
theorem dX9_anew_29 : decode cX9_anew 29 = .ok (.invokestatic 215, 3) := by decide +kernel
theorem dX9_anew_32 : decode cX9_anew 32 = .ok (.iload_n 1, 1) := by decide +kernel
theorem dX9_anew_33 : decode cX9_anew 33 = .ok (.ireturn, 1) := by decide +kernel
theorem dX9_undo_0 : decode cX9_undo 0 = .ok (.aload_n 0, 1) := by decide +kernel
theorem dX9_undo_1 : decode cX9_undo 1 = .ok (.getfield 149, 3) := by decide +kernel
theorem dX9_undo_4 : decode cX9_undo 4 = .ok (.ifCond .ne 6, 3) := by decide +kernel
theorem dX9_undo_7 : decode cX9_undo 7 = .ok (.ldc 194, 2) := by decide +kernel
theorem dX9_undo_9 : decode cX9_undo 9 = .ok (.ireturn, 1) := by decide +kernel
theorem dX9_undo_10 : decode cX9_undo 10 = .ok (.aload_n 0, 1) := by decide +kernel
theorem dX9_undo_11 : decode cX9_undo 11 = .ok (.dup, 1) := by decide +kernel
theorem dX9_undo_12 : decode cX9_undo 12 = .ok (.getfield 149, 3) := by decide +kernel
theorem dX9_undo_15 : decode cX9_undo 15 = .ok (.iconst 1, 1) := by decide +kernel
theorem dX9_undo_16 : decode cX9_undo 16 = .ok (.isub, 1) := by decide +kernel
theorem dX9_undo_17 : decode cX9_undo 17 = .ok (.putfield 149, 3) := by decide +kernel
theorem dX9_undo_20 : decode cX9_undo 20 = .ok (.aload_n 0, 1) := by decide +kernel
theorem dX9_undo_21 : decode cX9_undo 21 = .ok (.getfield 34, 3) := by decide +kernel
theorem dX9_undo_24 : decode cX9_undo 24 = .ok (.bipush 53, 2) := by decide +kernel
theorem dX9_undo_26 : decode cX9_undo 26 = .ok (.aload_n 0, 1) := by decide +kernel
theorem dX9_undo_27 : decode cX9_undo 27 = .ok (.getfield 149, 3) := by decide +kernel
theorem dX9_undo_30 : decode cX9_undo 30 = .ok (.imul, 1) := by decide +kernel
theorem dX9_undo_31 : decode cX9_undo 31 = .ok (.aload_n 0, 1) := by decide +kernel
theorem dX9_undo_32 : decode cX9_undo 32 = .ok (.getfield 25, 3) := by decide +kernel
theorem dX9_undo_35 : decode cX9_undo 35 = .ok (.iconst 0, 1) := by decide +kernel
theorem dX9_undo_36 : decode cX9_undo 36 = .ok (.invokestatic 145, 3) := by decide +kernel
theorem dX9_undo_39 : decode cX9_undo 39 = .ok (.aload_n 0, 1) := by decide +kernel
theorem dX9_undo_40 : decode cX9_undo 40 = .ok (.getfield 149, 3) := by decide +kernel
theorem dX9_undo_43 : decode cX9_undo 43 = .ok (.ireturn, 1) := by decide +kernel
theorem dX9_item_0 : decode cX9_item 0 = .ok (.aload_n 0, 1) := by decide +kernel
theorem dX9_item_1 : decode cX9_item 1 = .ok (.iload_n 1, 1) := by decide +kernel
theorem dX9_item_2 : decode cX9_item 2 = .ok (.invokevirtual 202, 3) := by decide +kernel
theorem dX9_item_5 : decode cX9_item 5 = .ok (.ifCond .ne 6, 3) := by decide +kernel
theorem dX9_item_8 : decode cX9_item 8 = .ok (.ldc 70, 2) := by decide +kernel
theorem dX9_item_10 : decode cX9_item 10 = .ok (.ireturn, 1) := by decide +kernel
theorem dX9_item_11 : decode cX9_item 11 = .ok (.aload_n 0, 1) := by decide +kernel
theorem dX9_item_12 : decode cX9_item 12 = .ok (.aload_n 0, 1) := by decide +kernel
theorem dX9_item_13 : decode cX9_item 13 = .ok (.getfield 25, 3) := by decide +kernel
theorem dX9_item_16 : decode cX9_item 16 = .ok (.ldc 56, 2) := by decide +kernel
theorem dX9_item_18 : decode cX9_item 18 = .ok (.iconst 0, 1) := by decide +kernel
theorem dX9_item_19 : decode cX9_item 19 = .ok (.invokevirtual 162, 3) := by decide +kernel
theorem dX9_item_22 : decode cX9_item 22 = .ok (.iload_n 2, 1) := by decide +kernel
theorem dX9_item_23 : decode cX9_item 23 = .ok (.tableswitch 120 0 6 #[41, 54, 67, 80, 89, 98, 109], 41) := by decide +kernel
theorem dX9_item_64 : decode cX9_item 64 = .ok (.aload_n 0, 1) := by decide +kernel
theorem dX9_item_65 : decode cX9_item 65 = .ok (.getfield 25, 3) := by decide +kernel
theorem dX9_item_68 : decode cX9_item 68 = .ok (.iconst 5, 1) := by decide +kernel
theorem dX9_item_69 : decode cX9_item 69 = .ok (.iconst 4, 1) := by decide +kernel
theorem dX9_item_70 : decode cX9_item 70 = .ok (.iload_n 1, 1) := by decide +kernel
theorem dX9_item_71 : decode cX9_item 71 = .ok (.imul, 1) := by decide +kernel
theorem dX9_item_72 : decode cX9_item 72 = .ok (.iadd, 1) := by decide +kernel
theorem dX9_item_73 : decode cX9_item 73 = .ok (.iconst 1, 1) := by decide +kernel
theorem dX9_item_74 : decode cX9_item 74 = .ok (.iadd, 1) := by decide +kernel
theorem dX9_item_75 : decode cX9_item 75 = .ok (.iaload, 1) := by decide +kernel
theorem dX9_item_76 : decode cX9_item 76 = .ok (.ireturn, 1) := by decide +kernel
theorem dX9_item_77 : decode cX9_item 77 = .ok (.aload_n 0, 1) := by decide +kernel
theorem dX9_item_78 : decode cX9_item 78 = .ok (.getfield 25, 3) := by decide +kernel
theorem dX9_item_81 : decode cX9_item 81 = .ok (.iconst 5, 1) := by decide +kernel
theorem dX9_item_82 : decode cX9_item 82 = .ok (.iconst 4, 1) := by decide +kernel
theorem dX9_item_83 : decode cX9_item 83 = .ok (.iload_n 1, 1) := by decide +kernel
theorem dX9_item_84 : decode cX9_item 84 = .ok (.imul, 1) := by decide +kernel
theorem dX9_item_85 : decode cX9_item 85 = .ok (.iadd, 1) := by decide +kernel
theorem dX9_item_86 : decode cX9_item 86 = .ok (.iconst 2, 1) := by decide +kernel
theorem dX9_item_87 : decode cX9_item 87 = .ok (.iadd, 1) := by decide +kernel
theorem dX9_item_88 : decode cX9_item 88 = .ok (.iaload, 1) := by decide +kernel
theorem dX9_item_89 : decode cX9_item 89 = .ok (.ireturn, 1) := by decide +kernel
theorem dX9_item_90 : decode cX9_item 90 = .ok (.aload_n 0, 1) := by decide +kernel
theorem dX9_item_91 : decode cX9_item 91 = .ok (.getfield 25, 3) := by decide +kernel
theorem dX9_item_94 : decode cX9_item 94 = .ok (.iconst 5, 1) := by decide +kernel
theorem dX9_item_95 : decode cX9_item 95 = .ok (.iconst 4, 1) := by decide +kernel
theorem dX9_item_96 : decode cX9_item 96 = .ok (.iload_n 1, 1) := by decide +kernel
theorem dX9_item_97 : decode cX9_item 97 = .ok (.imul, 1) := by decide +kernel
theorem dX9_item_98 : decode cX9_item 98 = .ok (.iadd, 1) := by decide +kernel
theorem dX9_item_99 : decode cX9_item 99 = .ok (.iconst 3, 1) := by decide +kernel
theorem dX9_item_100 : decode cX9_item 100 = .ok (.iadd, 1) := by decide +kernel
theorem dX9_item_101 : decode cX9_item 101 = .ok (.iaload, 1) := by decide +kernel
theorem dX9_item_102 : decode cX9_item 102 = .ok (.ireturn, 1) := by decide +kernel
theorem dX9_item_103 : decode cX9_item 103 = .ok (.aload_n 0, 1) := by decide +kernel
theorem dX9_item_104 : decode cX9_item 104 = .ok (.getfield 25, 3) := by decide +kernel
theorem dX9_item_107 : decode cX9_item 107 = .ok (.iload_n 1, 1) := by decide +kernel
theorem dX9_item_108 : decode cX9_item 108 = .ok (.invokestatic 158, 3) := by decide +kernel
theorem dX9_item_111 : decode cX9_item 111 = .ok (.ireturn, 1) := by decide +kernel
theorem dX9_item_112 : decode cX9_item 112 = .ok (.aload_n 0, 1) := by decide +kernel
theorem dX9_item_113 : decode cX9_item 113 = .ok (.getfield 44, 3) := by decide +kernel
theorem dX9_item_116 : decode cX9_item 116 = .ok (.iconst 3, 1) := by decide +kernel
theorem dX9_item_117 : decode cX9_item 117 = .ok (.iload_n 1, 1) := by decide +kernel
theorem dX9_item_118 : decode cX9_item 118 = .ok (.imul, 1) := by decide +kernel
theorem dX9_item_119 : decode cX9_item 119 = .ok (.iaload, 1) := by decide +kernel
theorem dX9_item_120 : decode cX9_item 120 = .ok (.ireturn, 1) := by decide +kernel
theorem dX9_item_121 : decode cX9_item 121 = .ok (.aload_n 0, 1) := by decide +kernel
theorem dX9_item_122 : decode cX9_item 122 = .ok (.getfield 44, 3) := by decide +kernel
theorem dX9_item_125 : decode cX9_item 125 = .ok (.iconst 3, 1) := by decide +kernel
theorem dX9_item_126 : decode cX9_item 126 = .ok (.iload_n 1, 1) := by decide +kernel
theorem dX9_item_127 : decode cX9_item 127 = .ok (.imul, 1) := by decide +kernel
theorem dX9_item_128 : decode cX9_item 128 = .ok (.iconst 1, 1) := by decide +kernel
theorem dX9_item_129 : decode cX9_item 129 = .ok (.iadd, 1) := by decide +kernel
theorem dX9_item_130 : decode cX9_item 130 = .ok (.iaload, 1) := by decide +kernel
theorem dX9_item_131 : decode cX9_item 131 = .ok (.ireturn, 1) := by decide +kernel
theorem dX9_item_132 : decode cX9_item 132 = .ok (.aload_n 0, 1) := by decide +kernel
theorem dX9_item_133 : decode cX9_item 133 = .ok (.getfield 44, 3) := by decide +kernel
theorem dX9_item_136 : decode cX9_item 136 = .ok (.iconst 3, 1) := by decide +kernel
theorem dX9_item_137 : decode cX9_item 137 = .ok (.iload_n 1, 1) := by decide +kernel
theorem dX9_item_138 : decode cX9_item 138 = .ok (.imul, 1) := by decide +kernel
theorem dX9_item_139 : decode cX9_item 139 = .ok (.iconst 2, 1) := by decide +kernel
theorem dX9_item_140 : decode cX9_item 140 = .ok (.iadd, 1) := by decide +kernel
theorem dX9_item_141 : decode cX9_item 141 = .ok (.iaload, 1) := by decide +kernel
theorem dX9_item_142 : decode cX9_item 142 = .ok (.ireturn, 1) := by decide +kernel
theorem dX9_item_143 : decode cX9_item 143 = .ok (.ldc 70, 2) := by decide +kernel
theorem dX9_item_145 : decode cX9_item 145 = .ok (.ireturn, 1) := by decide +kernel
theorem dX9_romanSign_0 : decode cX9_romanSign 0 = .ok (.iload_n 0, 1) := by decide +kernel
theorem dX9_romanSign_1 : decode cX9_romanSign 1 = .ok (.bipush 9, 2) := by decide +kernel
theorem dX9_romanSign_3 : decode cX9_romanSign 3 = .ok (.if_icmp .eq 8, 3) := by decide +kernel
theorem dX9_romanSign_6 : decode cX9_romanSign 6 = .ok (.iload_n 0, 1) := by decide +kernel
theorem dX9_romanSign_7 : decode cX9_romanSign 7 = .ok (.iconst 4, 1) := by decide +kernel
theorem dX9_romanSign_8 : decode cX9_romanSign 8 = .ok (.if_icmp .ne 24, 3) := by decide +kernel
theorem dX9_romanSign_11 : decode cX9_romanSign 11 = .ok (.iload_n 1, 1) := by decide +kernel
theorem dX9_romanSign_12 : decode cX9_romanSign 12 = .ok (.ifCond .ne 7, 3) := by decide +kernel
theorem dX9_romanSign_15 : decode cX9_romanSign 15 = .ok (.iload_n 2, 1) := by decide +kernel
theorem dX9_romanSign_16 : decode cX9_romanSign 16 = .ok (.goto 15, 3) := by decide +kernel
theorem dX9_romanSign_19 : decode cX9_romanSign 19 = .ok (.iload_n 0, 1) := by decide +kernel
theorem dX9_romanSign_20 : decode cX9_romanSign 20 = .ok (.bipush 9, 2) := by decide +kernel
theorem dX9_romanSign_22 : decode cX9_romanSign 22 = .ok (.if_icmp .ne 8, 3) := by decide +kernel
theorem dX9_romanSign_25 : decode cX9_romanSign 25 = .ok (.iload 4, 2) := by decide +kernel
theorem dX9_romanSign_27 : decode cX9_romanSign 27 = .ok (.goto 4, 3) := by decide +kernel
theorem dX9_romanSign_30 : decode cX9_romanSign 30 = .ok (.iload_n 3, 1) := by decide +kernel
theorem dX9_romanSign_31 : decode cX9_romanSign 31 = .ok (.ireturn, 1) := by decide +kernel
theorem dX9_romanSign_32 : decode cX9_romanSign 32 = .ok (.iload_n 0, 1) := by decide +kernel
theorem dX9_romanSign_33 : decode cX9_romanSign 33 = .ok (.iconst 4, 1) := by decide +kernel
theorem dX9_romanSign_34 : decode cX9_romanSign 34 = .ok (.if_icmp .le 11, 3) := by decide +kernel
theorem dX9_romanSign_37 : decode cX9_romanSign 37 = .ok (.iload_n 1, 1) := by decide +kernel
theorem dX9_romanSign_38 : decode cX9_romanSign 38 = .ok (.ifCond .ne 7, 3) := by decide +kernel
theorem dX9_romanSign_41 : decode cX9_romanSign 41 = .ok (.iload_n 3, 1) := by decide +kernel
theorem dX9_romanSign_42 : decode cX9_romanSign 42 = .ok (.goto 4, 3) := by decide +kernel
theorem dX9_romanSign_45 : decode cX9_romanSign 45 = .ok (.iload_n 2, 1) := by decide +kernel
theorem dX9_romanSign_46 : decode cX9_romanSign 46 = .ok (.ireturn, 1) := by decide +kernel
theorem dX9_print_0 : decode cX9_print 0 = .ok (.aload_n 0, 1) := by decide +kernel
theorem dX9_print_1 : decode cX9_print 1 = .ok (.iload_n 1, 1) := by decide +kernel
theorem dX9_print_2 : decode cX9_print 2 = .ok (.invokevirtual 202, 3) := by decide +kernel
theorem dX9_print_5 : decode cX9_print 5 = .ok (.ifCond .eq 21, 3) := by decide +kernel
theorem dX9_print_8 : decode cX9_print 8 = .ok (.aload_n 0, 1) := by decide +kernel
theorem dX9_print_9 : decode cX9_print 9 = .ok (.getfield 25, 3) := by decide +kernel
theorem dX9_print_12 : decode cX9_print 12 = .ok (.iconst 5, 1) := by decide +kernel
theorem dX9_print_13 : decode cX9_print 13 = .ok (.iconst 4, 1) := by decide +kernel
theorem dX9_print_14 : decode cX9_print 14 = .ok (.iload_n 1, 1) := by decide +kernel
theorem dX9_print_15 : decode cX9_print 15 = .ok (.imul, 1) := by decide +kernel
theorem dX9_print_16 : decode cX9_print 16 = .ok (.iadd, 1) := by decide +kernel
theorem dX9_print_17 : decode cX9_print 17 = .ok (.iaload, 1) := by decide +kernel
theorem dX9_print_18 : decode cX9_print 18 = .ok (.iconst 3, 1) := by decide +kernel
theorem dX9_print_19 : decode cX9_print 19 = .ok (.if_icmp .gt 7, 3) := by decide +kernel
theorem dX9_print_22 : decode cX9_print 22 = .ok (.iload_n 2, 1) := by decide +kernel
theorem dX9_print_23 : decode cX9_print 23 = .ok (.ifCond .ge 6, 3) := by decide +kernel
theorem dX9_print_26 : decode cX9_print 26 = .ok (.ldc 70, 2) := by decide +kernel
theorem dX9_print_28 : decode cX9_print 28 = .ok (.ireturn, 1) := by decide +kernel
theorem dX9_print_29 : decode cX9_print 29 = .ok (.aload_n 0, 1) := by decide +kernel
theorem dX9_print_30 : decode cX9_print 30 = .ok (.getfield 25, 3) := by decide +kernel
theorem dX9_print_33 : decode cX9_print 33 = .ok (.iconst 5, 1) := by decide +kernel
theorem dX9_print_34 : decode cX9_print 34 = .ok (.iconst 4, 1) := by decide +kernel
theorem dX9_print_35 : decode cX9_print 35 = .ok (.iload_n 1, 1) := by decide +kernel
theorem dX9_print_36 : decode cX9_print 36 = .ok (.imul, 1) := by decide +kernel
theorem dX9_print_37 : decode cX9_print 37 = .ok (.iadd, 1) := by decide +kernel
theorem dX9_print_38 : decode cX9_print 38 = .ok (.iaload, 1) := by decide +kernel
theorem dX9_print_39 : decode cX9_print 39 = .ok (.istore_n 3, 1) := by decide +kernel
theorem dX9_print_40 : decode cX9_print 40 = .ok (.aload_n 0, 1) := by decide +kernel
theorem dX9_print_41 : decode cX9_print 41 = .ok (.getfield 25, 3) := by decide +kernel
theorem dX9_print_44 : decode cX9_print 44 = .ok (.iconst 5, 1) := by decide +kernel
theorem dX9_print_45 : decode cX9_print 45 = .ok (.iconst 4, 1) := by decide +kernel
theorem dX9_print_46 : decode cX9_print 46 = .ok (.aload_n 0, 1) := by decide +kernel
theorem dX9_print_47 : decode cX9_print 47 = .ok (.getfield 25, 3) := by decide +kernel
theorem dX9_print_50 : decode cX9_print 50 = .ok (.iconst 5, 1) := by decide +kernel
theorem dX9_print_51 : decode cX9_print 51 = .ok (.iconst 4, 1) := by decide +kernel
theorem dX9_print_52 : decode cX9_print 52 = .ok (.iload_n 1, 1) := by decide +kernel
theorem dX9_print_53 : decode cX9_print 53 = .ok (.imul, 1) := by decide +kernel
theorem dX9_print_54 : decode cX9_print 54 = .ok (.iadd, 1) := by decide +kernel
theorem dX9_print_55 : decode cX9_print 55 = .ok (.iconst 1, 1) := by decide +kernel
theorem dX9_print_56 : decode cX9_print 56 = .ok (.iadd, 1) := by decide +kernel
theorem dX9_print_57 : decode cX9_print 57 = .ok (.iaload, 1) := by decide +kernel
theorem dX9_print_58 : decode cX9_print 58 = .ok (.imul, 1) := by decide +kernel
theorem dX9_print_59 : decode cX9_print 59 = .ok (.iadd, 1) := by decide +kernel
theorem dX9_print_60 : decode cX9_print 60 = .ok (.iconst 2, 1) := by decide +kernel
theorem dX9_print_61 : decode cX9_print 61 = .ok (.iadd, 1) := by decide +kernel
theorem dX9_print_62 : decode cX9_print 62 = .ok (.iaload, 1) := by decide +kernel
theorem dX9_print_63 : decode cX9_print 63 = .ok (.istore 4, 2) := by decide +kernel
theorem dX9_print_65 : decode cX9_print 65 = .ok (.iload_n 3, 1) := by decide +kernel
theorem dX9_print_66 : decode cX9_print 66 = .ok (.iload 4, 2) := by decide +kernel
theorem dX9_print_68 : decode cX9_print 68 = .ok (.invokestatic 155, 3) := by decide +kernel
theorem dX9_print_71 : decode cX9_print 71 = .ok (.istore 5, 2) := by decide +kernel
theorem dX9_print_73 : decode cX9_print 73 = .ok (.iload_n 2, 1) := by decide +kernel
theorem dX9_print_74 : decode cX9_print 74 = .ok (.iload 5, 2) := by decide +kernel
theorem dX9_print_76 : decode cX9_print 76 = .ok (.if_icmp .lt 27, 3) := by decide +kernel
theorem dX9_print_79 : decode cX9_print 79 = .ok (.iload_n 2, 1) := by decide +kernel
theorem dX9_print_80 : decode cX9_print 80 = .ok (.aload_n 0, 1) := by decide +kernel
theorem dX9_print_81 : decode cX9_print 81 = .ok (.getfield 25, 3) := by decide +kernel
theorem dX9_print_84 : decode cX9_print 84 = .ok (.iconst 5, 1) := by decide +kernel
theorem dX9_print_85 : decode cX9_print 85 = .ok (.iconst 4, 1) := by decide +kernel
theorem dX9_print_86 : decode cX9_print 86 = .ok (.iload_n 1, 1) := by decide +kernel
theorem dX9_print_87 : decode cX9_print 87 = .ok (.imul, 1) := by decide +kernel
theorem dX9_print_88 : decode cX9_print 88 = .ok (.iadd, 1) := by decide +kernel
theorem dX9_print_89 : decode cX9_print 89 = .ok (.iconst 3, 1) := by decide +kernel
theorem dX9_print_90 : decode cX9_print 90 = .ok (.iadd, 1) := by decide +kernel
theorem dX9_print_91 : decode cX9_print 91 = .ok (.iaload, 1) := by decide +kernel
theorem dX9_print_92 : decode cX9_print 92 = .ok (.if_icmp .ge 8, 3) := by decide +kernel
theorem dX9_print_95 : decode cX9_print 95 = .ok (.bipush 32, 2) := by decide +kernel
theorem dX9_print_97 : decode cX9_print 97 = .ok (.goto 5, 3) := by decide +kernel
theorem dX9_print_100 : decode cX9_print 100 = .ok (.ldc 56, 2) := by decide +kernel
theorem dX9_print_102 : decode cX9_print 102 = .ok (.ireturn, 1) := by decide +kernel
theorem dX9_print_103 : decode cX9_print 103 = .ok (.iload_n 3, 1) := by decide +kernel
theorem dX9_print_104 : decode cX9_print 104 = .ok (.iconst 2, 1) := by decide +kernel
theorem dX9_print_105 : decode cX9_print 105 = .ok (.if_icmp .ne 56, 3) := by decide +kernel
theorem dX9_print_108 : decode cX9_print 108 = .ok (.iload 4, 2) := by decide +kernel
theorem dX9_print_110 : decode cX9_print 110 = .ok (.bipush 10, 2) := by decide +kernel
theorem dX9_print_112 : decode cX9_print 112 = .ok (.idiv, 1) := by decide +kernel
theorem dX9_print_113 : decode cX9_print 113 = .ok (.invokestatic 152, 3) := by decide +kernel
theorem dX9_print_116 : decode cX9_print 116 = .ok (.istore 6, 2) := by decide +kernel
theorem dX9_print_118 : decode cX9_print 118 = .ok (.iload_n 2, 1) := by decide +kernel
theorem dX9_print_119 : decode cX9_print 119 = .ok (.iload 6, 2) := by decide +kernel
theorem dX9_print_121 : decode cX9_print 121 = .ok (.if_icmp .ge 21, 3) := by decide +kernel
theorem dX9_print_124 : decode cX9_print 124 = .ok (.iload 4, 2) := by decide +kernel
theorem dX9_print_126 : decode cX9_print 126 = .ok (.bipush 10, 2) := by decide +kernel
theorem dX9_print_128 : decode cX9_print 128 = .ok (.idiv, 1) := by decide +kernel
theorem dX9_print_129 : decode cX9_print 129 = .ok (.iload_n 2, 1) := by decide +kernel
theorem dX9_print_130 : decode cX9_print 130 = .ok (.bipush 120, 2) := by decide +kernel
theorem dX9_print_132 : decode cX9_print 132 = .ok (.bipush 108, 2) := by decide +kernel
theorem dX9_print_134 : decode cX9_print 134 = .ok (.bipush 99, 2) := by decide +kernel
theorem dX9_print_136 : decode cX9_print 136 = .ok (.invokestatic 218, 3) := by decide +kernel
theorem dX9_print_139 : decode cX9_print 139 = .ok (.goto 21, 3) := by decide +kernel
theorem dX9_print_142 : decode cX9_print 142 = .ok (.iload 4, 2) := by decide +kernel
theorem dX9_print_144 : decode cX9_print 144 = .ok (.bipush 10, 2) := by decide +kernel
theorem dX9_print_146 : decode cX9_print 146 = .ok (.irem, 1) := by decide +kernel
theorem dX9_print_147 : decode cX9_print 147 = .ok (.iload_n 2, 1) := by decide +kernel
theorem dX9_print_148 : decode cX9_print 148 = .ok (.iload 6, 2) := by decide +kernel
theorem dX9_print_150 : decode cX9_print 150 = .ok (.isub, 1) := by decide +kernel
theorem dX9_print_151 : decode cX9_print 151 = .ok (.bipush 105, 2) := by decide +kernel
theorem dX9_print_153 : decode cX9_print 153 = .ok (.bipush 118, 2) := by decide +kernel
theorem dX9_print_155 : decode cX9_print 155 = .ok (.bipush 120, 2) := by decide +kernel
theorem dX9_print_157 : decode cX9_print 157 = .ok (.invokestatic 218, 3) := by decide +kernel
theorem dX9_print_160 : decode cX9_print 160 = .ok (.ireturn, 1) := by decide +kernel
theorem dX9_print_161 : decode cX9_print 161 = .ok (.iload_n 3, 1) := by decide +kernel
theorem dX9_print_162 : decode cX9_print 162 = .ok (.iconst 3, 1) := by decide +kernel
theorem dX9_print_163 : decode cX9_print 163 = .ok (.if_icmp .ne 14, 3) := by decide +kernel
theorem dX9_print_166 : decode cX9_print 166 = .ok (.iload_n 2, 1) := by decide +kernel
theorem dX9_print_167 : decode cX9_print 167 = .ok (.iload 5, 2) := by decide +kernel
theorem dX9_print_169 : decode cX9_print 169 = .ok (.iconst 1, 1) := by decide +kernel
theorem dX9_print_170 : decode cX9_print 170 = .ok (.isub, 1) := by decide +kernel
theorem dX9_print_171 : decode cX9_print 171 = .ok (.if_icmp .ne 6, 3) := by decide +kernel
theorem dX9_print_174 : decode cX9_print 174 = .ok (.bipush 102, 2) := by decide +kernel
theorem dX9_print_176 : decode cX9_print 176 = .ok (.ireturn, 1) := by decide +kernel
theorem dX9_print_177 : decode cX9_print 177 = .ok (.bipush 48, 2) := by decide +kernel
theorem dX9_print_179 : decode cX9_print 179 = .ok (.iload 4, 2) := by decide +kernel
theorem dX9_print_181 : decode cX9_print 181 = .ok (.bipush 9, 2) := by decide +kernel
theorem dX9_print_183 : decode cX9_print 183 = .ok (.if_icmp .le 15, 3) := by decide +kernel
theorem dX9_print_186 : decode cX9_print 186 = .ok (.iload_n 2, 1) := by decide +kernel
theorem dX9_print_187 : decode cX9_print 187 = .ok (.ifCond .ne 11, 3) := by decide +kernel
theorem dX9_print_190 : decode cX9_print 190 = .ok (.iload 4, 2) := by decide +kernel
theorem dX9_print_192 : decode cX9_print 192 = .ok (.bipush 10, 2) := by decide +kernel
theorem dX9_print_194 : decode cX9_print 194 = .ok (.idiv, 1) := by decide +kernel
theorem dX9_print_195 : decode cX9_print 195 = .ok (.goto 8, 3) := by decide +kernel
theorem dX9_print_198 : decode cX9_print 198 = .ok (.iload 4, 2) := by decide +kernel
theorem dX9_print_200 : decode cX9_print 200 = .ok (.bipush 10, 2) := by decide +kernel
theorem dX9_print_202 : decode cX9_print 202 = .ok (.irem, 1) := by decide +kernel
theorem dX9_print_203 : decode cX9_print 203 = .ok (.iadd, 1) := by decide +kernel
theorem dX9_print_204 : decode cX9_print 204 = .ok (.ireturn, 1) := by decide +kernel
theorem dX9_behind_0 : decode cX9_behind 0 = .ok (.aload_n 0, 1) := by decide +kernel
theorem dX9_behind_1 : decode cX9_behind 1 = .ok (.iload_n 1, 1) := by decide +kernel
theorem dX9_behind_2 : decode cX9_behind 2 = .ok (.invokevirtual 202, 3) := by decide +kernel
theorem dX9_behind_5 : decode cX9_behind 5 = .ok (.ifCond .eq 13, 3) := by decide +kernel
theorem dX9_behind_8 : decode cX9_behind 8 = .ok (.iload_n 2, 1) := by decide +kernel
theorem dX9_behind_9 : decode cX9_behind 9 = .ok (.iconst 0, 1) := by decide +kernel
theorem dX9_behind_10 : decode cX9_behind 10 = .ok (.bipush 60, 2) := by decide +kernel
theorem dX9_behind_12 : decode cX9_behind 12 = .ok (.invokestatic 62, 3) := by decide +kernel
theorem dX9_behind_15 : decode cX9_behind 15 = .ok (.ifCond .ne 6, 3) := by decide +kernel
theorem dX9_behind_18 : decode cX9_behind 18 = .ok (.ldc 70, 2) := by decide +kernel
theorem dX9_behind_20 : decode cX9_behind 20 = .ok (.ireturn, 1) := by decide +kernel
theorem dX9_behind_21 : decode cX9_behind 21 = .ok (.aload_n 0, 1) := by decide +kernel
theorem dX9_behind_22 : decode cX9_behind 22 = .ok (.getfield 25, 3) := by decide +kernel
theorem dX9_behind_25 : decode cX9_behind 25 = .ok (.iconst 0, 1) := by decide +kernel
theorem dX9_behind_26 : decode cX9_behind 26 = .ok (.aload_n 0, 1) := by decide +kernel
theorem dX9_behind_27 : decode cX9_behind 27 = .ok (.getfield 31, 3) := by decide +kernel
theorem dX9_behind_30 : decode cX9_behind 30 = .ok (.iconst 0, 1) := by decide +kernel
theorem dX9_behind_31 : decode cX9_behind 31 = .ok (.invokestatic 145, 3) := by decide +kernel
theorem dX9_behind_34 : decode cX9_behind 34 = .ok (.iconst 0, 1) := by decide +kernel
theorem dX9_behind_35 : decode cX9_behind 35 = .ok (.istore_n 3, 1) := by decide +kernel
theorem dX9_behind_36 : decode cX9_behind 36 = .ok (.iload_n 3, 1) := by decide +kernel
theorem dX9_behind_37 : decode cX9_behind 37 = .ok (.iload_n 2, 1) := by decide +kernel
theorem dX9_behind_38 : decode cX9_behind 38 = .ok (.if_icmp .ge 18, 3) := by decide +kernel
theorem dX9_behind_41 : decode cX9_behind 41 = .ok (.aload_n 0, 1) := by decide +kernel
theorem dX9_behind_42 : decode cX9_behind 42 = .ok (.aload_n 0, 1) := by decide +kernel
theorem dX9_behind_43 : decode cX9_behind 43 = .ok (.getfield 31, 3) := by decide +kernel
theorem dX9_behind_46 : decode cX9_behind 46 = .ok (.invokevirtual 182, 3) := by decide +kernel
theorem dX9_behind_49 : decode cX9_behind 49 = .ok (.pop, 1) := by decide +kernel
theorem dX9_behind_50 : decode cX9_behind 50 = .ok (.iinc 3 1, 3) := by decide +kernel
theorem dX9_behind_53 : decode cX9_behind 53 = .ok (.goto (-17), 3) := by decide +kernel
theorem dX9_behind_56 : decode cX9_behind 56 = .ok (.aload_n 0, 1) := by decide +kernel
theorem dX9_behind_57 : decode cX9_behind 57 = .ok (.getfield 31, 3) := by decide +kernel
theorem dX9_behind_60 : decode cX9_behind 60 = .ok (.iconst 5, 1) := by decide +kernel
theorem dX9_behind_61 : decode cX9_behind 61 = .ok (.iconst 4, 1) := by decide +kernel
theorem dX9_behind_62 : decode cX9_behind 62 = .ok (.iload_n 1, 1) := by decide +kernel
theorem dX9_behind_63 : decode cX9_behind 63 = .ok (.imul, 1) := by decide +kernel
theorem dX9_behind_64 : decode cX9_behind 64 = .ok (.iadd, 1) := by decide +kernel
theorem dX9_behind_65 : decode cX9_behind 65 = .ok (.iconst 2, 1) := by decide +kernel
theorem dX9_behind_66 : decode cX9_behind 66 = .ok (.iadd, 1) := by decide +kernel
theorem dX9_behind_67 : decode cX9_behind 67 = .ok (.iaload, 1) := by decide +kernel
theorem dX9_behind_68 : decode cX9_behind 68 = .ok (.ireturn, 1) := by decide +kernel
theorem dX9_lies_0 : decode cX9_lies 0 = .ok (.aload_n 0, 1) := by decide +kernel
theorem dX9_lies_1 : decode cX9_lies 1 = .ok (.invokevirtual 191, 3) := by decide +kernel
theorem dX9_lies_4 : decode cX9_lies 4 = .ok (.ifCond .ne 6, 3) := by decide +kernel
theorem dX9_lies_7 : decode cX9_lies 7 = .ok (.ldc 194, 2) := by decide +kernel
theorem dX9_lies_9 : decode cX9_lies 9 = .ok (.ireturn, 1) := by decide +kernel
theorem dX9_lies_10 : decode cX9_lies 10 = .ok (.aload_n 0, 1) := by decide +kernel
theorem dX9_lies_11 : decode cX9_lies 11 = .ok (.aload_n 0, 1) := by decide +kernel
theorem dX9_lies_12 : decode cX9_lies 12 = .ok (.getfield 25, 3) := by decide +kernel
theorem dX9_lies_15 : decode cX9_lies 15 = .ok (.ldc 56, 2) := by decide +kernel
theorem dX9_lies_17 : decode cX9_lies 17 = .ok (.iconst 0, 1) := by decide +kernel
theorem dX9_lies_18 : decode cX9_lies 18 = .ok (.invokevirtual 162, 3) := by decide +kernel
theorem dX9_lies_21 : decode cX9_lies 21 = .ok (.iconst 0, 1) := by decide +kernel
theorem dX9_lies_22 : decode cX9_lies 22 = .ok (.istore_n 1, 1) := by decide +kernel
theorem dX9_lies_23 : decode cX9_lies 23 = .ok (.iconst 0, 1) := by decide +kernel
theorem dX9_lies_24 : decode cX9_lies 24 = .ok (.istore_n 2, 1) := by decide +kernel
theorem dX9_lies_25 : decode cX9_lies 25 = .ok (.iload_n 2, 1) := by decide +kernel
theorem dX9_lies_26 : decode cX9_lies 26 = .ok (.aload_n 0, 1) := by decide +kernel
theorem dX9_lies_27 : decode cX9_lies 27 = .ok (.getfield 25, 3) := by decide +kernel
theorem dX9_lies_30 : decode cX9_lies 30 = .ok (.iconst 3, 1) := by decide +kernel
theorem dX9_lies_31 : decode cX9_lies 31 = .ok (.iaload, 1) := by decide +kernel
theorem dX9_lies_32 : decode cX9_lies 32 = .ok (.if_icmp .ge 69, 3) := by decide +kernel
theorem dX9_lies_35 : decode cX9_lies 35 = .ok (.aload_n 0, 1) := by decide +kernel
theorem dX9_lies_36 : decode cX9_lies 36 = .ok (.getfield 25, 3) := by decide +kernel
theorem dX9_lies_39 : decode cX9_lies 39 = .ok (.iconst 5, 1) := by decide +kernel
theorem dX9_lies_40 : decode cX9_lies 40 = .ok (.iconst 4, 1) := by decide +kernel
theorem dX9_lies_41 : decode cX9_lies 41 = .ok (.iload_n 2, 1) := by decide +kernel
theorem dX9_lies_42 : decode cX9_lies 42 = .ok (.imul, 1) := by decide +kernel
theorem dX9_lies_43 : decode cX9_lies 43 = .ok (.iadd, 1) := by decide +kernel
theorem dX9_lies_44 : decode cX9_lies 44 = .ok (.iconst 1, 1) := by decide +kernel
theorem dX9_lies_45 : decode cX9_lies 45 = .ok (.iadd, 1) := by decide +kernel
theorem dX9_lies_46 : decode cX9_lies 46 = .ok (.iaload, 1) := by decide +kernel
theorem dX9_lies_47 : decode cX9_lies 47 = .ok (.istore_n 3, 1) := by decide +kernel
theorem dX9_lies_48 : decode cX9_lies 48 = .ok (.iload_n 1, 1) := by decide +kernel
theorem dX9_lies_49 : decode cX9_lies 49 = .ok (.aload_n 0, 1) := by decide +kernel
theorem dX9_lies_50 : decode cX9_lies 50 = .ok (.getfield 25, 3) := by decide +kernel
theorem dX9_lies_53 : decode cX9_lies 53 = .ok (.iconst 5, 1) := by decide +kernel
theorem dX9_lies_54 : decode cX9_lies 54 = .ok (.iconst 4, 1) := by decide +kernel
theorem dX9_lies_55 : decode cX9_lies 55 = .ok (.iload_n 2, 1) := by decide +kernel
theorem dX9_lies_56 : decode cX9_lies 56 = .ok (.imul, 1) := by decide +kernel
theorem dX9_lies_57 : decode cX9_lies 57 = .ok (.iadd, 1) := by decide +kernel
theorem dX9_lies_58 : decode cX9_lies 58 = .ok (.iaload, 1) := by decide +kernel
theorem dX9_lies_59 : decode cX9_lies 59 = .ok (.iconst 3, 1) := by decide +kernel
theorem dX9_lies_60 : decode cX9_lies 60 = .ok (.if_icmp .gt 32, 3) := by decide +kernel
theorem dX9_lies_63 : decode cX9_lies 63 = .ok (.aload_n 0, 1) := by decide +kernel
theorem dX9_lies_64 : decode cX9_lies 64 = .ok (.getfield 25, 3) := by decide +kernel
theorem dX9_lies_67 : decode cX9_lies 67 = .ok (.iconst 5, 1) := by decide +kernel
theorem dX9_lies_68 : decode cX9_lies 68 = .ok (.iconst 4, 1) := by decide +kernel
theorem dX9_lies_69 : decode cX9_lies 69 = .ok (.iload_n 3, 1) := by decide +kernel
theorem dX9_lies_70 : decode cX9_lies 70 = .ok (.imul, 1) := by decide +kernel
theorem dX9_lies_71 : decode cX9_lies 71 = .ok (.iadd, 1) := by decide +kernel
theorem dX9_lies_72 : decode cX9_lies 72 = .ok (.iconst 2, 1) := by decide +kernel
theorem dX9_lies_73 : decode cX9_lies 73 = .ok (.iadd, 1) := by decide +kernel
theorem dX9_lies_74 : decode cX9_lies 74 = .ok (.iaload, 1) := by decide +kernel
theorem dX9_lies_75 : decode cX9_lies 75 = .ok (.aload_n 0, 1) := by decide +kernel
theorem dX9_lies_76 : decode cX9_lies 76 = .ok (.getfield 44, 3) := by decide +kernel
theorem dX9_lies_79 : decode cX9_lies 79 = .ok (.iconst 3, 1) := by decide +kernel
theorem dX9_lies_80 : decode cX9_lies 80 = .ok (.iload_n 3, 1) := by decide +kernel
theorem dX9_lies_81 : decode cX9_lies 81 = .ok (.imul, 1) := by decide +kernel
theorem dX9_lies_82 : decode cX9_lies 82 = .ok (.iaload, 1) := by decide +kernel
theorem dX9_lies_83 : decode cX9_lies 83 = .ok (.if_icmp .eq 9, 3) := by decide +kernel
theorem dX9_lies_86 : decode cX9_lies 86 = .ok (.iconst 1, 1) := by decide +kernel
theorem dX9_lies_87 : decode cX9_lies 87 = .ok (.iload_n 2, 1) := by decide +kernel
theorem dX9_lies_88 : decode cX9_lies 88 = .ok (.ishl, 1) := by decide +kernel
theorem dX9_lies_89 : decode cX9_lies 89 = .ok (.goto 4, 3) := by decide +kernel
theorem dX9_lies_92 : decode cX9_lies 92 = .ok (.iconst 0, 1) := by decide +kernel
theorem dX9_lies_93 : decode cX9_lies 93 = .ok (.ior, 1) := by decide +kernel
theorem dX9_lies_94 : decode cX9_lies 94 = .ok (.istore_n 1, 1) := by decide +kernel
theorem dX9_lies_95 : decode cX9_lies 95 = .ok (.iinc 2 1, 3) := by decide +kernel
theorem dX9_lies_98 : decode cX9_lies 98 = .ok (.goto (-73), 3) := by decide +kernel
theorem dX9_lies_101 : decode cX9_lies 101 = .ok (.iload_n 1, 1) := by decide +kernel
theorem dX9_lies_102 : decode cX9_lies 102 = .ok (.ireturn, 1) := by decide +kernel
theorem dX9_settled_0 : decode cX9_settled 0 = .ok (.aload_n 0, 1) := by decide +kernel
theorem dX9_settled_1 : decode cX9_settled 1 = .ok (.invokevirtual 191, 3) := by decide +kernel
theorem dX9_settled_4 : decode cX9_settled 4 = .ok (.ifCond .ne 6, 3) := by decide +kernel
theorem dX9_settled_7 : decode cX9_settled 7 = .ok (.ldc 194, 2) := by decide +kernel
theorem dX9_settled_9 : decode cX9_settled 9 = .ok (.ireturn, 1) := by decide +kernel
theorem dX9_settled_10 : decode cX9_settled 10 = .ok (.iload_n 1, 1) := by decide +kernel
theorem dX9_settled_11 : decode cX9_settled 11 = .ok (.iconst 0, 1) := by decide +kernel
theorem dX9_settled_12 : decode cX9_settled 12 = .ok (.iconst 5, 1) := by decide +kernel
theorem dX9_settled_13 : decode cX9_settled 13 = .ok (.invokestatic 62, 3) := by decide +kernel
theorem dX9_settled_16 : decode cX9_settled 16 = .ok (.ifCond .ne 6, 3) := by decide +kernel
theorem dX9_settled_19 : decode cX9_settled 19 = .ok (.ldc 70, 2) := by decide +kernel
theorem dX9_settled_21 : decode cX9_settled 21 = .ok (.ireturn, 1) := by decide +kernel
theorem dX9_settled_22 : decode cX9_settled 22 = .ok (.aload_n 0, 1) := by decide +kernel
theorem dX9_settled_23 : decode cX9_settled 23 = .ok (.getfield 25, 3) := by decide +kernel
theorem dX9_settled_26 : decode cX9_settled 26 = .ok (.iconst 0, 1) := by decide +kernel
theorem dX9_settled_27 : decode cX9_settled 27 = .ok (.aload_n 0, 1) := by decide +kernel
theorem dX9_settled_28 : decode cX9_settled 28 = .ok (.getfield 31, 3) := by decide +kernel
theorem dX9_settled_31 : decode cX9_settled 31 = .ok (.iconst 0, 1) := by decide +kernel
theorem dX9_settled_32 : decode cX9_settled 32 = .ok (.invokestatic 145, 3) := by decide +kernel
theorem dX9_settled_35 : decode cX9_settled 35 = .ok (.aload_n 0, 1) := by decide +kernel
theorem dX9_settled_36 : decode cX9_settled 36 = .ok (.aload_n 0, 1) := by decide +kernel
theorem dX9_settled_37 : decode cX9_settled 37 = .ok (.getfield 31, 3) := by decide +kernel
theorem dX9_settled_40 : decode cX9_settled 40 = .ok (.invokevirtual 198, 3) := by decide +kernel
theorem dX9_settled_43 : decode cX9_settled 43 = .ok (.iload_n 1, 1) := by decide +kernel
theorem dX9_settled_44 : decode cX9_settled 44 = .ok (.tableswitch 67 0 4 #[36, 41, 46, 51, 59], 36) := by decide +kernel
theorem dX9_settled_80 : decode cX9_settled 80 = .ok (.aload_n 0, 1) := by decide +kernel
theorem dX9_settled_81 : decode cX9_settled 81 = .ok (.getfield 166, 3) := by decide +kernel
theorem dX9_settled_84 : decode cX9_settled 84 = .ok (.ireturn, 1) := by decide +kernel
theorem dX9_settled_85 : decode cX9_settled 85 = .ok (.aload_n 0, 1) := by decide +kernel
theorem dX9_settled_86 : decode cX9_settled 86 = .ok (.getfield 169, 3) := by decide +kernel
theorem dX9_settled_89 : decode cX9_settled 89 = .ok (.ireturn, 1) := by decide +kernel
theorem dX9_settled_90 : decode cX9_settled 90 = .ok (.aload_n 0, 1) := by decide +kernel
theorem dX9_settled_91 : decode cX9_settled 91 = .ok (.getfield 172, 3) := by decide +kernel
theorem dX9_settled_94 : decode cX9_settled 94 = .ok (.ireturn, 1) := by decide +kernel
theorem dX9_settled_95 : decode cX9_settled 95 = .ok (.aload_n 0, 1) := by decide +kernel
theorem dX9_settled_96 : decode cX9_settled 96 = .ok (.getfield 31, 3) := by decide +kernel
theorem dX9_settled_99 : decode cX9_settled 99 = .ok (.invokestatic 209, 3) := by decide +kernel
theorem dX9_settled_102 : decode cX9_settled 102 = .ok (.ireturn, 1) := by decide +kernel
theorem dX9_settled_103 : decode cX9_settled 103 = .ok (.aload_n 0, 1) := by decide +kernel
theorem dX9_settled_104 : decode cX9_settled 104 = .ok (.getfield 31, 3) := by decide +kernel
theorem dX9_settled_107 : decode cX9_settled 107 = .ok (.invokestatic 222, 3) := by decide +kernel
theorem dX9_settled_110 : decode cX9_settled 110 = .ok (.ireturn, 1) := by decide +kernel
theorem dX9_settled_111 : decode cX9_settled 111 = .ok (.aload_n 0, 1) := by decide +kernel
theorem dX9_settled_112 : decode cX9_settled 112 = .ok (.aload_n 0, 1) := by decide +kernel
theorem dX9_settled_113 : decode cX9_settled 113 = .ok (.getfield 31, 3) := by decide +kernel
theorem dX9_settled_116 : decode cX9_settled 116 = .ok (.invokevirtual 179, 3) := by decide +kernel
theorem dX9_settled_119 : decode cX9_settled 119 = .ok (.ifCond .eq 7, 3) := by decide +kernel
theorem dX9_settled_122 : decode cX9_settled 122 = .ok (.iconst 1, 1) := by decide +kernel
theorem dX9_settled_123 : decode cX9_settled 123 = .ok (.goto 4, 3) := by decide +kernel
theorem dX9_settled_126 : decode cX9_settled 126 = .ok (.iconst 0, 1) := by decide +kernel
theorem dX9_settled_127 : decode cX9_settled 127 = .ok (.ireturn, 1) := by decide +kernel
theorem dX9_last_0 : decode cX9_last 0 = .ok (.aload_n 0, 1) := by decide +kernel
theorem dX9_last_1 : decode cX9_last 1 = .ok (.iconst 5, 1) := by decide +kernel
theorem dX9_last_2 : decode cX9_last 2 = .ok (.iconst 4, 1) := by decide +kernel
theorem dX9_last_3 : decode cX9_last 3 = .ok (.aload_n 0, 1) := by decide +kernel
theorem dX9_last_4 : decode cX9_last 4 = .ok (.iconst 3, 1) := by decide +kernel
theorem dX9_last_5 : decode cX9_last 5 = .ok (.iaload, 1) := by decide +kernel
theorem dX9_last_6 : decode cX9_last 6 = .ok (.iconst 1, 1) := by decide +kernel
theorem dX9_last_7 : decode cX9_last 7 = .ok (.isub, 1) := by decide +kernel
theorem dX9_last_8 : decode cX9_last 8 = .ok (.imul, 1) := by decide +kernel
theorem dX9_last_9 : decode cX9_last 9 = .ok (.iadd, 1) := by decide +kernel
theorem dX9_last_10 : decode cX9_last 10 = .ok (.iconst 2, 1) := by decide +kernel
theorem dX9_last_11 : decode cX9_last 11 = .ok (.iadd, 1) := by decide +kernel
theorem dX9_last_12 : decode cX9_last 12 = .ok (.iaload, 1) := by decide +kernel
theorem dX9_last_13 : decode cX9_last 13 = .ok (.ireturn, 1) := by decide +kernel
theorem dX9_ends_0 : decode cX9_ends 0 = .ok (.aload_n 0, 1) := by decide +kernel
theorem dX9_ends_1 : decode cX9_ends 1 = .ok (.iload_n 1, 1) := by decide +kernel
theorem dX9_ends_2 : decode cX9_ends 2 = .ok (.invokevirtual 202, 3) := by decide +kernel
theorem dX9_ends_5 : decode cX9_ends 5 = .ok (.ifCond .ne 6, 3) := by decide +kernel
theorem dX9_ends_8 : decode cX9_ends 8 = .ok (.ldc 70, 2) := by decide +kernel
theorem dX9_ends_10 : decode cX9_ends 10 = .ok (.ireturn, 1) := by decide +kernel
theorem dX9_ends_11 : decode cX9_ends 11 = .ok (.aload_n 0, 1) := by decide +kernel
theorem dX9_ends_12 : decode cX9_ends 12 = .ok (.getfield 25, 3) := by decide +kernel
theorem dX9_ends_15 : decode cX9_ends 15 = .ok (.iconst 0, 1) := by decide +kernel
theorem dX9_ends_16 : decode cX9_ends 16 = .ok (.aload_n 0, 1) := by decide +kernel
theorem dX9_ends_17 : decode cX9_ends 17 = .ok (.getfield 31, 3) := by decide +kernel
theorem dX9_ends_20 : decode cX9_ends 20 = .ok (.iconst 0, 1) := by decide +kernel
theorem dX9_ends_21 : decode cX9_ends 21 = .ok (.invokestatic 145, 3) := by decide +kernel
theorem dX9_ends_24 : decode cX9_ends 24 = .ok (.aload_n 0, 1) := by decide +kernel
theorem dX9_ends_25 : decode cX9_ends 25 = .ok (.aload_n 0, 1) := by decide +kernel
theorem dX9_ends_26 : decode cX9_ends 26 = .ok (.getfield 31, 3) := by decide +kernel
theorem dX9_ends_29 : decode cX9_ends 29 = .ok (.invokevirtual 198, 3) := by decide +kernel
theorem dX9_ends_32 : decode cX9_ends 32 = .ok (.aload_n 0, 1) := by decide +kernel
theorem dX9_ends_33 : decode cX9_ends 33 = .ok (.getfield 31, 3) := by decide +kernel
theorem dX9_ends_36 : decode cX9_ends 36 = .ok (.iconst 5, 1) := by decide +kernel
theorem dX9_ends_37 : decode cX9_ends 37 = .ok (.iconst 4, 1) := by decide +kernel
theorem dX9_ends_38 : decode cX9_ends 38 = .ok (.iload_n 1, 1) := by decide +kernel
theorem dX9_ends_39 : decode cX9_ends 39 = .ok (.imul, 1) := by decide +kernel
theorem dX9_ends_40 : decode cX9_ends 40 = .ok (.iadd, 1) := by decide +kernel
theorem dX9_ends_41 : decode cX9_ends 41 = .ok (.iconst 2, 1) := by decide +kernel
theorem dX9_ends_42 : decode cX9_ends 42 = .ok (.iadd, 1) := by decide +kernel
theorem dX9_ends_43 : decode cX9_ends 43 = .ok (.iaload, 1) := by decide +kernel
theorem dX9_ends_44 : decode cX9_ends 44 = .ok (.ireturn, 1) := by decide +kernel
theorem dX9_moves_0 : decode cX9_moves 0 = .ok (.aload_n 0, 1) := by decide +kernel
theorem dX9_moves_1 : decode cX9_moves 1 = .ok (.iload_n 1, 1) := by decide +kernel
theorem dX9_moves_2 : decode cX9_moves 2 = .ok (.invokevirtual 202, 3) := by decide +kernel
theorem dX9_moves_5 : decode cX9_moves 5 = .ok (.ifCond .eq 17, 3) := by decide +kernel
theorem dX9_moves_8 : decode cX9_moves 8 = .ok (.aload_n 0, 1) := by decide +kernel
theorem dX9_moves_9 : decode cX9_moves 9 = .ok (.getfield 25, 3) := by decide +kernel
theorem dX9_moves_12 : decode cX9_moves 12 = .ok (.iconst 5, 1) := by decide +kernel
theorem dX9_moves_13 : decode cX9_moves 13 = .ok (.iconst 4, 1) := by decide +kernel
theorem dX9_moves_14 : decode cX9_moves 14 = .ok (.iload_n 1, 1) := by decide +kernel
theorem dX9_moves_15 : decode cX9_moves 15 = .ok (.imul, 1) := by decide +kernel
theorem dX9_moves_16 : decode cX9_moves 16 = .ok (.iadd, 1) := by decide +kernel
theorem dX9_moves_17 : decode cX9_moves 17 = .ok (.iaload, 1) := by decide +kernel
theorem dX9_moves_18 : decode cX9_moves 18 = .ok (.iconst 5, 1) := by decide +kernel
theorem dX9_moves_19 : decode cX9_moves 19 = .ok (.if_icmp .ne 6, 3) := by decide +kernel
theorem dX9_moves_22 : decode cX9_moves 22 = .ok (.ldc 70, 2) := by decide +kernel
theorem dX9_moves_24 : decode cX9_moves 24 = .ok (.ireturn, 1) := by decide +kernel
theorem dX9_moves_25 : decode cX9_moves 25 = .ok (.aload_n 0, 1) := by decide +kernel
theorem dX9_moves_26 : decode cX9_moves 26 = .ok (.aload_n 0, 1) := by decide +kernel
theorem dX9_moves_27 : decode cX9_moves 27 = .ok (.getfield 25, 3) := by decide +kernel
theorem dX9_moves_30 : decode cX9_moves 30 = .ok (.ldc 56, 2) := by decide +kernel
theorem dX9_moves_32 : decode cX9_moves 32 = .ok (.iconst 0, 1) := by decide +kernel
theorem dX9_moves_33 : decode cX9_moves 33 = .ok (.invokevirtual 162, 3) := by decide +kernel
theorem dX9_moves_36 : decode cX9_moves 36 = .ok (.iconst 0, 1) := by decide +kernel
theorem dX9_moves_37 : decode cX9_moves 37 = .ok (.istore_n 2, 1) := by decide +kernel
theorem dX9_moves_38 : decode cX9_moves 38 = .ok (.iload_n 2, 1) := by decide +kernel
theorem dX9_moves_39 : decode cX9_moves 39 = .ok (.bipush 36, 2) := by decide +kernel
theorem dX9_moves_41 : decode cX9_moves 41 = .ok (.if_icmp .ge 21, 3) := by decide +kernel
theorem dX9_moves_44 : decode cX9_moves 44 = .ok (.aload_n 0, 1) := by decide +kernel
theorem dX9_moves_45 : decode cX9_moves 45 = .ok (.getfield 47, 3) := by decide +kernel
theorem dX9_moves_48 : decode cX9_moves 48 = .ok (.iload_n 2, 1) := by decide +kernel
theorem dX9_moves_49 : decode cX9_moves 49 = .ok (.aload_n 0, 1) := by decide +kernel
theorem dX9_moves_50 : decode cX9_moves 50 = .ok (.getfield 44, 3) := by decide +kernel
theorem dX9_moves_53 : decode cX9_moves 53 = .ok (.iload_n 2, 1) := by decide +kernel
theorem dX9_moves_54 : decode cX9_moves 54 = .ok (.iaload, 1) := by decide +kernel
theorem dX9_moves_55 : decode cX9_moves 55 = .ok (.iastore, 1) := by decide +kernel
theorem dX9_moves_56 : decode cX9_moves 56 = .ok (.iinc 2 1, 3) := by decide +kernel
theorem dX9_moves_59 : decode cX9_moves 59 = .ok (.goto (-21), 3) := by decide +kernel
theorem dX9_moves_62 : decode cX9_moves 62 = .ok (.aload_n 0, 1) := by decide +kernel
theorem dX9_moves_63 : decode cX9_moves 63 = .ok (.aload_n 0, 1) := by decide +kernel
theorem dX9_moves_64 : decode cX9_moves 64 = .ok (.getfield 25, 3) := by decide +kernel
theorem dX9_moves_67 : decode cX9_moves 67 = .ok (.iload_n 1, 1) := by decide +kernel
theorem dX9_moves_68 : decode cX9_moves 68 = .ok (.iconst 1, 1) := by decide +kernel
theorem dX9_moves_69 : decode cX9_moves 69 = .ok (.invokevirtual 162, 3) := by decide +kernel
theorem dX9_moves_72 : decode cX9_moves 72 = .ok (.iconst 0, 1) := by decide +kernel
theorem dX9_moves_73 : decode cX9_moves 73 = .ok (.istore_n 2, 1) := by decide +kernel
theorem dX9_moves_74 : decode cX9_moves 74 = .ok (.iconst 0, 1) := by decide +kernel
theorem dX9_moves_75 : decode cX9_moves 75 = .ok (.istore_n 3, 1) := by decide +kernel
theorem dX9_moves_76 : decode cX9_moves 76 = .ok (.iload_n 3, 1) := by decide +kernel
theorem dX9_moves_77 : decode cX9_moves 77 = .ok (.aload_n 0, 1) := by decide +kernel
theorem dX9_moves_78 : decode cX9_moves 78 = .ok (.getfield 25, 3) := by decide +kernel
theorem dX9_moves_81 : decode cX9_moves 81 = .ok (.iconst 3, 1) := by decide +kernel
theorem dX9_moves_82 : decode cX9_moves 82 = .ok (.iaload, 1) := by decide +kernel
theorem dX9_moves_83 : decode cX9_moves 83 = .ok (.if_icmp .ge 96, 3) := by decide +kernel
theorem dX9_moves_86 : decode cX9_moves 86 = .ok (.aload_n 0, 1) := by decide +kernel
theorem dX9_moves_87 : decode cX9_moves 87 = .ok (.getfield 47, 3) := by decide +kernel
theorem dX9_moves_90 : decode cX9_moves 90 = .ok (.iconst 3, 1) := by decide +kernel
theorem dX9_moves_91 : decode cX9_moves 91 = .ok (.iload_n 3, 1) := by decide +kernel
theorem dX9_moves_92 : decode cX9_moves 92 = .ok (.imul, 1) := by decide +kernel
theorem dX9_moves_93 : decode cX9_moves 93 = .ok (.iaload, 1) := by decide +kernel
theorem dX9_moves_94 : decode cX9_moves 94 = .ok (.aload_n 0, 1) := by decide +kernel
theorem dX9_moves_95 : decode cX9_moves 95 = .ok (.getfield 44, 3) := by decide +kernel
theorem dX9_moves_98 : decode cX9_moves 98 = .ok (.iconst 3, 1) := by decide +kernel
theorem dX9_moves_99 : decode cX9_moves 99 = .ok (.iload_n 3, 1) := by decide +kernel
theorem dX9_moves_100 : decode cX9_moves 100 = .ok (.imul, 1) := by decide +kernel
theorem dX9_moves_101 : decode cX9_moves 101 = .ok (.iaload, 1) := by decide +kernel
theorem dX9_moves_102 : decode cX9_moves 102 = .ok (.if_icmp .ne 53, 3) := by decide +kernel
theorem dX9_moves_105 : decode cX9_moves 105 = .ok (.aload_n 0, 1) := by decide +kernel
theorem dX9_moves_106 : decode cX9_moves 106 = .ok (.getfield 47, 3) := by decide +kernel
theorem dX9_moves_109 : decode cX9_moves 109 = .ok (.iconst 3, 1) := by decide +kernel
theorem dX9_moves_110 : decode cX9_moves 110 = .ok (.iload_n 3, 1) := by decide +kernel
theorem dX9_moves_111 : decode cX9_moves 111 = .ok (.imul, 1) := by decide +kernel
theorem dX9_moves_112 : decode cX9_moves 112 = .ok (.iconst 1, 1) := by decide +kernel
theorem dX9_moves_113 : decode cX9_moves 113 = .ok (.iadd, 1) := by decide +kernel
theorem dX9_moves_114 : decode cX9_moves 114 = .ok (.iaload, 1) := by decide +kernel
theorem dX9_moves_115 : decode cX9_moves 115 = .ok (.aload_n 0, 1) := by decide +kernel
theorem dX9_moves_116 : decode cX9_moves 116 = .ok (.getfield 44, 3) := by decide +kernel
theorem dX9_moves_119 : decode cX9_moves 119 = .ok (.iconst 3, 1) := by decide +kernel
theorem dX9_moves_120 : decode cX9_moves 120 = .ok (.iload_n 3, 1) := by decide +kernel
theorem dX9_moves_121 : decode cX9_moves 121 = .ok (.imul, 1) := by decide +kernel
theorem dX9_moves_122 : decode cX9_moves 122 = .ok (.iconst 1, 1) := by decide +kernel
theorem dX9_moves_123 : decode cX9_moves 123 = .ok (.iadd, 1) := by decide +kernel
theorem dX9_moves_124 : decode cX9_moves 124 = .ok (.iaload, 1) := by decide +kernel
theorem dX9_moves_125 : decode cX9_moves 125 = .ok (.if_icmp .ne 30, 3) := by decide +kernel
theorem dX9_moves_128 : decode cX9_moves 128 = .ok (.aload_n 0, 1) := by decide +kernel
theorem dX9_moves_129 : decode cX9_moves 129 = .ok (.getfield 47, 3) := by decide +kernel
theorem dX9_moves_132 : decode cX9_moves 132 = .ok (.iconst 3, 1) := by decide +kernel
theorem dX9_moves_133 : decode cX9_moves 133 = .ok (.iload_n 3, 1) := by decide +kernel
theorem dX9_moves_134 : decode cX9_moves 134 = .ok (.imul, 1) := by decide +kernel
theorem dX9_moves_135 : decode cX9_moves 135 = .ok (.iconst 2, 1) := by decide +kernel
theorem dX9_moves_136 : decode cX9_moves 136 = .ok (.iadd, 1) := by decide +kernel
theorem dX9_moves_137 : decode cX9_moves 137 = .ok (.iaload, 1) := by decide +kernel
theorem dX9_moves_138 : decode cX9_moves 138 = .ok (.aload_n 0, 1) := by decide +kernel
theorem dX9_moves_139 : decode cX9_moves 139 = .ok (.getfield 44, 3) := by decide +kernel
theorem dX9_moves_142 : decode cX9_moves 142 = .ok (.iconst 3, 1) := by decide +kernel
theorem dX9_moves_143 : decode cX9_moves 143 = .ok (.iload_n 3, 1) := by decide +kernel
theorem dX9_moves_144 : decode cX9_moves 144 = .ok (.imul, 1) := by decide +kernel
theorem dX9_moves_145 : decode cX9_moves 145 = .ok (.iconst 2, 1) := by decide +kernel
theorem dX9_moves_146 : decode cX9_moves 146 = .ok (.iadd, 1) := by decide +kernel
theorem dX9_moves_147 : decode cX9_moves 147 = .ok (.iaload, 1) := by decide +kernel
theorem dX9_moves_148 : decode cX9_moves 148 = .ok (.if_icmp .ne 7, 3) := by decide +kernel
theorem dX9_moves_151 : decode cX9_moves 151 = .ok (.iconst 1, 1) := by decide +kernel
theorem dX9_moves_152 : decode cX9_moves 152 = .ok (.goto 4, 3) := by decide +kernel
theorem dX9_moves_155 : decode cX9_moves 155 = .ok (.iconst 0, 1) := by decide +kernel
theorem dX9_moves_156 : decode cX9_moves 156 = .ok (.istore 4, 2) := by decide +kernel
theorem dX9_moves_158 : decode cX9_moves 158 = .ok (.iload_n 2, 1) := by decide +kernel
theorem dX9_moves_159 : decode cX9_moves 159 = .ok (.iload 4, 2) := by decide +kernel
theorem dX9_moves_161 : decode cX9_moves 161 = .ok (.ifCond .eq 7, 3) := by decide +kernel
theorem dX9_moves_164 : decode cX9_moves 164 = .ok (.iconst 0, 1) := by decide +kernel
theorem dX9_moves_165 : decode cX9_moves 165 = .ok (.goto 6, 3) := by decide +kernel
theorem dX9_moves_168 : decode cX9_moves 168 = .ok (.iconst 1, 1) := by decide +kernel
theorem dX9_moves_169 : decode cX9_moves 169 = .ok (.iload_n 3, 1) := by decide +kernel
theorem dX9_moves_170 : decode cX9_moves 170 = .ok (.ishl, 1) := by decide +kernel
theorem dX9_moves_171 : decode cX9_moves 171 = .ok (.ior, 1) := by decide +kernel
theorem dX9_moves_172 : decode cX9_moves 172 = .ok (.istore_n 2, 1) := by decide +kernel
theorem dX9_moves_173 : decode cX9_moves 173 = .ok (.iinc 3 1, 3) := by decide +kernel
theorem dX9_moves_176 : decode cX9_moves 176 = .ok (.goto (-100), 3) := by decide +kernel
theorem dX9_moves_179 : decode cX9_moves 179 = .ok (.iload_n 2, 1) := by decide +kernel
theorem dX9_moves_180 : decode cX9_moves 180 = .ok (.ireturn, 1) := by decide +kernel
theorem dX9_lastBy_0 : decode cX9_lastBy 0 = .ok (.aload_n 0, 1) := by decide +kernel
theorem dX9_lastBy_1 : decode cX9_lastBy 1 = .ok (.getfield 25, 3) := by decide +kernel
theorem dX9_lastBy_4 : decode cX9_lastBy 4 = .ok (.iconst 0, 1) := by decide +kernel
theorem dX9_lastBy_5 : decode cX9_lastBy 5 = .ok (.aload_n 0, 1) := by decide +kernel
theorem dX9_lastBy_6 : decode cX9_lastBy 6 = .ok (.getfield 31, 3) := by decide +kernel
theorem dX9_lastBy_9 : decode cX9_lastBy 9 = .ok (.iconst 0, 1) := by decide +kernel
theorem dX9_lastBy_10 : decode cX9_lastBy 10 = .ok (.invokestatic 145, 3) := by decide +kernel
theorem dX9_lastBy_13 : decode cX9_lastBy 13 = .ok (.aload_n 0, 1) := by decide +kernel
theorem dX9_lastBy_14 : decode cX9_lastBy 14 = .ok (.getfield 31, 3) := by decide +kernel
theorem dX9_lastBy_17 : decode cX9_lastBy 17 = .ok (.iload_n 1, 1) := by decide +kernel
theorem dX9_lastBy_18 : decode cX9_lastBy 18 = .ok (.iload_n 2, 1) := by decide +kernel
theorem dX9_lastBy_19 : decode cX9_lastBy 19 = .ok (.iastore, 1) := by decide +kernel
theorem dX9_lastBy_20 : decode cX9_lastBy 20 = .ok (.aload_n 0, 1) := by decide +kernel
theorem dX9_lastBy_21 : decode cX9_lastBy 21 = .ok (.getfield 31, 3) := by decide +kernel
theorem dX9_lastBy_24 : decode cX9_lastBy 24 = .ok (.invokestatic 215, 3) := by decide +kernel
theorem dX9_lastBy_27 : decode cX9_lastBy 27 = .ok (.aload_n 0, 1) := by decide +kernel
theorem dX9_lastBy_28 : decode cX9_lastBy 28 = .ok (.aload_n 0, 1) := by decide +kernel
theorem dX9_lastBy_29 : decode cX9_lastBy 29 = .ok (.getfield 31, 3) := by decide +kernel
theorem dX9_lastBy_32 : decode cX9_lastBy 32 = .ok (.invokevirtual 198, 3) := by decide +kernel
theorem dX9_lastBy_35 : decode cX9_lastBy 35 = .ok (.aload_n 0, 1) := by decide +kernel
theorem dX9_lastBy_36 : decode cX9_lastBy 36 = .ok (.getfield 31, 3) := by decide +kernel
theorem dX9_lastBy_39 : decode cX9_lastBy 39 = .ok (.invokestatic 222, 3) := by decide +kernel
theorem dX9_lastBy_42 : decode cX9_lastBy 42 = .ok (.ireturn, 1) := by decide +kernel
theorem dX9_room_0 : decode cX9_room 0 = .ok (.aload_n 0, 1) := by decide +kernel
theorem dX9_room_1 : decode cX9_room 1 = .ok (.iload_n 1, 1) := by decide +kernel
theorem dX9_room_2 : decode cX9_room 2 = .ok (.invokevirtual 202, 3) := by decide +kernel
theorem dX9_room_5 : decode cX9_room 5 = .ok (.ifCond .eq 17, 3) := by decide +kernel
theorem dX9_room_8 : decode cX9_room 8 = .ok (.aload_n 0, 1) := by decide +kernel
theorem dX9_room_9 : decode cX9_room 9 = .ok (.getfield 25, 3) := by decide +kernel
theorem dX9_room_12 : decode cX9_room 12 = .ok (.iconst 5, 1) := by decide +kernel
theorem dX9_room_13 : decode cX9_room 13 = .ok (.iconst 4, 1) := by decide +kernel
theorem dX9_room_14 : decode cX9_room 14 = .ok (.iload_n 1, 1) := by decide +kernel
theorem dX9_room_15 : decode cX9_room 15 = .ok (.imul, 1) := by decide +kernel
theorem dX9_room_16 : decode cX9_room 16 = .ok (.iadd, 1) := by decide +kernel
theorem dX9_room_17 : decode cX9_room 17 = .ok (.iaload, 1) := by decide +kernel
theorem dX9_room_18 : decode cX9_room 18 = .ok (.iconst 4, 1) := by decide +kernel
theorem dX9_room_19 : decode cX9_room 19 = .ok (.if_icmp .eq 6, 3) := by decide +kernel
theorem dX9_room_22 : decode cX9_room 22 = .ok (.ldc 70, 2) := by decide +kernel
theorem dX9_room_24 : decode cX9_room 24 = .ok (.ireturn, 1) := by decide +kernel
theorem dX9_room_25 : decode cX9_room 25 = .ok (.iconst 5, 1) := by decide +kernel
theorem dX9_room_26 : decode cX9_room 26 = .ok (.iconst 4, 1) := by decide +kernel
theorem dX9_room_27 : decode cX9_room 27 = .ok (.iload_n 1, 1) := by decide +kernel
theorem dX9_room_28 : decode cX9_room 28 = .ok (.imul, 1) := by decide +kernel
theorem dX9_room_29 : decode cX9_room 29 = .ok (.iadd, 1) := by decide +kernel
theorem dX9_room_30 : decode cX9_room 30 = .ok (.iconst 1, 1) := by decide +kernel
theorem dX9_room_31 : decode cX9_room 31 = .ok (.iadd, 1) := by decide +kernel
theorem dX9_room_32 : decode cX9_room 32 = .ok (.istore_n 2, 1) := by decide +kernel
theorem dX9_room_33 : decode cX9_room 33 = .ok (.aload_n 0, 1) := by decide +kernel
theorem dX9_room_34 : decode cX9_room 34 = .ok (.iload_n 2, 1) := by decide +kernel
theorem dX9_room_35 : decode cX9_room 35 = .ok (.aload_n 0, 1) := by decide +kernel
theorem dX9_room_36 : decode cX9_room 36 = .ok (.getfield 25, 3) := by decide +kernel
theorem dX9_room_39 : decode cX9_room 39 = .ok (.iload_n 2, 1) := by decide +kernel
theorem dX9_room_40 : decode cX9_room 40 = .ok (.iaload, 1) := by decide +kernel
theorem dX9_room_41 : decode cX9_room 41 = .ok (.invokevirtual 225, 3) := by decide +kernel
theorem dX9_room_44 : decode cX9_room 44 = .ok (.istore_n 3, 1) := by decide +kernel
theorem dX9_room_45 : decode cX9_room 45 = .ok (.bipush 20, 2) := by decide +kernel
theorem dX9_room_47 : decode cX9_room 47 = .ok (.istore 4, 2) := by decide +kernel
theorem dX9_room_49 : decode cX9_room 49 = .ok (.iload 4, 2) := by decide +kernel
theorem dX9_room_51 : decode cX9_room 51 = .ok (.aload_n 0, 1) := by decide +kernel
theorem dX9_room_52 : decode cX9_room 52 = .ok (.getfield 25, 3) := by decide +kernel
theorem dX9_room_55 : decode cX9_room 55 = .ok (.iload_n 2, 1) := by decide +kernel
theorem dX9_room_56 : decode cX9_room 56 = .ok (.iaload, 1) := by decide +kernel
theorem dX9_room_57 : decode cX9_room 57 = .ok (.if_icmp .le 20, 3) := by decide +kernel
theorem dX9_room_60 : decode cX9_room 60 = .ok (.aload_n 0, 1) := by decide +kernel
theorem dX9_room_61 : decode cX9_room 61 = .ok (.iload_n 2, 1) := by decide +kernel
theorem dX9_room_62 : decode cX9_room 62 = .ok (.iload 4, 2) := by decide +kernel
theorem dX9_room_64 : decode cX9_room 64 = .ok (.invokevirtual 225, 3) := by decide +kernel
theorem dX9_room_67 : decode cX9_room 67 = .ok (.iload_n 3, 1) := by decide +kernel
theorem dX9_room_68 : decode cX9_room 68 = .ok (.if_icmp .eq 9, 3) := by decide +kernel
theorem dX9_room_71 : decode cX9_room 71 = .ok (.iinc 4 (-1), 3) := by decide +kernel
theorem dX9_room_74 : decode cX9_room 74 = .ok (.goto (-25), 3) := by decide +kernel
theorem dX9_room_77 : decode cX9_room 77 = .ok (.iload 4, 2) := by decide +kernel
theorem dX9_room_79 : decode cX9_room 79 = .ok (.ireturn, 1) := by decide +kernel
theorem dX9_restless_0 : decode cX9_restless 0 = .ok (.aload_n 0, 1) := by decide +kernel
theorem dX9_restless_1 : decode cX9_restless 1 = .ok (.invokevirtual 191, 3) := by decide +kernel
theorem dX9_restless_4 : decode cX9_restless 4 = .ok (.ifCond .ne 6, 3) := by decide +kernel
theorem dX9_restless_7 : decode cX9_restless 7 = .ok (.ldc 194, 2) := by decide +kernel
theorem dX9_restless_9 : decode cX9_restless 9 = .ok (.ireturn, 1) := by decide +kernel
theorem dX9_restless_10 : decode cX9_restless 10 = .ok (.iconst 1, 1) := by decide +kernel
theorem dX9_restless_11 : decode cX9_restless 11 = .ok (.istore_n 1, 1) := by decide +kernel
theorem dX9_restless_12 : decode cX9_restless 12 = .ok (.iload_n 1, 1) := by decide +kernel
theorem dX9_restless_13 : decode cX9_restless 13 = .ok (.bipush 88, 2) := by decide +kernel
theorem dX9_restless_15 : decode cX9_restless 15 = .ok (.if_icmp .ge 25, 3) := by decide +kernel
theorem dX9_restless_18 : decode cX9_restless 18 = .ok (.aload_n 0, 1) := by decide +kernel
theorem dX9_restless_19 : decode cX9_restless 19 = .ok (.iconst 2, 1) := by decide +kernel
theorem dX9_restless_20 : decode cX9_restless 20 = .ok (.iload_n 1, 1) := by decide +kernel
theorem dX9_restless_21 : decode cX9_restless 21 = .ok (.invokevirtual 225, 3) := by decide +kernel
theorem dX9_restless_24 : decode cX9_restless 24 = .ok (.pop, 1) := by decide +kernel
theorem dX9_restless_25 : decode cX9_restless 25 = .ok (.aload_n 0, 1) := by decide +kernel
theorem dX9_restless_26 : decode cX9_restless 26 = .ok (.getfield 169, 3) := by decide +kernel
theorem dX9_restless_29 : decode cX9_restless 29 = .ok (.ifCond .le 5, 3) := by decide +kernel
theorem dX9_restless_32 : decode cX9_restless 32 = .ok (.iload_n 1, 1) := by decide +kernel
theorem dX9_restless_33 : decode cX9_restless 33 = .ok (.ireturn, 1) := by decide +kernel
theorem dX9_restless_34 : decode cX9_restless 34 = .ok (.iinc 1 1, 3) := by decide +kernel
theorem dX9_restless_37 : decode cX9_restless 37 = .ok (.goto (-25), 3) := by decide +kernel
theorem dX9_restless_40 : decode cX9_restless 40 = .ok (.ldc 56, 2) := by decide +kernel
theorem dX9_restless_42 : decode cX9_restless 42 = .ok (.ireturn, 1) := by decide +kernel
theorem dX9_isSeen_0 : decode cX9_isSeen 0 = .ok (.aload_n 0, 1) := by decide +kernel
theorem dX9_isSeen_1 : decode cX9_isSeen 1 = .ok (.getfield 25, 3) := by decide +kernel
theorem dX9_isSeen_4 : decode cX9_isSeen 4 = .ok (.iconst 0, 1) := by decide +kernel
theorem dX9_isSeen_5 : decode cX9_isSeen 5 = .ok (.aload_n 0, 1) := by decide +kernel
theorem dX9_isSeen_6 : decode cX9_isSeen 6 = .ok (.getfield 31, 3) := by decide +kernel
theorem dX9_isSeen_9 : decode cX9_isSeen 9 = .ok (.iconst 0, 1) := by decide +kernel
theorem dX9_isSeen_10 : decode cX9_isSeen 10 = .ok (.invokestatic 145, 3) := by decide +kernel
theorem dX9_isSeen_13 : decode cX9_isSeen 13 = .ok (.aload_n 0, 1) := by decide +kernel
theorem dX9_isSeen_14 : decode cX9_isSeen 14 = .ok (.getfield 31, 3) := by decide +kernel
theorem dX9_isSeen_17 : decode cX9_isSeen 17 = .ok (.iload 4, 2) := by decide +kernel
theorem dX9_isSeen_19 : decode cX9_isSeen 19 = .ok (.iload 5, 2) := by decide +kernel
theorem dX9_isSeen_21 : decode cX9_isSeen 21 = .ok (.iastore, 1) := by decide +kernel
theorem dX9_isSeen_22 : decode cX9_isSeen 22 = .ok (.iconst 1, 1) := by decide +kernel
theorem dX9_isSeen_23 : decode cX9_isSeen 23 = .ok (.istore 6, 2) := by decide +kernel
theorem dX9_isSeen_25 : decode cX9_isSeen 25 = .ok (.iconst 0, 1) := by decide +kernel
theorem dX9_isSeen_26 : decode cX9_isSeen 26 = .ok (.istore 7, 2) := by decide +kernel
theorem dX9_isSeen_28 : decode cX9_isSeen 28 = .ok (.iload 7, 2) := by decide +kernel
theorem dX9_isSeen_30 : decode cX9_isSeen 30 = .ok (.iload_n 3, 1) := by decide +kernel
theorem dX9_isSeen_31 : decode cX9_isSeen 31 = .ok (.if_icmp .ge 54, 3) := by decide +kernel
theorem dX9_isSeen_34 : decode cX9_isSeen 34 = .ok (.aload_n 0, 1) := by decide +kernel
theorem dX9_isSeen_35 : decode cX9_isSeen 35 = .ok (.aload_n 0, 1) := by decide +kernel
theorem dX9_isSeen_36 : decode cX9_isSeen 36 = .ok (.getfield 31, 3) := by decide +kernel
theorem dX9_isSeen_39 : decode cX9_isSeen 39 = .ok (.invokevirtual 182, 3) := by decide +kernel
theorem dX9_isSeen_42 : decode cX9_isSeen 42 = .ok (.pop, 1) := by decide +kernel
theorem dX9_isSeen_43 : decode cX9_isSeen 43 = .ok (.iload 6, 2) := by decide +kernel
theorem dX9_isSeen_45 : decode cX9_isSeen 45 = .ok (.ifCond .eq 31, 3) := by decide +kernel
theorem dX9_isSeen_48 : decode cX9_isSeen 48 = .ok (.aload_n 0, 1) := by decide +kernel
theorem dX9_isSeen_49 : decode cX9_isSeen 49 = .ok (.getfield 31, 3) := by decide +kernel
theorem dX9_isSeen_52 : decode cX9_isSeen 52 = .ok (.iconst 5, 1) := by decide +kernel
theorem dX9_isSeen_53 : decode cX9_isSeen 53 = .ok (.iconst 4, 1) := by decide +kernel
theorem dX9_isSeen_54 : decode cX9_isSeen 54 = .ok (.iload_n 1, 1) := by decide +kernel
theorem dX9_isSeen_55 : decode cX9_isSeen 55 = .ok (.imul, 1) := by decide +kernel
theorem dX9_isSeen_56 : decode cX9_isSeen 56 = .ok (.iadd, 1) := by decide +kernel
theorem dX9_isSeen_57 : decode cX9_isSeen 57 = .ok (.iconst 2, 1) := by decide +kernel
theorem dX9_isSeen_58 : decode cX9_isSeen 58 = .ok (.iadd, 1) := by decide +kernel
theorem dX9_isSeen_59 : decode cX9_isSeen 59 = .ok (.iaload, 1) := by decide +kernel
theorem dX9_isSeen_60 : decode cX9_isSeen 60 = .ok (.aload_n 0, 1) := by decide +kernel
theorem dX9_isSeen_61 : decode cX9_isSeen 61 = .ok (.getfield 16, 3) := by decide +kernel
theorem dX9_isSeen_64 : decode cX9_isSeen 64 = .ok (.iload_n 2, 1) := by decide +kernel
theorem dX9_isSeen_65 : decode cX9_isSeen 65 = .ok (.iload 7, 2) := by decide +kernel
theorem dX9_isSeen_67 : decode cX9_isSeen 67 = .ok (.iadd, 1) := by decide +kernel
theorem dX9_isSeen_68 : decode cX9_isSeen 68 = .ok (.iaload, 1) := by decide +kernel
theorem dX9_isSeen_69 : decode cX9_isSeen 69 = .ok (.if_icmp .ne 7, 3) := by decide +kernel
theorem dX9_isSeen_72 : decode cX9_isSeen 72 = .ok (.iconst 1, 1) := by decide +kernel
theorem dX9_isSeen_73 : decode cX9_isSeen 73 = .ok (.goto 4, 3) := by decide +kernel
theorem dX9_isSeen_76 : decode cX9_isSeen 76 = .ok (.iconst 0, 1) := by decide +kernel
theorem dX9_isSeen_77 : decode cX9_isSeen 77 = .ok (.istore 6, 2) := by decide +kernel
theorem dX9_isSeen_79 : decode cX9_isSeen 79 = .ok (.iinc 7 1, 3) := by decide +kernel
theorem dX9_isSeen_82 : decode cX9_isSeen 82 = .ok (.goto (-54), 3) := by decide +kernel
theorem dX9_isSeen_85 : decode cX9_isSeen 85 = .ok (.iload 6, 2) := by decide +kernel
theorem dX9_isSeen_87 : decode cX9_isSeen 87 = .ok (.ireturn, 1) := by decide +kernel
theorem dX9_fits_0 : decode cX9_fits 0 = .ok (.aload_n 0, 1) := by decide +kernel
theorem dX9_fits_1 : decode cX9_fits 1 = .ok (.iload_n 1, 1) := by decide +kernel
theorem dX9_fits_2 : decode cX9_fits 2 = .ok (.invokevirtual 202, 3) := by decide +kernel
theorem dX9_fits_5 : decode cX9_fits 5 = .ok (.ifCond .eq 31, 3) := by decide +kernel
theorem dX9_fits_8 : decode cX9_fits 8 = .ok (.iload_n 2, 1) := by decide +kernel
theorem dX9_fits_9 : decode cX9_fits 9 = .ok (.invokestatic 66, 3) := by decide +kernel
theorem dX9_fits_12 : decode cX9_fits 12 = .ok (.ifCond .eq 24, 3) := by decide +kernel
theorem dX9_fits_15 : decode cX9_fits 15 = .ok (.iload 4, 2) := by decide +kernel
theorem dX9_fits_17 : decode cX9_fits 17 = .ok (.iconst 1, 1) := by decide +kernel
theorem dX9_fits_18 : decode cX9_fits 18 = .ok (.bipush 12, 2) := by decide +kernel
theorem dX9_fits_20 : decode cX9_fits 20 = .ok (.invokestatic 62, 3) := by decide +kernel
theorem dX9_fits_23 : decode cX9_fits 23 = .ok (.ifCond .eq 13, 3) := by decide +kernel
theorem dX9_fits_26 : decode cX9_fits 26 = .ok (.iload 5, 2) := by decide +kernel
theorem dX9_fits_28 : decode cX9_fits 28 = .ok (.iconst 0, 1) := by decide +kernel
theorem dX9_fits_29 : decode cX9_fits 29 = .ok (.iconst 3, 1) := by decide +kernel
theorem dX9_fits_30 : decode cX9_fits 30 = .ok (.invokestatic 62, 3) := by decide +kernel
theorem dX9_fits_33 : decode cX9_fits 33 = .ok (.ifCond .ne 6, 3) := by decide +kernel
theorem dX9_fits_36 : decode cX9_fits 36 = .ok (.ldc 70, 2) := by decide +kernel
theorem dX9_fits_38 : decode cX9_fits 38 = .ok (.ireturn, 1) := by decide +kernel
theorem dX9_fits_39 : decode cX9_fits 39 = .ok (.aload_n 0, 1) := by decide +kernel
theorem dX9_fits_40 : decode cX9_fits 40 = .ok (.iload_n 2, 1) := by decide +kernel
theorem dX9_fits_41 : decode cX9_fits 41 = .ok (.invokevirtual 78, 3) := by decide +kernel
theorem dX9_fits_44 : decode cX9_fits 44 = .ok (.ifCond .eq 9, 3) := by decide +kernel
theorem dX9_fits_47 : decode cX9_fits 47 = .ok (.aload_n 0, 1) := by decide +kernel
theorem dX9_fits_48 : decode cX9_fits 48 = .ok (.iconst 1, 1) := by decide +kernel
theorem dX9_fits_49 : decode cX9_fits 49 = .ok (.invokevirtual 71, 3) := by decide +kernel
theorem dX9_fits_52 : decode cX9_fits 52 = .ok (.ireturn, 1) := by decide +kernel
theorem dX9_fits_53 : decode cX9_fits 53 = .ok (.aload_n 0, 1) := by decide +kernel
theorem dX9_fits_54 : decode cX9_fits 54 = .ok (.iload_n 2, 1) := by decide +kernel
theorem dX9_fits_55 : decode cX9_fits 55 = .ok (.iload_n 3, 1) := by decide +kernel
theorem dX9_fits_56 : decode cX9_fits 56 = .ok (.iload 4, 2) := by decide +kernel
theorem dX9_fits_58 : decode cX9_fits 58 = .ok (.invokevirtual 85, 3) := by decide +kernel
theorem dX9_fits_61 : decode cX9_fits 61 = .ok (.ifCond .ne 9, 3) := by decide +kernel
theorem dX9_fits_64 : decode cX9_fits 64 = .ok (.aload_n 0, 1) := by decide +kernel
theorem dX9_fits_65 : decode cX9_fits 65 = .ok (.iconst 2, 1) := by decide +kernel
theorem dX9_fits_66 : decode cX9_fits 66 = .ok (.invokevirtual 71, 3) := by decide +kernel
theorem dX9_fits_69 : decode cX9_fits 69 = .ok (.ireturn, 1) := by decide +kernel
theorem dX9_fits_70 : decode cX9_fits 70 = .ok (.bipush 40, 2) := by decide +kernel
theorem dX9_fits_72 : decode cX9_fits 72 = .ok (.iload_n 2, 1) := by decide +kernel
theorem dX9_fits_73 : decode cX9_fits 73 = .ok (.imul, 1) := by decide +kernel
theorem dX9_fits_74 : decode cX9_fits 74 = .ok (.iload_n 3, 1) := by decide +kernel
theorem dX9_fits_75 : decode cX9_fits 75 = .ok (.iadd, 1) := by decide +kernel
theorem dX9_fits_76 : decode cX9_fits 76 = .ok (.istore 6, 2) := by decide +kernel
theorem dX9_fits_78 : decode cX9_fits 78 = .ok (.iconst 5, 1) := by decide +kernel
theorem dX9_fits_79 : decode cX9_fits 79 = .ok (.iconst 4, 1) := by decide +kernel
theorem dX9_fits_80 : decode cX9_fits 80 = .ok (.iload_n 1, 1) := by decide +kernel
theorem dX9_fits_81 : decode cX9_fits 81 = .ok (.imul, 1) := by decide +kernel
theorem dX9_fits_82 : decode cX9_fits 82 = .ok (.iadd, 1) := by decide +kernel
theorem dX9_fits_83 : decode cX9_fits 83 = .ok (.istore 7, 2) := by decide +kernel
theorem dX9_fits_85 : decode cX9_fits 85 = .ok (.iconst 0, 1) := by decide +kernel
theorem dX9_fits_86 : decode cX9_fits 86 = .ok (.istore 8, 2) := by decide +kernel
theorem dX9_fits_88 : decode cX9_fits 88 = .ok (.iconst 0, 1) := by decide +kernel
theorem dX9_fits_89 : decode cX9_fits 89 = .ok (.istore 9, 2) := by decide +kernel
theorem dX9_fits_91 : decode cX9_fits 91 = .ok (.ldc 56, 2) := by decide +kernel
theorem dX9_fits_93 : decode cX9_fits 93 = .ok (.istore 10, 2) := by decide +kernel
theorem dX9_fits_95 : decode cX9_fits 95 = .ok (.iload 5, 2) := by decide +kernel
theorem dX9_fits_97 : decode cX9_fits 97 = .ok (.ifCond .ne 7, 3) := by decide +kernel
theorem dX9_fits_100 : decode cX9_fits 100 = .ok (.iconst 5, 1) := by decide +kernel
theorem dX9_fits_101 : decode cX9_fits 101 = .ok (.goto 16, 3) := by decide +kernel
theorem dX9_fits_104 : decode cX9_fits 104 = .ok (.iload 5, 2) := by decide +kernel
theorem dX9_fits_106 : decode cX9_fits 106 = .ok (.iconst 1, 1) := by decide +kernel
theorem dX9_fits_107 : decode cX9_fits 107 = .ok (.if_icmp .ne 8, 3) := by decide +kernel
theorem dX9_fits_110 : decode cX9_fits 110 = .ok (.bipush 20, 2) := by decide +kernel
theorem dX9_fits_112 : decode cX9_fits 112 = .ok (.goto 5, 3) := by decide +kernel
theorem dX9_fits_115 : decode cX9_fits 115 = .ok (.bipush 87, 2) := by decide +kernel
theorem dX9_fits_117 : decode cX9_fits 117 = .ok (.istore 11, 2) := by decide +kernel
theorem dX9_fits_119 : decode cX9_fits 119 = .ok (.iload 11, 2) := by decide +kernel
theorem dX9_fits_121 : decode cX9_fits 121 = .ok (.iload 5, 2) := by decide +kernel
theorem dX9_fits_123 : decode cX9_fits 123 = .ok (.iconst 1, 1) := by decide +kernel
theorem dX9_fits_124 : decode cX9_fits 124 = .ok (.if_icmp .ne 7, 3) := by decide +kernel
theorem dX9_fits_127 : decode cX9_fits 127 = .ok (.iconst (-1), 1) := by decide +kernel
theorem dX9_fits_128 : decode cX9_fits 128 = .ok (.goto 4, 3) := by decide +kernel
theorem dX9_fits_131 : decode cX9_fits 131 = .ok (.iconst 0, 1) := by decide +kernel
theorem dX9_fits_132 : decode cX9_fits 132 = .ok (.if_icmp .le 133, 3) := by decide +kernel
theorem dX9_fits_135 : decode cX9_fits 135 = .ok (.iload 5, 2) := by decide +kernel
theorem dX9_fits_137 : decode cX9_fits 137 = .ok (.iconst 1, 1) := by decide +kernel
theorem dX9_fits_138 : decode cX9_fits 138 = .ok (.if_icmp .gt 45, 3) := by decide +kernel
theorem dX9_fits_141 : decode cX9_fits 141 = .ok (.iload 5, 2) := by decide +kernel
theorem dX9_fits_143 : decode cX9_fits 143 = .ok (.ifCond .ne 24, 3) := by decide +kernel
theorem dX9_fits_146 : decode cX9_fits 146 = .ok (.aload_n 0, 1) := by decide +kernel
theorem dX9_fits_147 : decode cX9_fits 147 = .ok (.iload 11, 2) := by decide +kernel
theorem dX9_fits_149 : decode cX9_fits 149 = .ok (.aload_n 0, 1) := by decide +kernel
theorem dX9_fits_150 : decode cX9_fits 150 = .ok (.getfield 25, 3) := by decide +kernel
theorem dX9_fits_153 : decode cX9_fits 153 = .ok (.iload 7, 2) := by decide +kernel
theorem dX9_fits_155 : decode cX9_fits 155 = .ok (.iconst 1, 1) := by decide +kernel
theorem dX9_fits_156 : decode cX9_fits 156 = .ok (.iadd, 1) := by decide +kernel
theorem dX9_fits_157 : decode cX9_fits 157 = .ok (.iaload, 1) := by decide +kernel
theorem dX9_fits_158 : decode cX9_fits 158 = .ok (.invokevirtual 205, 3) := by decide +kernel
theorem dX9_fits_161 : decode cX9_fits 161 = .ok (.ifCond .eq 26, 3) := by decide +kernel
theorem dX9_fits_164 : decode cX9_fits 164 = .ok (.goto 19, 3) := by decide +kernel
theorem dX9_fits_167 : decode cX9_fits 167 = .ok (.aload_n 0, 1) := by decide +kernel
theorem dX9_fits_168 : decode cX9_fits 168 = .ok (.aload_n 0, 1) := by decide +kernel
theorem dX9_fits_169 : decode cX9_fits 169 = .ok (.getfield 25, 3) := by decide +kernel
theorem dX9_fits_172 : decode cX9_fits 172 = .ok (.iload 7, 2) := by decide +kernel
theorem dX9_fits_174 : decode cX9_fits 174 = .ok (.iaload, 1) := by decide +kernel
theorem dX9_fits_175 : decode cX9_fits 175 = .ok (.iload 11, 2) := by decide +kernel
theorem dX9_fits_177 : decode cX9_fits 177 = .ok (.invokevirtual 205, 3) := by decide +kernel
theorem dX9_fits_180 : decode cX9_fits 180 = .ok (.ifCond .eq 7, 3) := by decide +kernel
theorem dX9_fits_183 : decode cX9_fits 183 = .ok (.iconst 1, 1) := by decide +kernel
theorem dX9_fits_184 : decode cX9_fits 184 = .ok (.goto 4, 3) := by decide +kernel
theorem dX9_fits_187 : decode cX9_fits 187 = .ok (.iconst 0, 1) := by decide +kernel
theorem dX9_fits_188 : decode cX9_fits 188 = .ok (.istore 12, 2) := by decide +kernel
theorem dX9_fits_190 : decode cX9_fits 190 = .ok (.iload 12, 2) := by decide +kernel
theorem dX9_fits_192 : decode cX9_fits 192 = .ok (.ifCond .eq 67, 3) := by decide +kernel
theorem dX9_fits_195 : decode cX9_fits 195 = .ok (.aload_n 0, 1) := by decide +kernel
theorem dX9_fits_196 : decode cX9_fits 196 = .ok (.iload_n 1, 1) := by decide +kernel
theorem dX9_fits_197 : decode cX9_fits 197 = .ok (.iload 6, 2) := by decide +kernel
theorem dX9_fits_199 : decode cX9_fits 199 = .ok (.iload 4, 2) := by decide +kernel
theorem dX9_fits_201 : decode cX9_fits 201 = .ok (.iload 5, 2) := by decide +kernel
theorem dX9_fits_203 : decode cX9_fits 203 = .ok (.ifCond .ne 8, 3) := by decide +kernel
theorem dX9_fits_206 : decode cX9_fits 206 = .ok (.iload 7, 2) := by decide +kernel
theorem dX9_fits_208 : decode cX9_fits 208 = .ok (.goto 17, 3) := by decide +kernel
theorem dX9_fits_211 : decode cX9_fits 211 = .ok (.iload 5, 2) := by decide +kernel
theorem dX9_fits_213 : decode cX9_fits 213 = .ok (.iconst 1, 1) := by decide +kernel
theorem dX9_fits_214 : decode cX9_fits 214 = .ok (.if_icmp .ne 10, 3) := by decide +kernel
theorem dX9_fits_217 : decode cX9_fits 217 = .ok (.iload 7, 2) := by decide +kernel
theorem dX9_fits_219 : decode cX9_fits 219 = .ok (.iconst 1, 1) := by decide +kernel
theorem dX9_fits_220 : decode cX9_fits 220 = .ok (.iadd, 1) := by decide +kernel
theorem dX9_fits_221 : decode cX9_fits 221 = .ok (.goto 4, 3) := by decide +kernel
theorem dX9_fits_224 : decode cX9_fits 224 = .ok (.iconst 2, 1) := by decide +kernel
theorem dX9_fits_225 : decode cX9_fits 225 = .ok (.iload 11, 2) := by decide +kernel
theorem dX9_fits_227 : decode cX9_fits 227 = .ok (.invokevirtual 228, 3) := by decide +kernel
theorem dX9_fits_230 : decode cX9_fits 230 = .ok (.ifCond .eq 29, 3) := by decide +kernel
theorem dX9_fits_233 : decode cX9_fits 233 = .ok (.iload 8, 2) := by decide +kernel
theorem dX9_fits_235 : decode cX9_fits 235 = .ok (.iload 5, 2) := by decide +kernel
theorem dX9_fits_237 : decode cX9_fits 237 = .ok (.iconst 2, 1) := by decide +kernel
theorem dX9_fits_238 : decode cX9_fits 238 = .ok (.if_icmp .ge 10, 3) := by decide +kernel
theorem dX9_fits_241 : decode cX9_fits 241 = .ok (.iconst 1, 1) := by decide +kernel
theorem dX9_fits_242 : decode cX9_fits 242 = .ok (.iload 11, 2) := by decide +kernel
theorem dX9_fits_244 : decode cX9_fits 244 = .ok (.ishl, 1) := by decide +kernel
theorem dX9_fits_245 : decode cX9_fits 245 = .ok (.goto 4, 3) := by decide +kernel
theorem dX9_fits_248 : decode cX9_fits 248 = .ok (.iconst 0, 1) := by decide +kernel
theorem dX9_fits_249 : decode cX9_fits 249 = .ok (.ior, 1) := by decide +kernel
theorem dX9_fits_250 : decode cX9_fits 250 = .ok (.istore 8, 2) := by decide +kernel
theorem dX9_fits_252 : decode cX9_fits 252 = .ok (.iinc 9 1, 3) := by decide +kernel
theorem dX9_fits_255 : decode cX9_fits 255 = .ok (.iload 11, 2) := by decide +kernel
theorem dX9_fits_257 : decode cX9_fits 257 = .ok (.istore 10, 2) := by decide +kernel
theorem dX9_fits_259 : decode cX9_fits 259 = .ok (.iinc 11 (-1), 3) := by decide +kernel
theorem dX9_fits_262 : decode cX9_fits 262 = .ok (.goto (-143), 3) := by decide +kernel
theorem dX9_fits_265 : decode cX9_fits 265 = .ok (.aload_n 0, 1) := by decide +kernel
theorem dX9_fits_266 : decode cX9_fits 266 = .ok (.iload 5, 2) := by decide +kernel
theorem dX9_fits_268 : decode cX9_fits 268 = .ok (.iconst 2, 1) := by decide +kernel
theorem dX9_fits_269 : decode cX9_fits 269 = .ok (.if_icmp .ge 8, 3) := by decide +kernel
theorem dX9_fits_272 : decode cX9_fits 272 = .ok (.iload 8, 2) := by decide +kernel
theorem dX9_fits_274 : decode cX9_fits 274 = .ok (.goto 16, 3) := by decide +kernel
theorem dX9_fits_277 : decode cX9_fits 277 = .ok (.iload 5, 2) := by decide +kernel
theorem dX9_fits_279 : decode cX9_fits 279 = .ok (.iconst 2, 1) := by decide +kernel
theorem dX9_fits_280 : decode cX9_fits 280 = .ok (.if_icmp .ne 8, 3) := by decide +kernel
theorem dX9_fits_283 : decode cX9_fits 283 = .ok (.iload 9, 2) := by decide +kernel
theorem dX9_fits_285 : decode cX9_fits 285 = .ok (.goto 5, 3) := by decide +kernel
theorem dX9_fits_288 : decode cX9_fits 288 = .ok (.iload 10, 2) := by decide +kernel
theorem dX9_fits_290 : decode cX9_fits 290 = .ok (.invokevirtual 75, 3) := by decide +kernel
theorem dX9_fits_293 : decode cX9_fits 293 = .ok (.ireturn, 1) := by decide +kernel
theorem dX9_chance_0 : decode cX9_chance 0 = .ok (.aload_n 0, 1) := by decide +kernel
theorem dX9_chance_1 : decode cX9_chance 1 = .ok (.invokevirtual 191, 3) := by decide +kernel
theorem dX9_chance_4 : decode cX9_chance 4 = .ok (.ifCond .ne 7, 3) := by decide +kernel
theorem dX9_chance_7 : decode cX9_chance 7 = .ok (.ldc2_w 232, 3) := by decide +kernel
theorem dX9_chance_10 : decode cX9_chance 10 = .ok (.lreturn, 1) := by decide +kernel
theorem dX9_chance_11 : decode cX9_chance 11 = .ok (.iload_n 1, 1) := by decide +kernel
theorem dX9_chance_12 : decode cX9_chance 12 = .ok (.iconst 0, 1) := by decide +kernel
theorem dX9_chance_13 : decode cX9_chance 13 = .ok (.bipush 10, 2) := by decide +kernel
theorem dX9_chance_15 : decode cX9_chance 15 = .ok (.invokestatic 62, 3) := by decide +kernel
theorem dX9_chance_18 : decode cX9_chance 18 = .ok (.ifCond .eq 12, 3) := by decide +kernel
theorem dX9_chance_21 : decode cX9_chance 21 = .ok (.iload_n 2, 1) := by decide +kernel
theorem dX9_chance_22 : decode cX9_chance 22 = .ok (.iconst 0, 1) := by decide +kernel
theorem dX9_chance_23 : decode cX9_chance 23 = .ok (.iconst 1, 1) := by decide +kernel
theorem dX9_chance_24 : decode cX9_chance 24 = .ok (.invokestatic 62, 3) := by decide +kernel
theorem dX9_chance_27 : decode cX9_chance 27 = .ok (.ifCond .ne 7, 3) := by decide +kernel
theorem dX9_chance_30 : decode cX9_chance 30 = .ok (.ldc2_w 234, 3) := by decide +kernel
theorem dX9_chance_33 : decode cX9_chance 33 = .ok (.lreturn, 1) := by decide +kernel
theorem dX9_chance_34 : decode cX9_chance 34 = .ok (.iconst 0, 1) := by decide +kernel
theorem dX9_chance_35 : decode cX9_chance 35 = .ok (.istore_n 3, 1) := by decide +kernel
theorem dX9_chance_36 : decode cX9_chance 36 = .ok (.lconst 1, 1) := by decide +kernel
theorem dX9_chance_37 : decode cX9_chance 37 = .ok (.lstore 4, 2) := by decide +kernel
theorem dX9_chance_39 : decode cX9_chance 39 = .ok (.iconst 0, 1) := by decide +kernel
theorem dX9_chance_40 : decode cX9_chance 40 = .ok (.istore 6, 2) := by decide +kernel
theorem dX9_chance_42 : decode cX9_chance 42 = .ok (.iload 6, 2) := by decide +kernel
theorem dX9_chance_44 : decode cX9_chance 44 = .ok (.aload_n 0, 1) := by decide +kernel
theorem dX9_chance_45 : decode cX9_chance 45 = .ok (.getfield 25, 3) := by decide +kernel
theorem dX9_chance_48 : decode cX9_chance 48 = .ok (.iconst 3, 1) := by decide +kernel
theorem dX9_chance_49 : decode cX9_chance 49 = .ok (.iaload, 1) := by decide +kernel
theorem dX9_chance_50 : decode cX9_chance 50 = .ok (.if_icmp .ge 64, 3) := by decide +kernel
theorem dX9_chance_53 : decode cX9_chance 53 = .ok (.aload_n 0, 1) := by decide +kernel
theorem dX9_chance_54 : decode cX9_chance 54 = .ok (.getfield 25, 3) := by decide +kernel
theorem dX9_chance_57 : decode cX9_chance 57 = .ok (.iconst 5, 1) := by decide +kernel
theorem dX9_chance_58 : decode cX9_chance 58 = .ok (.iconst 4, 1) := by decide +kernel
theorem dX9_chance_59 : decode cX9_chance 59 = .ok (.iload 6, 2) := by decide +kernel
theorem dX9_chance_61 : decode cX9_chance 61 = .ok (.imul, 1) := by decide +kernel
theorem dX9_chance_62 : decode cX9_chance 62 = .ok (.iadd, 1) := by decide +kernel
theorem dX9_chance_63 : decode cX9_chance 63 = .ok (.iaload, 1) := by decide +kernel
theorem dX9_chance_64 : decode cX9_chance 64 = .ok (.iconst 4, 1) := by decide +kernel
theorem dX9_chance_65 : decode cX9_chance 65 = .ok (.if_icmp .ne 7, 3) := by decide +kernel
theorem dX9_chance_68 : decode cX9_chance 68 = .ok (.iconst 1, 1) := by decide +kernel
theorem dX9_chance_69 : decode cX9_chance 69 = .ok (.goto 4, 3) := by decide +kernel
theorem dX9_chance_72 : decode cX9_chance 72 = .ok (.iconst 0, 1) := by decide +kernel
theorem dX9_chance_73 : decode cX9_chance 73 = .ok (.istore 7, 2) := by decide +kernel
theorem dX9_chance_75 : decode cX9_chance 75 = .ok (.iload_n 3, 1) := by decide +kernel
theorem dX9_chance_76 : decode cX9_chance 76 = .ok (.iload 7, 2) := by decide +kernel
theorem dX9_chance_78 : decode cX9_chance 78 = .ok (.ifCond .eq 10, 3) := by decide +kernel
theorem dX9_chance_81 : decode cX9_chance 81 = .ok (.iconst 1, 1) := by decide +kernel
theorem dX9_chance_82 : decode cX9_chance 82 = .ok (.iload 6, 2) := by decide +kernel
theorem dX9_chance_84 : decode cX9_chance 84 = .ok (.ishl, 1) := by decide +kernel
theorem dX9_chance_85 : decode cX9_chance 85 = .ok (.goto 4, 3) := by decide +kernel
theorem dX9_chance_88 : decode cX9_chance 88 = .ok (.iconst 0, 1) := by decide +kernel
theorem dX9_chance_89 : decode cX9_chance 89 = .ok (.ior, 1) := by decide +kernel
theorem dX9_chance_90 : decode cX9_chance 90 = .ok (.istore_n 3, 1) := by decide +kernel
theorem dX9_chance_91 : decode cX9_chance 91 = .ok (.lload 4, 2) := by decide +kernel
theorem dX9_chance_93 : decode cX9_chance 93 = .ok (.iload 7, 2) := by decide +kernel
theorem dX9_chance_95 : decode cX9_chance 95 = .ok (.ifCond .eq 9, 3) := by decide +kernel
theorem dX9_chance_98 : decode cX9_chance 98 = .ok (.ldc2_w 236, 3) := by decide +kernel
theorem dX9_chance_101 : decode cX9_chance 101 = .ok (.goto 4, 3) := by decide +kernel
theorem dX9_chance_104 : decode cX9_chance 104 = .ok (.lconst 1, 1) := by decide +kernel
theorem dX9_chance_105 : decode cX9_chance 105 = .ok (.lmul, 1) := by decide +kernel
theorem dX9_chance_106 : decode cX9_chance 106 = .ok (.lstore 4, 2) := by decide +kernel
theorem dX9_chance_108 : decode cX9_chance 108 = .ok (.iinc 6 1, 3) := by decide +kernel
theorem dX9_chance_111 : decode cX9_chance 111 = .ok (.goto (-69), 3) := by decide +kernel
theorem dX9_chance_114 : decode cX9_chance 114 = .ok (.lconst 0, 1) := by decide +kernel
theorem dX9_chance_115 : decode cX9_chance 115 = .ok (.lstore 6, 2) := by decide +kernel
theorem dX9_chance_117 : decode cX9_chance 117 = .ok (.iconst 0, 1) := by decide +kernel
theorem dX9_chance_118 : decode cX9_chance 118 = .ok (.istore 8, 2) := by decide +kernel
theorem dX9_chance_120 : decode cX9_chance 120 = .ok (.iload 8, 2) := by decide +kernel
theorem dX9_chance_122 : decode cX9_chance 122 = .ok (.iload_n 3, 1) := by decide +kernel
theorem dX9_chance_123 : decode cX9_chance 123 = .ok (.if_icmp .gt 190, 3) := by decide +kernel
theorem dX9_chance_126 : decode cX9_chance 126 = .ok (.iload 8, 2) := by decide +kernel
theorem dX9_chance_128 : decode cX9_chance 128 = .ok (.iload_n 3, 1) := by decide +kernel
theorem dX9_chance_129 : decode cX9_chance 129 = .ok (.iconst (-1), 1) := by decide +kernel
theorem dX9_chance_130 : decode cX9_chance 130 = .ok (.ixor, 1) := by decide +kernel
theorem dX9_chance_131 : decode cX9_chance 131 = .ok (.iand, 1) := by decide +kernel
theorem dX9_chance_132 : decode cX9_chance 132 = .ok (.ifCond .ne 175, 3) := by decide +kernel
theorem dX9_chance_135 : decode cX9_chance 135 = .ok (.lconst 1, 1) := by decide +kernel
theorem dX9_chance_136 : decode cX9_chance 136 = .ok (.lstore 9, 2) := by decide +kernel
theorem dX9_chance_138 : decode cX9_chance 138 = .ok (.aload_n 0, 1) := by decide +kernel
theorem dX9_chance_139 : decode cX9_chance 139 = .ok (.getfield 25, 3) := by decide +kernel
theorem dX9_chance_142 : decode cX9_chance 142 = .ok (.iconst 0, 1) := by decide +kernel
theorem dX9_chance_143 : decode cX9_chance 143 = .ok (.aload_n 0, 1) := by decide +kernel
theorem dX9_chance_144 : decode cX9_chance 144 = .ok (.getfield 31, 3) := by decide +kernel
theorem dX9_chance_147 : decode cX9_chance 147 = .ok (.iconst 0, 1) := by decide +kernel
theorem dX9_chance_148 : decode cX9_chance 148 = .ok (.invokestatic 145, 3) := by decide +kernel
theorem dX9_chance_151 : decode cX9_chance 151 = .ok (.iconst 0, 1) := by decide +kernel
theorem dX9_chance_152 : decode cX9_chance 152 = .ok (.istore 11, 2) := by decide +kernel
theorem dX9_chance_154 : decode cX9_chance 154 = .ok (.iload 11, 2) := by decide +kernel
theorem dX9_chance_156 : decode cX9_chance 156 = .ok (.aload_n 0, 1) := by decide +kernel
theorem dX9_chance_157 : decode cX9_chance 157 = .ok (.getfield 25, 3) := by decide +kernel
theorem dX9_chance_160 : decode cX9_chance 160 = .ok (.iconst 3, 1) := by decide +kernel
theorem dX9_chance_161 : decode cX9_chance 161 = .ok (.iaload, 1) := by decide +kernel
theorem dX9_chance_162 : decode cX9_chance 162 = .ok (.if_icmp .ge 94, 3) := by decide +kernel
theorem dX9_chance_165 : decode cX9_chance 165 = .ok (.iconst 5, 1) := by decide +kernel
theorem dX9_chance_166 : decode cX9_chance 166 = .ok (.iconst 4, 1) := by decide +kernel
theorem dX9_chance_167 : decode cX9_chance 167 = .ok (.iload 11, 2) := by decide +kernel
theorem dX9_chance_169 : decode cX9_chance 169 = .ok (.imul, 1) := by decide +kernel
theorem dX9_chance_170 : decode cX9_chance 170 = .ok (.iadd, 1) := by decide +kernel
theorem dX9_chance_171 : decode cX9_chance 171 = .ok (.iconst 1, 1) := by decide +kernel
theorem dX9_chance_172 : decode cX9_chance 172 = .ok (.iadd, 1) := by decide +kernel
theorem dX9_chance_173 : decode cX9_chance 173 = .ok (.istore 12, 2) := by decide +kernel
theorem dX9_chance_175 : decode cX9_chance 175 = .ok (.lload 9, 2) := by decide +kernel
theorem dX9_chance_177 : decode cX9_chance 177 = .ok (.iload_n 3, 1) := by decide +kernel
theorem dX9_chance_178 : decode cX9_chance 178 = .ok (.iload 11, 2) := by decide +kernel
theorem dX9_chance_180 : decode cX9_chance 180 = .ok (.invokestatic 238, 3) := by decide +kernel
theorem dX9_chance_183 : decode cX9_chance 183 = .ok (.ifCond .ne 7, 3) := by decide +kernel
theorem dX9_chance_186 : decode cX9_chance 186 = .ok (.lconst 1, 1) := by decide +kernel
theorem dX9_chance_187 : decode cX9_chance 187 = .ok (.goto 23, 3) := by decide +kernel
theorem dX9_chance_190 : decode cX9_chance 190 = .ok (.iload 8, 2) := by decide +kernel
theorem dX9_chance_192 : decode cX9_chance 192 = .ok (.iload 11, 2) := by decide +kernel
theorem dX9_chance_194 : decode cX9_chance 194 = .ok (.invokestatic 238, 3) := by decide +kernel
theorem dX9_chance_197 : decode cX9_chance 197 = .ok (.ifCond .eq 8, 3) := by decide +kernel
theorem dX9_chance_200 : decode cX9_chance 200 = .ok (.iload_n 1, 1) := by decide +kernel
theorem dX9_chance_201 : decode cX9_chance 201 = .ok (.i2l, 1) := by decide +kernel
theorem dX9_chance_202 : decode cX9_chance 202 = .ok (.goto 8, 3) := by decide +kernel
theorem dX9_chance_205 : decode cX9_chance 205 = .ok (.bipush 10, 2) := by decide +kernel
theorem dX9_chance_207 : decode cX9_chance 207 = .ok (.iload_n 1, 1) := by decide +kernel
theorem dX9_chance_208 : decode cX9_chance 208 = .ok (.isub, 1) := by decide +kernel
theorem dX9_chance_209 : decode cX9_chance 209 = .ok (.i2l, 1) := by decide +kernel
theorem dX9_chance_210 : decode cX9_chance 210 = .ok (.lmul, 1) := by decide +kernel
theorem dX9_chance_211 : decode cX9_chance 211 = .ok (.lstore 9, 2) := by decide +kernel
theorem dX9_chance_213 : decode cX9_chance 213 = .ok (.aload_n 0, 1) := by decide +kernel
theorem dX9_chance_214 : decode cX9_chance 214 = .ok (.getfield 31, 3) := by decide +kernel
theorem dX9_chance_217 : decode cX9_chance 217 = .ok (.iload 12, 2) := by decide +kernel
theorem dX9_chance_219 : decode cX9_chance 219 = .ok (.dup2, 1) := by decide +kernel
theorem dX9_chance_220 : decode cX9_chance 220 = .ok (.iaload, 1) := by decide +kernel
theorem dX9_chance_221 : decode cX9_chance 221 = .ok (.iload 8, 2) := by decide +kernel
theorem dX9_chance_223 : decode cX9_chance 223 = .ok (.iload 11, 2) := by decide +kernel
theorem dX9_chance_225 : decode cX9_chance 225 = .ok (.invokestatic 238, 3) := by decide +kernel
theorem dX9_chance_228 : decode cX9_chance 228 = .ok (.ifCond .eq 19, 3) := by decide +kernel
theorem dX9_chance_231 : decode cX9_chance 231 = .ok (.aload_n 0, 1) := by decide +kernel
theorem dX9_chance_232 : decode cX9_chance 232 = .ok (.getfield 31, 3) := by decide +kernel
theorem dX9_chance_235 : decode cX9_chance 235 = .ok (.iload 12, 2) := by decide +kernel
theorem dX9_chance_237 : decode cX9_chance 237 = .ok (.iaload, 1) := by decide +kernel
theorem dX9_chance_238 : decode cX9_chance 238 = .ok (.bipush 20, 2) := by decide +kernel
theorem dX9_chance_240 : decode cX9_chance 240 = .ok (.if_icmp .ge 7, 3) := by decide +kernel
theorem dX9_chance_243 : decode cX9_chance 243 = .ok (.iconst 1, 1) := by decide +kernel
theorem dX9_chance_244 : decode cX9_chance 244 = .ok (.goto 4, 3) := by decide +kernel
theorem dX9_chance_247 : decode cX9_chance 247 = .ok (.iconst 0, 1) := by decide +kernel
theorem dX9_chance_248 : decode cX9_chance 248 = .ok (.iadd, 1) := by decide +kernel
theorem dX9_chance_249 : decode cX9_chance 249 = .ok (.iastore, 1) := by decide +kernel
theorem dX9_chance_250 : decode cX9_chance 250 = .ok (.iinc 11 1, 3) := by decide +kernel
theorem dX9_chance_253 : decode cX9_chance 253 = .ok (.goto (-99), 3) := by decide +kernel
theorem dX9_chance_256 : decode cX9_chance 256 = .ok (.aload_n 0, 1) := by decide +kernel
theorem dX9_chance_257 : decode cX9_chance 257 = .ok (.getfield 31, 3) := by decide +kernel
theorem dX9_chance_260 : decode cX9_chance 260 = .ok (.invokestatic 215, 3) := by decide +kernel
theorem dX9_chance_263 : decode cX9_chance 263 = .ok (.lload 9, 2) := by decide +kernel
theorem dX9_chance_265 : decode cX9_chance 265 = .ok (.lconst 0, 1) := by decide +kernel
theorem dX9_chance_266 : decode cX9_chance 266 = .ok (.lcmp, 1) := by decide +kernel
theorem dX9_chance_267 : decode cX9_chance 267 = .ok (.ifCond .le 40, 3) := by decide +kernel
theorem dX9_chance_270 : decode cX9_chance 270 = .ok (.aload_n 0, 1) := by decide +kernel
theorem dX9_chance_271 : decode cX9_chance 271 = .ok (.aload_n 0, 1) := by decide +kernel
theorem dX9_chance_272 : decode cX9_chance 272 = .ok (.getfield 31, 3) := by decide +kernel
theorem dX9_chance_275 : decode cX9_chance 275 = .ok (.invokevirtual 198, 3) := by decide +kernel
theorem dX9_chance_278 : decode cX9_chance 278 = .ok (.lload 6, 2) := by decide +kernel
theorem dX9_chance_280 : decode cX9_chance 280 = .ok (.aload_n 0, 1) := by decide +kernel
theorem dX9_chance_281 : decode cX9_chance 281 = .ok (.getfield 169, 3) := by decide +kernel
theorem dX9_chance_284 : decode cX9_chance 284 = .ok (.ifCond .ne 19, 3) := by decide +kernel
theorem dX9_chance_287 : decode cX9_chance 287 = .ok (.aload_n 0, 1) := by decide +kernel
theorem dX9_chance_288 : decode cX9_chance 288 = .ok (.aload_n 0, 1) := by decide +kernel
theorem dX9_chance_289 : decode cX9_chance 289 = .ok (.getfield 31, 3) := by decide +kernel
theorem dX9_chance_292 : decode cX9_chance 292 = .ok (.invokevirtual 179, 3) := by decide +kernel
theorem dX9_chance_295 : decode cX9_chance 295 = .ok (.ifCond .eq 8, 3) := by decide +kernel
theorem dX9_chance_298 : decode cX9_chance 298 = .ok (.lload 9, 2) := by decide +kernel
theorem dX9_chance_300 : decode cX9_chance 300 = .ok (.goto 4, 3) := by decide +kernel
theorem dX9_chance_303 : decode cX9_chance 303 = .ok (.lconst 0, 1) := by decide +kernel
theorem dX9_chance_304 : decode cX9_chance 304 = .ok (.ladd, 1) := by decide +kernel
theorem dX9_chance_305 : decode cX9_chance 305 = .ok (.lstore 6, 2) := by decide +kernel
theorem dX9_chance_307 : decode cX9_chance 307 = .ok (.iinc 8 1, 3) := by decide +kernel
theorem dX9_chance_310 : decode cX9_chance 310 = .ok (.goto (-190), 3) := by decide +kernel
end
section
theorem dX9_chance_313 : decode cX9_chance 313 = .ok (.lload 6, 2) := by decide +kernel
theorem dX9_chance_315 : decode cX9_chance 315 = .ok (.lstore 8, 2) := by decide +kernel
theorem dX9_chance_317 : decode cX9_chance 317 = .ok (.lload 4, 2) := by decide +kernel
theorem dX9_chance_319 : decode cX9_chance 319 = .ok (.lstore 10, 2) := by decide +kernel
theorem dX9_chance_321 : decode cX9_chance 321 = .ok (.lload 10, 2) := by decide +kernel
theorem dX9_chance_323 : decode cX9_chance 323 = .ok (.lconst 0, 1) := by decide +kernel
theorem dX9_chance_324 : decode cX9_chance 324 = .ok (.lcmp, 1) := by decide +kernel
theorem dX9_chance_325 : decode cX9_chance 325 = .ok (.ifCond .eq 21, 3) := by decide +kernel
theorem dX9_chance_328 : decode cX9_chance 328 = .ok (.lload 8, 2) := by decide +kernel
theorem dX9_chance_330 : decode cX9_chance 330 = .ok (.lload 10, 2) := by decide +kernel
theorem dX9_chance_332 : decode cX9_chance 332 = .ok (.lrem, 1) := by decide +kernel
theorem dX9_chance_333 : decode cX9_chance 333 = .ok (.lstore 12, 2) := by decide +kernel
theorem dX9_chance_335 : decode cX9_chance 335 = .ok (.lload 10, 2) := by decide +kernel
theorem dX9_chance_337 : decode cX9_chance 337 = .ok (.lstore 8, 2) := by decide +kernel
theorem dX9_chance_339 : decode cX9_chance 339 = .ok (.lload 12, 2) := by decide +kernel
theorem dX9_chance_341 : decode cX9_chance 341 = .ok (.lstore 10, 2) := by decide +kernel
theorem dX9_chance_343 : decode cX9_chance 343 = .ok (.goto (-22), 3) := by decide +kernel
theorem dX9_chance_346 : decode cX9_chance 346 = .ok (.iload_n 2, 1) := by decide +kernel
theorem dX9_chance_347 : decode cX9_chance 347 = .ok (.ifCond .ne 8, 3) := by decide +kernel
theorem dX9_chance_350 : decode cX9_chance 350 = .ok (.lload 6, 2) := by decide +kernel
theorem dX9_chance_352 : decode cX9_chance 352 = .ok (.goto 5, 3) := by decide +kernel
theorem dX9_chance_355 : decode cX9_chance 355 = .ok (.lload 4, 2) := by decide +kernel
theorem dX9_chance_357 : decode cX9_chance 357 = .ok (.lload 8, 2) := by decide +kernel
theorem dX9_chance_359 : decode cX9_chance 359 = .ok (.ldiv, 1) := by decide +kernel
theorem dX9_chance_360 : decode cX9_chance 360 = .ok (.lreturn, 1) := by decide +kernel
theorem dX9_drawn_0 : decode cX9_drawn 0 = .ok (.aload_n 0, 1) := by decide +kernel
theorem dX9_drawn_1 : decode cX9_drawn 1 = .ok (.invokevirtual 191, 3) := by decide +kernel
theorem dX9_drawn_4 : decode cX9_drawn 4 = .ok (.ifCond .ne 6, 3) := by decide +kernel
theorem dX9_drawn_7 : decode cX9_drawn 7 = .ok (.ldc 194, 2) := by decide +kernel
theorem dX9_drawn_9 : decode cX9_drawn 9 = .ok (.ireturn, 1) := by decide +kernel
theorem dX9_drawn_10 : decode cX9_drawn 10 = .ok (.iload_n 1, 1) := by decide +kernel
theorem dX9_drawn_11 : decode cX9_drawn 11 = .ok (.iconst 0, 1) := by decide +kernel
theorem dX9_drawn_12 : decode cX9_drawn 12 = .ok (.bipush 60, 2) := by decide +kernel
theorem dX9_drawn_14 : decode cX9_drawn 14 = .ok (.invokestatic 62, 3) := by decide +kernel
theorem dX9_drawn_17 : decode cX9_drawn 17 = .ok (.ifCond .eq 22, 3) := by decide +kernel
theorem dX9_drawn_20 : decode cX9_drawn 20 = .ok (.iload_n 2, 1) := by decide +kernel
theorem dX9_drawn_21 : decode cX9_drawn 21 = .ok (.iconst 1, 1) := by decide +kernel
theorem dX9_drawn_22 : decode cX9_drawn 22 = .ok (.ldc 241, 2) := by decide +kernel
theorem dX9_drawn_24 : decode cX9_drawn 24 = .ok (.invokestatic 62, 3) := by decide +kernel
theorem dX9_drawn_27 : decode cX9_drawn 27 = .ok (.ifCond .eq 12, 3) := by decide +kernel
theorem dX9_drawn_30 : decode cX9_drawn 30 = .ok (.iload_n 3, 1) := by decide +kernel
theorem dX9_drawn_31 : decode cX9_drawn 31 = .ok (.iconst 0, 1) := by decide +kernel
theorem dX9_drawn_32 : decode cX9_drawn 32 = .ok (.iconst 1, 1) := by decide +kernel
theorem dX9_drawn_33 : decode cX9_drawn 33 = .ok (.invokestatic 62, 3) := by decide +kernel
theorem dX9_drawn_36 : decode cX9_drawn 36 = .ok (.ifCond .ne 6, 3) := by decide +kernel
theorem dX9_drawn_39 : decode cX9_drawn 39 = .ok (.ldc 70, 2) := by decide +kernel
theorem dX9_drawn_41 : decode cX9_drawn 41 = .ok (.ireturn, 1) := by decide +kernel
theorem dX9_drawn_42 : decode cX9_drawn 42 = .ok (.aload_n 0, 1) := by decide +kernel
theorem dX9_drawn_43 : decode cX9_drawn 43 = .ok (.getfield 25, 3) := by decide +kernel
theorem dX9_drawn_46 : decode cX9_drawn 46 = .ok (.iconst 0, 1) := by decide +kernel
theorem dX9_drawn_47 : decode cX9_drawn 47 = .ok (.aload_n 0, 1) := by decide +kernel
theorem dX9_drawn_48 : decode cX9_drawn 48 = .ok (.getfield 31, 3) := by decide +kernel
theorem dX9_drawn_51 : decode cX9_drawn 51 = .ok (.iconst 0, 1) := by decide +kernel
theorem dX9_drawn_52 : decode cX9_drawn 52 = .ok (.invokestatic 145, 3) := by decide +kernel
theorem dX9_drawn_55 : decode cX9_drawn 55 = .ok (.iload_n 2, 1) := by decide +kernel
theorem dX9_drawn_56 : decode cX9_drawn 56 = .ok (.i2l, 1) := by decide +kernel
theorem dX9_drawn_57 : decode cX9_drawn 57 = .ok (.lstore 4, 2) := by decide +kernel
theorem dX9_drawn_59 : decode cX9_drawn 59 = .ok (.iconst 0, 1) := by decide +kernel
theorem dX9_drawn_60 : decode cX9_drawn 60 = .ok (.istore 6, 2) := by decide +kernel
theorem dX9_drawn_62 : decode cX9_drawn 62 = .ok (.iconst 0, 1) := by decide +kernel
theorem dX9_drawn_63 : decode cX9_drawn 63 = .ok (.istore 7, 2) := by decide +kernel
theorem dX9_drawn_65 : decode cX9_drawn 65 = .ok (.iload 7, 2) := by decide +kernel
theorem dX9_drawn_67 : decode cX9_drawn 67 = .ok (.iload_n 1, 1) := by decide +kernel
theorem dX9_drawn_68 : decode cX9_drawn 68 = .ok (.if_icmp .ge 122, 3) := by decide +kernel
theorem dX9_drawn_71 : decode cX9_drawn 71 = .ok (.lload 4, 2) := by decide +kernel
theorem dX9_drawn_73 : decode cX9_drawn 73 = .ok (.ldc2_w 242, 3) := by decide +kernel
theorem dX9_drawn_76 : decode cX9_drawn 76 = .ok (.lmul, 1) := by decide +kernel
theorem dX9_drawn_77 : decode cX9_drawn 77 = .ok (.ldc2_w 244, 3) := by decide +kernel
theorem dX9_drawn_80 : decode cX9_drawn 80 = .ok (.lrem, 1) := by decide +kernel
theorem dX9_drawn_81 : decode cX9_drawn 81 = .ok (.lstore 4, 2) := by decide +kernel
theorem dX9_drawn_83 : decode cX9_drawn 83 = .ok (.iconst 5, 1) := by decide +kernel
theorem dX9_drawn_84 : decode cX9_drawn 84 = .ok (.iconst 4, 1) := by decide +kernel
theorem dX9_drawn_85 : decode cX9_drawn 85 = .ok (.lload 4, 2) := by decide +kernel
theorem dX9_drawn_87 : decode cX9_drawn 87 = .ok (.aload_n 0, 1) := by decide +kernel
theorem dX9_drawn_88 : decode cX9_drawn 88 = .ok (.getfield 25, 3) := by decide +kernel
theorem dX9_drawn_91 : decode cX9_drawn 91 = .ok (.iconst 3, 1) := by decide +kernel
theorem dX9_drawn_92 : decode cX9_drawn 92 = .ok (.iaload, 1) := by decide +kernel
theorem dX9_drawn_93 : decode cX9_drawn 93 = .ok (.i2l, 1) := by decide +kernel
theorem dX9_drawn_94 : decode cX9_drawn 94 = .ok (.lrem, 1) := by decide +kernel
theorem dX9_drawn_95 : decode cX9_drawn 95 = .ok (.l2i, 1) := by decide +kernel
theorem dX9_drawn_96 : decode cX9_drawn 96 = .ok (.imul, 1) := by decide +kernel
theorem dX9_drawn_97 : decode cX9_drawn 97 = .ok (.iadd, 1) := by decide +kernel
theorem dX9_drawn_98 : decode cX9_drawn 98 = .ok (.istore 8, 2) := by decide +kernel
theorem dX9_drawn_100 : decode cX9_drawn 100 = .ok (.aload_n 0, 1) := by decide +kernel
theorem dX9_drawn_101 : decode cX9_drawn 101 = .ok (.getfield 31, 3) := by decide +kernel
theorem dX9_drawn_104 : decode cX9_drawn 104 = .ok (.iload 8, 2) := by decide +kernel
theorem dX9_drawn_106 : decode cX9_drawn 106 = .ok (.iaload, 1) := by decide +kernel
theorem dX9_drawn_107 : decode cX9_drawn 107 = .ok (.iconst 4, 1) := by decide +kernel
theorem dX9_drawn_108 : decode cX9_drawn 108 = .ok (.if_icmp .ne 24, 3) := by decide +kernel
theorem dX9_drawn_111 : decode cX9_drawn 111 = .ok (.aload_n 0, 1) := by decide +kernel
theorem dX9_drawn_112 : decode cX9_drawn 112 = .ok (.getfield 31, 3) := by decide +kernel
theorem dX9_drawn_115 : decode cX9_drawn 115 = .ok (.iload 8, 2) := by decide +kernel
theorem dX9_drawn_117 : decode cX9_drawn 117 = .ok (.iconst 1, 1) := by decide +kernel
theorem dX9_drawn_118 : decode cX9_drawn 118 = .ok (.iadd, 1) := by decide +kernel
theorem dX9_drawn_119 : decode cX9_drawn 119 = .ok (.lload 4, 2) := by decide +kernel
theorem dX9_drawn_121 : decode cX9_drawn 121 = .ok (.ldc2_w 246, 3) := by decide +kernel
theorem dX9_drawn_124 : decode cX9_drawn 124 = .ok (.lrem, 1) := by decide +kernel
theorem dX9_drawn_125 : decode cX9_drawn 125 = .ok (.l2i, 1) := by decide +kernel
theorem dX9_drawn_126 : decode cX9_drawn 126 = .ok (.iconst 1, 1) := by decide +kernel
theorem dX9_drawn_127 : decode cX9_drawn 127 = .ok (.iadd, 1) := by decide +kernel
theorem dX9_drawn_128 : decode cX9_drawn 128 = .ok (.iastore, 1) := by decide +kernel
theorem dX9_drawn_129 : decode cX9_drawn 129 = .ok (.goto 34, 3) := by decide +kernel
theorem dX9_drawn_132 : decode cX9_drawn 132 = .ok (.aload_n 0, 1) := by decide +kernel
theorem dX9_drawn_133 : decode cX9_drawn 133 = .ok (.getfield 31, 3) := by decide +kernel
theorem dX9_drawn_136 : decode cX9_drawn 136 = .ok (.iload 8, 2) := by decide +kernel
theorem dX9_drawn_138 : decode cX9_drawn 138 = .ok (.iaload, 1) := by decide +kernel
theorem dX9_drawn_139 : decode cX9_drawn 139 = .ok (.iconst 3, 1) := by decide +kernel
theorem dX9_drawn_140 : decode cX9_drawn 140 = .ok (.if_icmp .gt 23, 3) := by decide +kernel
theorem dX9_drawn_143 : decode cX9_drawn 143 = .ok (.aload_n 0, 1) := by decide +kernel
theorem dX9_drawn_144 : decode cX9_drawn 144 = .ok (.getfield 31, 3) := by decide +kernel
theorem dX9_drawn_147 : decode cX9_drawn 147 = .ok (.iload 8, 2) := by decide +kernel
theorem dX9_drawn_149 : decode cX9_drawn 149 = .ok (.iconst 1, 1) := by decide +kernel
theorem dX9_drawn_150 : decode cX9_drawn 150 = .ok (.iadd, 1) := by decide +kernel
theorem dX9_drawn_151 : decode cX9_drawn 151 = .ok (.lload 4, 2) := by decide +kernel
theorem dX9_drawn_153 : decode cX9_drawn 153 = .ok (.aload_n 0, 1) := by decide +kernel
theorem dX9_drawn_154 : decode cX9_drawn 154 = .ok (.getfield 25, 3) := by decide +kernel
theorem dX9_drawn_157 : decode cX9_drawn 157 = .ok (.iconst 3, 1) := by decide +kernel
theorem dX9_drawn_158 : decode cX9_drawn 158 = .ok (.iaload, 1) := by decide +kernel
theorem dX9_drawn_159 : decode cX9_drawn 159 = .ok (.i2l, 1) := by decide +kernel
theorem dX9_drawn_160 : decode cX9_drawn 160 = .ok (.lrem, 1) := by decide +kernel
theorem dX9_drawn_161 : decode cX9_drawn 161 = .ok (.l2i, 1) := by decide +kernel
theorem dX9_drawn_162 : decode cX9_drawn 162 = .ok (.iastore, 1) := by decide +kernel
theorem dX9_drawn_163 : decode cX9_drawn 163 = .ok (.iload 6, 2) := by decide +kernel
theorem dX9_drawn_165 : decode cX9_drawn 165 = .ok (.aload_n 0, 1) := by decide +kernel
theorem dX9_drawn_166 : decode cX9_drawn 166 = .ok (.aload_n 0, 1) := by decide +kernel
theorem dX9_drawn_167 : decode cX9_drawn 167 = .ok (.getfield 31, 3) := by decide +kernel
theorem dX9_drawn_170 : decode cX9_drawn 170 = .ok (.invokevirtual 182, 3) := by decide +kernel
theorem dX9_drawn_173 : decode cX9_drawn 173 = .ok (.ifCond .le 7, 3) := by decide +kernel
theorem dX9_drawn_176 : decode cX9_drawn 176 = .ok (.iconst 1, 1) := by decide +kernel
theorem dX9_drawn_177 : decode cX9_drawn 177 = .ok (.goto 4, 3) := by decide +kernel
theorem dX9_drawn_180 : decode cX9_drawn 180 = .ok (.iconst 0, 1) := by decide +kernel
theorem dX9_drawn_181 : decode cX9_drawn 181 = .ok (.iadd, 1) := by decide +kernel
theorem dX9_drawn_182 : decode cX9_drawn 182 = .ok (.istore 6, 2) := by decide +kernel
theorem dX9_drawn_184 : decode cX9_drawn 184 = .ok (.iinc 7 1, 3) := by decide +kernel
theorem dX9_drawn_187 : decode cX9_drawn 187 = .ok (.goto (-122), 3) := by decide +kernel
theorem dX9_drawn_190 : decode cX9_drawn 190 = .ok (.iload_n 3, 1) := by decide +kernel
theorem dX9_drawn_191 : decode cX9_drawn 191 = .ok (.ifCond .ne 8, 3) := by decide +kernel
theorem dX9_drawn_194 : decode cX9_drawn 194 = .ok (.iload 6, 2) := by decide +kernel
theorem dX9_drawn_196 : decode cX9_drawn 196 = .ok (.goto 10, 3) := by decide +kernel
theorem dX9_drawn_199 : decode cX9_drawn 199 = .ok (.aload_n 0, 1) := by decide +kernel
theorem dX9_drawn_200 : decode cX9_drawn 200 = .ok (.getfield 31, 3) := by decide +kernel
theorem dX9_drawn_203 : decode cX9_drawn 203 = .ok (.invokestatic 222, 3) := by decide +kernel
theorem dX9_drawn_206 : decode cX9_drawn 206 = .ok (.ireturn, 1) := by decide +kernel
theorem dX9_image_0 : decode cX9_image 0 = .ok (.iload_n 1, 1) := by decide +kernel
theorem dX9_image_1 : decode cX9_image 1 = .ok (.iconst 0, 1) := by decide +kernel
theorem dX9_image_2 : decode cX9_image 2 = .ok (.iconst 1, 1) := by decide +kernel
theorem dX9_image_3 : decode cX9_image 3 = .ok (.invokestatic 62, 3) := by decide +kernel
theorem dX9_image_6 : decode cX9_image 6 = .ok (.ifCond .ne 6, 3) := by decide +kernel
theorem dX9_image_9 : decode cX9_image 9 = .ok (.ldc 70, 2) := by decide +kernel
theorem dX9_image_11 : decode cX9_image 11 = .ok (.ireturn, 1) := by decide +kernel
theorem dX9_image_12 : decode cX9_image 12 = .ok (.aload_n 0, 1) := by decide +kernel
theorem dX9_image_13 : decode cX9_image 13 = .ok (.invokevirtual 191, 3) := by decide +kernel
theorem dX9_image_16 : decode cX9_image 16 = .ok (.ifCond .ne 6, 3) := by decide +kernel
theorem dX9_image_19 : decode cX9_image 19 = .ok (.ldc 194, 2) := by decide +kernel
theorem dX9_image_21 : decode cX9_image 21 = .ok (.ireturn, 1) := by decide +kernel
theorem dX9_image_22 : decode cX9_image 22 = .ok (.aload_n 0, 1) := by decide +kernel
theorem dX9_image_23 : decode cX9_image 23 = .ok (.getfield 25, 3) := by decide +kernel
theorem dX9_image_26 : decode cX9_image 26 = .ok (.iconst 0, 1) := by decide +kernel
theorem dX9_image_27 : decode cX9_image 27 = .ok (.aload_n 0, 1) := by decide +kernel
theorem dX9_image_28 : decode cX9_image 28 = .ok (.getfield 37, 3) := by decide +kernel
theorem dX9_image_31 : decode cX9_image 31 = .ok (.bipush 53, 2) := by decide +kernel
theorem dX9_image_33 : decode cX9_image 33 = .ok (.iload_n 1, 1) := by decide +kernel
theorem dX9_image_34 : decode cX9_image 34 = .ok (.imul, 1) := by decide +kernel
theorem dX9_image_35 : decode cX9_image 35 = .ok (.invokestatic 145, 3) := by decide +kernel
theorem dX9_image_38 : decode cX9_image 38 = .ok (.aload_n 0, 1) := by decide +kernel
theorem dX9_image_39 : decode cX9_image 39 = .ok (.getfield 40, 3) := by decide +kernel
theorem dX9_image_42 : decode cX9_image 42 = .ok (.iload_n 1, 1) := by decide +kernel
theorem dX9_image_43 : decode cX9_image 43 = .ok (.iconst 1, 1) := by decide +kernel
theorem dX9_image_44 : decode cX9_image 44 = .ok (.bastore, 1) := by decide +kernel
theorem dX9_image_45 : decode cX9_image 45 = .ok (.iconst 1, 1) := by decide +kernel
theorem dX9_image_46 : decode cX9_image 46 = .ok (.ireturn, 1) := by decide +kernel
theorem dX9_restore_0 : decode cX9_restore 0 = .ok (.iload_n 1, 1) := by decide +kernel
theorem dX9_restore_1 : decode cX9_restore 1 = .ok (.iconst 0, 1) := by decide +kernel
theorem dX9_restore_2 : decode cX9_restore 2 = .ok (.iconst 1, 1) := by decide +kernel
theorem dX9_restore_3 : decode cX9_restore 3 = .ok (.invokestatic 62, 3) := by decide +kernel
theorem dX9_restore_6 : decode cX9_restore 6 = .ok (.ifCond .ne 6, 3) := by decide +kernel
theorem dX9_restore_9 : decode cX9_restore 9 = .ok (.ldc 70, 2) := by decide +kernel
theorem dX9_restore_11 : decode cX9_restore 11 = .ok (.ireturn, 1) := by decide +kernel
theorem dX9_restore_12 : decode cX9_restore 12 = .ok (.aload_n 0, 1) := by decide +kernel
theorem dX9_restore_13 : decode cX9_restore 13 = .ok (.getfield 40, 3) := by decide +kernel
theorem dX9_restore_16 : decode cX9_restore 16 = .ok (.iload_n 1, 1) := by decide +kernel
theorem dX9_restore_17 : decode cX9_restore 17 = .ok (.baload, 1) := by decide +kernel
theorem dX9_restore_18 : decode cX9_restore 18 = .ok (.ifCond .ne 6, 3) := by decide +kernel
theorem dX9_restore_21 : decode cX9_restore 21 = .ok (.ldc 194, 2) := by decide +kernel
theorem dX9_restore_23 : decode cX9_restore 23 = .ok (.ireturn, 1) := by decide +kernel
theorem dX9_restore_24 : decode cX9_restore 24 = .ok (.aload_n 0, 1) := by decide +kernel
theorem dX9_restore_25 : decode cX9_restore 25 = .ok (.getfield 37, 3) := by decide +kernel
theorem dX9_restore_28 : decode cX9_restore 28 = .ok (.bipush 53, 2) := by decide +kernel
theorem dX9_restore_30 : decode cX9_restore 30 = .ok (.iload_n 1, 1) := by decide +kernel
theorem dX9_restore_31 : decode cX9_restore 31 = .ok (.imul, 1) := by decide +kernel
theorem dX9_restore_32 : decode cX9_restore 32 = .ok (.aload_n 0, 1) := by decide +kernel
theorem dX9_restore_33 : decode cX9_restore 33 = .ok (.getfield 25, 3) := by decide +kernel
theorem dX9_restore_36 : decode cX9_restore 36 = .ok (.iconst 0, 1) := by decide +kernel
theorem dX9_restore_37 : decode cX9_restore 37 = .ok (.invokestatic 145, 3) := by decide +kernel
theorem dX9_restore_40 : decode cX9_restore 40 = .ok (.aload_n 0, 1) := by decide +kernel
theorem dX9_restore_41 : decode cX9_restore 41 = .ok (.iconst 0, 1) := by decide +kernel
theorem dX9_restore_42 : decode cX9_restore 42 = .ok (.putfield 149, 3) := by decide +kernel
theorem dX9_restore_45 : decode cX9_restore 45 = .ok (.iconst 1, 1) := by decide +kernel
theorem dX9_restore_46 : decode cX9_restore 46 = .ok (.ireturn, 1) := by decide +kernel
theorem dX9_kindIn_0 : decode cX9_kindIn 0 = .ok (.aload_n 0, 1) := by decide +kernel
theorem dX9_kindIn_1 : decode cX9_kindIn 1 = .ok (.getfield 25, 3) := by decide +kernel
theorem dX9_kindIn_4 : decode cX9_kindIn 4 = .ok (.iconst 5, 1) := by decide +kernel
theorem dX9_kindIn_5 : decode cX9_kindIn 5 = .ok (.iconst 4, 1) := by decide +kernel
theorem dX9_kindIn_6 : decode cX9_kindIn 6 = .ok (.iload_n 1, 1) := by decide +kernel
theorem dX9_kindIn_7 : decode cX9_kindIn 7 = .ok (.imul, 1) := by decide +kernel
theorem dX9_kindIn_8 : decode cX9_kindIn 8 = .ok (.iadd, 1) := by decide +kernel
theorem dX9_kindIn_9 : decode cX9_kindIn 9 = .ok (.iaload, 1) := by decide +kernel
theorem dX9_kindIn_10 : decode cX9_kindIn 10 = .ok (.ireturn, 1) := by decide +kernel
theorem dX9_kind_0 : decode cX9_kind 0 = .ok (.aload_n 0, 1) := by decide +kernel
theorem dX9_kind_1 : decode cX9_kind 1 = .ok (.iload_n 1, 1) := by decide +kernel
theorem dX9_kind_2 : decode cX9_kind 2 = .ok (.invokevirtual 202, 3) := by decide +kernel
theorem dX9_kind_5 : decode cX9_kind 5 = .ok (.ifCond .eq 11, 3) := by decide +kernel
theorem dX9_kind_8 : decode cX9_kind 8 = .ok (.aload_n 0, 1) := by decide +kernel
theorem dX9_kind_9 : decode cX9_kind 9 = .ok (.iload_n 1, 1) := by decide +kernel
theorem dX9_kind_10 : decode cX9_kind 10 = .ok (.invokevirtual 248, 3) := by decide +kernel
theorem dX9_kind_13 : decode cX9_kind 13 = .ok (.goto 5, 3) := by decide +kernel
theorem dX9_kind_16 : decode cX9_kind 16 = .ok (.ldc 70, 2) := by decide +kernel
theorem dX9_kind_18 : decode cX9_kind 18 = .ok (.ireturn, 1) := by decide +kernel
theorem dX9_as_0 : decode cX9_as 0 = .ok (.aload_n 0, 1) := by decide +kernel
theorem dX9_as_1 : decode cX9_as 1 = .ok (.iload_n 1, 1) := by decide +kernel
theorem dX9_as_2 : decode cX9_as 2 = .ok (.invokevirtual 202, 3) := by decide +kernel
theorem dX9_as_5 : decode cX9_as 5 = .ok (.ifCond .eq 12, 3) := by decide +kernel
theorem dX9_as_8 : decode cX9_as 8 = .ok (.iload_n 2, 1) := by decide +kernel
theorem dX9_as_9 : decode cX9_as 9 = .ok (.iconst 0, 1) := by decide +kernel
theorem dX9_as_10 : decode cX9_as 10 = .ok (.iconst 5, 1) := by decide +kernel
theorem dX9_as_11 : decode cX9_as 11 = .ok (.invokestatic 62, 3) := by decide +kernel
theorem dX9_as_14 : decode cX9_as 14 = .ok (.ifCond .ne 6, 3) := by decide +kernel
theorem dX9_as_17 : decode cX9_as 17 = .ok (.ldc 70, 2) := by decide +kernel
theorem dX9_as_19 : decode cX9_as 19 = .ok (.ireturn, 1) := by decide +kernel
theorem dX9_as_20 : decode cX9_as 20 = .ok (.aload_n 0, 1) := by decide +kernel
theorem dX9_as_21 : decode cX9_as 21 = .ok (.iload_n 1, 1) := by decide +kernel
theorem dX9_as_22 : decode cX9_as 22 = .ok (.invokevirtual 248, 3) := by decide +kernel
theorem dX9_as_25 : decode cX9_as 25 = .ok (.istore_n 3, 1) := by decide +kernel
theorem dX9_as_26 : decode cX9_as 26 = .ok (.iload_n 2, 1) := by decide +kernel
theorem dX9_as_27 : decode cX9_as 27 = .ok (.ifCond .eq 28, 3) := by decide +kernel
theorem dX9_as_30 : decode cX9_as 30 = .ok (.iload_n 2, 1) := by decide +kernel
theorem dX9_as_31 : decode cX9_as 31 = .ok (.iload_n 3, 1) := by decide +kernel
theorem dX9_as_32 : decode cX9_as 32 = .ok (.if_icmp .eq 23, 3) := by decide +kernel
theorem dX9_as_35 : decode cX9_as 35 = .ok (.iload_n 2, 1) := by decide +kernel
theorem dX9_as_36 : decode cX9_as 36 = .ok (.iconst 1, 1) := by decide +kernel
theorem dX9_as_37 : decode cX9_as 37 = .ok (.if_icmp .ne 8, 3) := by decide +kernel
theorem dX9_as_40 : decode cX9_as 40 = .ok (.iload_n 3, 1) := by decide +kernel
theorem dX9_as_41 : decode cX9_as 41 = .ok (.iconst 4, 1) := by decide +kernel
theorem dX9_as_42 : decode cX9_as 42 = .ok (.if_icmp .lt 13, 3) := by decide +kernel
theorem dX9_as_45 : decode cX9_as 45 = .ok (.iload_n 2, 1) := by decide +kernel
theorem dX9_as_46 : decode cX9_as 46 = .ok (.iconst 4, 1) := by decide +kernel
theorem dX9_as_47 : decode cX9_as 47 = .ok (.if_icmp .ne 12, 3) := by decide +kernel
theorem dX9_as_50 : decode cX9_as 50 = .ok (.iload_n 3, 1) := by decide +kernel
theorem dX9_as_51 : decode cX9_as 51 = .ok (.iconst 5, 1) := by decide +kernel
theorem dX9_as_52 : decode cX9_as 52 = .ok (.if_icmp .ne 7, 3) := by decide +kernel
theorem dX9_as_55 : decode cX9_as 55 = .ok (.iconst 1, 1) := by decide +kernel
theorem dX9_as_56 : decode cX9_as 56 = .ok (.goto 4, 3) := by decide +kernel
theorem dX9_as_59 : decode cX9_as 59 = .ok (.iconst 0, 1) := by decide +kernel
theorem dX9_as_60 : decode cX9_as 60 = .ok (.istore 4, 2) := by decide +kernel
theorem dX9_as_62 : decode cX9_as 62 = .ok (.iload 4, 2) := by decide +kernel
theorem dX9_as_64 : decode cX9_as 64 = .ok (.ifCond .eq 11, 3) := by decide +kernel
theorem dX9_as_67 : decode cX9_as 67 = .ok (.aload_n 0, 1) := by decide +kernel
theorem dX9_as_68 : decode cX9_as 68 = .ok (.iload_n 1, 1) := by decide +kernel
theorem dX9_as_69 : decode cX9_as 69 = .ok (.invokevirtual 75, 3) := by decide +kernel
theorem dX9_as_72 : decode cX9_as 72 = .ok (.goto 8, 3) := by decide +kernel
theorem dX9_as_75 : decode cX9_as 75 = .ok (.aload_n 0, 1) := by decide +kernel
theorem dX9_as_76 : decode cX9_as 76 = .ok (.iconst 3, 1) := by decide +kernel
theorem dX9_as_77 : decode cX9_as 77 = .ok (.invokevirtual 71, 3) := by decide +kernel
theorem dX9_as_80 : decode cX9_as 80 = .ok (.ireturn, 1) := by decide +kernel
theorem dX9_traces_0 : decode cX9_traces 0 = .ok (.aload_n 0, 1) := by decide +kernel
theorem dX9_traces_1 : decode cX9_traces 1 = .ok (.getfield 251, 3) := by decide +kernel
theorem dX9_traces_4 : decode cX9_traces 4 = .ok (.bipush 16, 2) := by decide +kernel
theorem dX9_traces_6 : decode cX9_traces 6 = .ok (.if_icmp .ge 23, 3) := by decide +kernel
theorem dX9_traces_9 : decode cX9_traces 9 = .ok (.aload_n 0, 1) := by decide +kernel
theorem dX9_traces_10 : decode cX9_traces 10 = .ok (.getfield 53, 3) := by decide +kernel
theorem dX9_traces_13 : decode cX9_traces 13 = .ok (.aload_n 0, 1) := by decide +kernel
theorem dX9_traces_14 : decode cX9_traces 14 = .ok (.getfield 251, 3) := by decide +kernel
theorem dX9_traces_17 : decode cX9_traces 17 = .ok (.iload_n 1, 1) := by decide +kernel
theorem dX9_traces_18 : decode cX9_traces 18 = .ok (.iastore, 1) := by decide +kernel
theorem dX9_traces_19 : decode cX9_traces 19 = .ok (.aload_n 0, 1) := by decide +kernel
theorem dX9_traces_20 : decode cX9_traces 20 = .ok (.dup, 1) := by decide +kernel
theorem dX9_traces_21 : decode cX9_traces 21 = .ok (.getfield 251, 3) := by decide +kernel
theorem dX9_traces_24 : decode cX9_traces 24 = .ok (.iconst 1, 1) := by decide +kernel
theorem dX9_traces_25 : decode cX9_traces 25 = .ok (.iadd, 1) := by decide +kernel
theorem dX9_traces_26 : decode cX9_traces 26 = .ok (.putfield 251, 3) := by decide +kernel
theorem dX9_traces_29 : decode cX9_traces 29 = .ok (.return_, 1) := by decide +kernel
theorem dX9_referenceMark_0 : decode cX9_referenceMark 0 = .ok (.aload_n 0, 1) := by decide +kernel
theorem dX9_referenceMark_1 : decode cX9_referenceMark 1 = .ok (.iload_n 1, 1) := by decide +kernel
theorem dX9_referenceMark_2 : decode cX9_referenceMark 2 = .ok (.invokevirtual 248, 3) := by decide +kernel
theorem dX9_referenceMark_5 : decode cX9_referenceMark 5 = .ok (.istore_n 2, 1) := by decide +kernel
theorem dX9_referenceMark_6 : decode cX9_referenceMark 6 = .ok (.iload_n 2, 1) := by decide +kernel
theorem dX9_referenceMark_7 : decode cX9_referenceMark 7 = .ok (.iconst 1, 1) := by decide +kernel
theorem dX9_referenceMark_8 : decode cX9_referenceMark 8 = .ok (.if_icmp .eq 19, 3) := by decide +kernel
theorem dX9_referenceMark_11 : decode cX9_referenceMark 11 = .ok (.aload_n 0, 1) := by decide +kernel
theorem dX9_referenceMark_12 : decode cX9_referenceMark 12 = .ok (.iload_n 2, 1) := by decide +kernel
theorem dX9_referenceMark_13 : decode cX9_referenceMark 13 = .ok (.iconst 2, 1) := by decide +kernel
theorem dX9_referenceMark_14 : decode cX9_referenceMark 14 = .ok (.if_icmp .ne 8, 3) := by decide +kernel
theorem dX9_referenceMark_17 : decode cX9_referenceMark 17 = .ok (.bipush 24, 2) := by decide +kernel
theorem dX9_referenceMark_19 : decode cX9_referenceMark 19 = .ok (.goto 5, 3) := by decide +kernel
theorem dX9_referenceMark_22 : decode cX9_referenceMark 22 = .ok (.bipush 22, 2) := by decide +kernel
theorem dX9_referenceMark_24 : decode cX9_referenceMark 24 = .ok (.invokevirtual 254, 3) := by decide +kernel
theorem dX9_referenceMark_27 : decode cX9_referenceMark 27 = .ok (.aload_n 0, 1) := by decide +kernel
theorem dX9_referenceMark_28 : decode cX9_referenceMark 28 = .ok (.bipush 21, 2) := by decide +kernel
theorem dX9_referenceMark_30 : decode cX9_referenceMark 30 = .ok (.invokevirtual 254, 3) := by decide +kernel
theorem dX9_referenceMark_33 : decode cX9_referenceMark 33 = .ok (.aload_n 0, 1) := by decide +kernel
theorem dX9_referenceMark_34 : decode cX9_referenceMark 34 = .ok (.bipush 20, 2) := by decide +kernel
theorem dX9_referenceMark_36 : decode cX9_referenceMark 36 = .ok (.invokevirtual 254, 3) := by decide +kernel
theorem dX9_referenceMark_39 : decode cX9_referenceMark 39 = .ok (.iload_n 1, 1) := by decide +kernel
theorem dX9_referenceMark_40 : decode cX9_referenceMark 40 = .ok (.aload_n 0, 1) := by decide +kernel
theorem dX9_referenceMark_41 : decode cX9_referenceMark 41 = .ok (.getfield 25, 3) := by decide +kernel
theorem dX9_referenceMark_44 : decode cX9_referenceMark 44 = .ok (.iconst 5, 1) := by decide +kernel
theorem dX9_referenceMark_45 : decode cX9_referenceMark 45 = .ok (.iconst 4, 1) := by decide +kernel
theorem dX9_referenceMark_46 : decode cX9_referenceMark 46 = .ok (.iload_n 1, 1) := by decide +kernel
theorem dX9_referenceMark_47 : decode cX9_referenceMark 47 = .ok (.imul, 1) := by decide +kernel
theorem dX9_referenceMark_48 : decode cX9_referenceMark 48 = .ok (.iadd, 1) := by decide +kernel
theorem dX9_referenceMark_49 : decode cX9_referenceMark 49 = .ok (.iconst 2, 1) := by decide +kernel
theorem dX9_referenceMark_50 : decode cX9_referenceMark 50 = .ok (.iadd, 1) := by decide +kernel
theorem dX9_referenceMark_51 : decode cX9_referenceMark 51 = .ok (.iaload, 1) := by decide +kernel
theorem dX9_referenceMark_52 : decode cX9_referenceMark 52 = .ok (.iadd, 1) := by decide +kernel
theorem dX9_referenceMark_53 : decode cX9_referenceMark 53 = .ok (.istore_n 3, 1) := by decide +kernel
theorem dX9_referenceMark_54 : decode cX9_referenceMark 54 = .ok (.iload_n 2, 1) := by decide +kernel
theorem dX9_referenceMark_55 : decode cX9_referenceMark 55 = .ok (.iconst 2, 1) := by decide +kernel
theorem dX9_referenceMark_56 : decode cX9_referenceMark 56 = .ok (.if_icmp .ne 9, 3) := by decide +kernel
theorem dX9_referenceMark_59 : decode cX9_referenceMark 59 = .ok (.iconst 2, 1) := by decide +kernel
theorem dX9_referenceMark_60 : decode cX9_referenceMark 60 = .ok (.iload_n 3, 1) := by decide +kernel
theorem dX9_referenceMark_61 : decode cX9_referenceMark 61 = .ok (.imul, 1) := by decide +kernel
theorem dX9_referenceMark_62 : decode cX9_referenceMark 62 = .ok (.goto 17, 3) := by decide +kernel
theorem dX9_referenceMark_65 : decode cX9_referenceMark 65 = .ok (.iload_n 2, 1) := by decide +kernel
theorem dX9_referenceMark_66 : decode cX9_referenceMark 66 = .ok (.iconst 3, 1) := by decide +kernel
theorem dX9_referenceMark_67 : decode cX9_referenceMark 67 = .ok (.if_icmp .ne 11, 3) := by decide +kernel
theorem dX9_referenceMark_70 : decode cX9_referenceMark 70 = .ok (.iload_n 3, 1) := by decide +kernel
theorem dX9_referenceMark_71 : decode cX9_referenceMark 71 = .ok (.sipush 1000, 3) := by decide +kernel
theorem dX9_referenceMark_74 : decode cX9_referenceMark 74 = .ok (.isub, 1) := by decide +kernel
theorem dX9_referenceMark_75 : decode cX9_referenceMark 75 = .ok (.goto 4, 3) := by decide +kernel
theorem dX9_referenceMark_78 : decode cX9_referenceMark 78 = .ok (.iload_n 3, 1) := by decide +kernel
theorem dX9_referenceMark_79 : decode cX9_referenceMark 79 = .ok (.ireturn, 1) := by decide +kernel
theorem dX9_wordSize_0 : decode cX9_wordSize 0 = .ok (.aload_n 0, 1) := by decide +kernel
theorem dX9_wordSize_1 : decode cX9_wordSize 1 = .ok (.iload_n 1, 1) := by decide +kernel
theorem dX9_wordSize_2 : decode cX9_wordSize 2 = .ok (.invokevirtual 248, 3) := by decide +kernel
theorem dX9_wordSize_5 : decode cX9_wordSize 5 = .ok (.iconst 5, 1) := by decide +kernel
theorem dX9_wordSize_6 : decode cX9_wordSize 6 = .ok (.if_icmp .ne 7, 3) := by decide +kernel
theorem dX9_wordSize_9 : decode cX9_wordSize 9 = .ok (.iconst 1, 1) := by decide +kernel
theorem dX9_wordSize_10 : decode cX9_wordSize 10 = .ok (.goto 4, 3) := by decide +kernel
theorem dX9_wordSize_13 : decode cX9_wordSize 13 = .ok (.iconst 0, 1) := by decide +kernel
theorem dX9_wordSize_14 : decode cX9_wordSize 14 = .ok (.istore_n 2, 1) := by decide +kernel
theorem dX9_wordSize_15 : decode cX9_wordSize 15 = .ok (.iload_n 2, 1) := by decide +kernel
theorem dX9_wordSize_16 : decode cX9_wordSize 16 = .ok (.ifCond .eq 9, 3) := by decide +kernel
theorem dX9_wordSize_19 : decode cX9_wordSize 19 = .ok (.aload_n 0, 1) := by decide +kernel
theorem dX9_wordSize_20 : decode cX9_wordSize 20 = .ok (.bipush 14, 2) := by decide +kernel
theorem dX9_wordSize_22 : decode cX9_wordSize 22 = .ok (.invokevirtual 254, 3) := by decide +kernel
theorem dX9_wordSize_25 : decode cX9_wordSize 25 = .ok (.aload_n 0, 1) := by decide +kernel
theorem dX9_wordSize_26 : decode cX9_wordSize 26 = .ok (.bipush 13, 2) := by decide +kernel
theorem dX9_wordSize_28 : decode cX9_wordSize 28 = .ok (.invokevirtual 254, 3) := by decide +kernel
theorem dX9_wordSize_31 : decode cX9_wordSize 31 = .ok (.aload_n 0, 1) := by decide +kernel
theorem dX9_wordSize_32 : decode cX9_wordSize 32 = .ok (.bipush 10, 2) := by decide +kernel
theorem dX9_wordSize_34 : decode cX9_wordSize 34 = .ok (.invokevirtual 254, 3) := by decide +kernel
theorem dX9_wordSize_37 : decode cX9_wordSize 37 = .ok (.aload_n 0, 1) := by decide +kernel
theorem dX9_wordSize_38 : decode cX9_wordSize 38 = .ok (.getfield 25, 3) := by decide +kernel
theorem dX9_wordSize_41 : decode cX9_wordSize 41 = .ok (.iload_n 1, 1) := by decide +kernel
theorem dX9_wordSize_42 : decode cX9_wordSize 42 = .ok (.invokestatic 158, 3) := by decide +kernel
theorem dX9_wordSize_45 : decode cX9_wordSize 45 = .ok (.bipush 100, 2) := by decide +kernel
theorem dX9_wordSize_47 : decode cX9_wordSize 47 = .ok (.isub, 1) := by decide +kernel
theorem dX9_wordSize_48 : decode cX9_wordSize 48 = .ok (.istore_n 3, 1) := by decide +kernel
theorem dX9_wordSize_49 : decode cX9_wordSize 49 = .ok (.iload_n 2, 1) := by decide +kernel
theorem dX9_wordSize_50 : decode cX9_wordSize 50 = .ok (.ifCond .eq 9, 3) := by decide +kernel
theorem dX9_wordSize_53 : decode cX9_wordSize 53 = .ok (.iconst 2, 1) := by decide +kernel
theorem dX9_wordSize_54 : decode cX9_wordSize 54 = .ok (.iload_n 3, 1) := by decide +kernel
theorem dX9_wordSize_55 : decode cX9_wordSize 55 = .ok (.imul, 1) := by decide +kernel
theorem dX9_wordSize_56 : decode cX9_wordSize 56 = .ok (.goto 4, 3) := by decide +kernel
theorem dX9_wordSize_59 : decode cX9_wordSize 59 = .ok (.iload_n 3, 1) := by decide +kernel
theorem dX9_wordSize_60 : decode cX9_wordSize 60 = .ok (.ireturn, 1) := by decide +kernel
theorem dX9_referenceSize_0 : decode cX9_referenceSize 0 = .ok (.aload_n 0, 1) := by decide +kernel
theorem dX9_referenceSize_1 : decode cX9_referenceSize 1 = .ok (.iload_n 1, 1) := by decide +kernel
theorem dX9_referenceSize_2 : decode cX9_referenceSize 2 = .ok (.invokevirtual 248, 3) := by decide +kernel
theorem dX9_referenceSize_5 : decode cX9_referenceSize 5 = .ok (.iconst 2, 1) := by decide +kernel
theorem dX9_referenceSize_6 : decode cX9_referenceSize 6 = .ok (.if_icmp .ne 7, 3) := by decide +kernel
theorem dX9_referenceSize_9 : decode cX9_referenceSize 9 = .ok (.iconst 1, 1) := by decide +kernel
theorem dX9_referenceSize_10 : decode cX9_referenceSize 10 = .ok (.goto 4, 3) := by decide +kernel
theorem dX9_referenceSize_13 : decode cX9_referenceSize 13 = .ok (.iconst 0, 1) := by decide +kernel
theorem dX9_referenceSize_14 : decode cX9_referenceSize 14 = .ok (.istore_n 2, 1) := by decide +kernel
theorem dX9_referenceSize_15 : decode cX9_referenceSize 15 = .ok (.iload_n 2, 1) := by decide +kernel
theorem dX9_referenceSize_16 : decode cX9_referenceSize 16 = .ok (.ifCond .eq 9, 3) := by decide +kernel
theorem dX9_referenceSize_19 : decode cX9_referenceSize 19 = .ok (.aload_n 0, 1) := by decide +kernel
theorem dX9_referenceSize_20 : decode cX9_referenceSize 20 = .ok (.bipush 12, 2) := by decide +kernel
theorem dX9_referenceSize_22 : decode cX9_referenceSize 22 = .ok (.invokevirtual 254, 3) := by decide +kernel
theorem dX9_referenceSize_25 : decode cX9_referenceSize 25 = .ok (.aload_n 0, 1) := by decide +kernel
theorem dX9_referenceSize_26 : decode cX9_referenceSize 26 = .ok (.bipush 11, 2) := by decide +kernel
theorem dX9_referenceSize_28 : decode cX9_referenceSize 28 = .ok (.invokevirtual 254, 3) := by decide +kernel
theorem dX9_referenceSize_31 : decode cX9_referenceSize 31 = .ok (.aload_n 0, 1) := by decide +kernel
theorem dX9_referenceSize_32 : decode cX9_referenceSize 32 = .ok (.bipush 10, 2) := by decide +kernel
theorem dX9_referenceSize_34 : decode cX9_referenceSize 34 = .ok (.invokevirtual 254, 3) := by decide +kernel
theorem dX9_referenceSize_37 : decode cX9_referenceSize 37 = .ok (.aload_n 0, 1) := by decide +kernel
theorem dX9_referenceSize_38 : decode cX9_referenceSize 38 = .ok (.getfield 25, 3) := by decide +kernel
theorem dX9_referenceSize_41 : decode cX9_referenceSize 41 = .ok (.iload_n 1, 1) := by decide +kernel
theorem dX9_referenceSize_42 : decode cX9_referenceSize 42 = .ok (.invokestatic 158, 3) := by decide +kernel
theorem dX9_referenceSize_45 : decode cX9_referenceSize 45 = .ok (.aload_n 0, 1) := by decide +kernel
theorem dX9_referenceSize_46 : decode cX9_referenceSize 46 = .ok (.iload_n 1, 1) := by decide +kernel
theorem dX9_referenceSize_47 : decode cX9_referenceSize 47 = .ok (.invokevirtual 258, 3) := by decide +kernel
theorem dX9_referenceSize_50 : decode cX9_referenceSize 50 = .ok (.iadd, 1) := by decide +kernel
theorem dX9_referenceSize_51 : decode cX9_referenceSize 51 = .ok (.istore_n 3, 1) := by decide +kernel
theorem dX9_referenceSize_52 : decode cX9_referenceSize 52 = .ok (.iload_n 2, 1) := by decide +kernel
theorem dX9_referenceSize_53 : decode cX9_referenceSize 53 = .ok (.ifCond .eq 8, 3) := by decide +kernel
theorem dX9_referenceSize_56 : decode cX9_referenceSize 56 = .ok (.iload_n 3, 1) := by decide +kernel
theorem dX9_referenceSize_57 : decode cX9_referenceSize 57 = .ok (.ineg, 1) := by decide +kernel
theorem dX9_referenceSize_58 : decode cX9_referenceSize 58 = .ok (.goto 4, 3) := by decide +kernel
theorem dX9_referenceSize_61 : decode cX9_referenceSize 61 = .ok (.iload_n 3, 1) := by decide +kernel
theorem dX9_referenceSize_62 : decode cX9_referenceSize 62 = .ok (.ireturn, 1) := by decide +kernel
theorem dX9_wordMark_0 : decode cX9_wordMark 0 = .ok (.aload_n 0, 1) := by decide +kernel
theorem dX9_wordMark_1 : decode cX9_wordMark 1 = .ok (.bipush 23, 2) := by decide +kernel
theorem dX9_wordMark_3 : decode cX9_wordMark 3 = .ok (.invokevirtual 254, 3) := by decide +kernel
theorem dX9_wordMark_6 : decode cX9_wordMark 6 = .ok (.aload_n 0, 1) := by decide +kernel
theorem dX9_wordMark_7 : decode cX9_wordMark 7 = .ok (.bipush 20, 2) := by decide +kernel
theorem dX9_wordMark_9 : decode cX9_wordMark 9 = .ok (.invokevirtual 254, 3) := by decide +kernel
theorem dX9_wordMark_12 : decode cX9_wordMark 12 = .ok (.iload_n 1, 1) := by decide +kernel
theorem dX9_wordMark_13 : decode cX9_wordMark 13 = .ok (.aload_n 0, 1) := by decide +kernel
theorem dX9_wordMark_14 : decode cX9_wordMark 14 = .ok (.iload_n 1, 1) := by decide +kernel
theorem dX9_wordMark_15 : decode cX9_wordMark 15 = .ok (.invokevirtual 261, 3) := by decide +kernel
theorem dX9_wordMark_18 : decode cX9_wordMark 18 = .ok (.isub, 1) := by decide +kernel
theorem dX9_wordMark_19 : decode cX9_wordMark 19 = .ok (.ireturn, 1) := by decide +kernel
theorem dX9_ask_0 : decode cX9_ask 0 = .ok (.aload_n 0, 1) := by decide +kernel
theorem dX9_ask_1 : decode cX9_ask 1 = .ok (.iload_n 1, 1) := by decide +kernel
theorem dX9_ask_2 : decode cX9_ask 2 = .ok (.invokevirtual 202, 3) := by decide +kernel
theorem dX9_ask_5 : decode cX9_ask 5 = .ok (.ifCond .eq 12, 3) := by decide +kernel
theorem dX9_ask_8 : decode cX9_ask 8 = .ok (.iload_n 2, 1) := by decide +kernel
theorem dX9_ask_9 : decode cX9_ask 9 = .ok (.iconst 0, 1) := by decide +kernel
theorem dX9_ask_10 : decode cX9_ask 10 = .ok (.iconst 1, 1) := by decide +kernel
theorem dX9_ask_11 : decode cX9_ask 11 = .ok (.invokestatic 62, 3) := by decide +kernel
theorem dX9_ask_14 : decode cX9_ask 14 = .ok (.ifCond .ne 6, 3) := by decide +kernel
theorem dX9_ask_17 : decode cX9_ask 17 = .ok (.ldc 70, 2) := by decide +kernel
theorem dX9_ask_19 : decode cX9_ask 19 = .ok (.ireturn, 1) := by decide +kernel
theorem dX9_ask_20 : decode cX9_ask 20 = .ok (.aload_n 0, 1) := by decide +kernel
theorem dX9_ask_21 : decode cX9_ask 21 = .ok (.iconst 0, 1) := by decide +kernel
theorem dX9_ask_22 : decode cX9_ask 22 = .ok (.putfield 251, 3) := by decide +kernel
theorem dX9_ask_25 : decode cX9_ask 25 = .ok (.aload_n 0, 1) := by decide +kernel
theorem dX9_ask_26 : decode cX9_ask 26 = .ok (.iload_n 1, 1) := by decide +kernel
theorem dX9_ask_27 : decode cX9_ask 27 = .ok (.invokevirtual 248, 3) := by decide +kernel
theorem dX9_ask_30 : decode cX9_ask 30 = .ok (.iconst 4, 1) := by decide +kernel
theorem dX9_ask_31 : decode cX9_ask 31 = .ok (.if_icmp .lt 7, 3) := by decide +kernel
theorem dX9_ask_34 : decode cX9_ask 34 = .ok (.iconst 1, 1) := by decide +kernel
theorem dX9_ask_35 : decode cX9_ask 35 = .ok (.goto 4, 3) := by decide +kernel
theorem dX9_ask_38 : decode cX9_ask 38 = .ok (.iconst 0, 1) := by decide +kernel
theorem dX9_ask_39 : decode cX9_ask 39 = .ok (.istore_n 3, 1) := by decide +kernel
theorem dX9_ask_40 : decode cX9_ask 40 = .ok (.iload_n 2, 1) := by decide +kernel
theorem dX9_ask_41 : decode cX9_ask 41 = .ok (.ifCond .ne 21, 3) := by decide +kernel
theorem dX9_ask_44 : decode cX9_ask 44 = .ok (.iload_n 3, 1) := by decide +kernel
theorem dX9_ask_45 : decode cX9_ask 45 = .ok (.ifCond .eq 11, 3) := by decide +kernel
theorem dX9_ask_48 : decode cX9_ask 48 = .ok (.aload_n 0, 1) := by decide +kernel
theorem dX9_ask_49 : decode cX9_ask 49 = .ok (.iload_n 1, 1) := by decide +kernel
theorem dX9_ask_50 : decode cX9_ask 50 = .ok (.invokevirtual 261, 3) := by decide +kernel
theorem dX9_ask_53 : decode cX9_ask 53 = .ok (.goto 8, 3) := by decide +kernel
theorem dX9_ask_56 : decode cX9_ask 56 = .ok (.aload_n 0, 1) := by decide +kernel
theorem dX9_ask_57 : decode cX9_ask 57 = .ok (.iload_n 1, 1) := by decide +kernel
theorem dX9_ask_58 : decode cX9_ask 58 = .ok (.invokevirtual 264, 3) := by decide +kernel
theorem dX9_ask_61 : decode cX9_ask 61 = .ok (.ireturn, 1) := by decide +kernel
theorem dX9_ask_62 : decode cX9_ask 62 = .ok (.iload_n 3, 1) := by decide +kernel
theorem dX9_ask_63 : decode cX9_ask 63 = .ok (.ifCond .eq 11, 3) := by decide +kernel
theorem dX9_ask_66 : decode cX9_ask 66 = .ok (.aload_n 0, 1) := by decide +kernel
theorem dX9_ask_67 : decode cX9_ask 67 = .ok (.iload_n 1, 1) := by decide +kernel
theorem dX9_ask_68 : decode cX9_ask 68 = .ok (.invokevirtual 267, 3) := by decide +kernel
theorem dX9_ask_71 : decode cX9_ask 71 = .ok (.goto 8, 3) := by decide +kernel
theorem dX9_ask_74 : decode cX9_ask 74 = .ok (.aload_n 0, 1) := by decide +kernel
theorem dX9_ask_75 : decode cX9_ask 75 = .ok (.iload_n 1, 1) := by decide +kernel
theorem dX9_ask_76 : decode cX9_ask 76 = .ok (.invokevirtual 258, 3) := by decide +kernel
theorem dX9_ask_79 : decode cX9_ask 79 = .ok (.ireturn, 1) := by decide +kernel
theorem dX9_trace_0 : decode cX9_trace 0 = .ok (.iload_n 1, 1) := by decide +kernel
theorem dX9_trace_1 : decode cX9_trace 1 = .ok (.iconst 0, 1) := by decide +kernel
theorem dX9_trace_2 : decode cX9_trace 2 = .ok (.aload_n 0, 1) := by decide +kernel
theorem dX9_trace_3 : decode cX9_trace 3 = .ok (.getfield 251, 3) := by decide +kernel
theorem dX9_trace_6 : decode cX9_trace 6 = .ok (.iconst 1, 1) := by decide +kernel
theorem dX9_trace_7 : decode cX9_trace 7 = .ok (.isub, 1) := by decide +kernel
theorem dX9_trace_8 : decode cX9_trace 8 = .ok (.invokestatic 62, 3) := by decide +kernel
theorem dX9_trace_11 : decode cX9_trace 11 = .ok (.ifCond .eq 12, 3) := by decide +kernel
theorem dX9_trace_14 : decode cX9_trace 14 = .ok (.aload_n 0, 1) := by decide +kernel
theorem dX9_trace_15 : decode cX9_trace 15 = .ok (.getfield 53, 3) := by decide +kernel
theorem dX9_trace_18 : decode cX9_trace 18 = .ok (.iload_n 1, 1) := by decide +kernel
theorem dX9_trace_19 : decode cX9_trace 19 = .ok (.iaload, 1) := by decide +kernel
theorem dX9_trace_20 : decode cX9_trace 20 = .ok (.goto 5, 3) := by decide +kernel
theorem dX9_trace_23 : decode cX9_trace 23 = .ok (.ldc 56, 2) := by decide +kernel
theorem dX9_trace_25 : decode cX9_trace 25 = .ok (.ireturn, 1) := by decide +kernel
theorem dX9_count_0 : decode cX9_count 0 = .ok (.iconst 0, 1) := by decide +kernel
theorem dX9_count_1 : decode cX9_count 1 = .ok (.istore_n 2, 1) := by decide +kernel
theorem dX9_count_2 : decode cX9_count 2 = .ok (.iload_n 1, 1) := by decide +kernel
theorem dX9_count_3 : decode cX9_count 3 = .ok (.tableswitch 134 0 8 #[49, 81, 88, 95, 102, 109, 117, 124, 129], 49) := by decide +kernel
theorem dX9_count_52 : decode cX9_count 52 = .ok (.iconst 0, 1) := by decide +kernel
theorem dX9_count_53 : decode cX9_count 53 = .ok (.istore_n 3, 1) := by decide +kernel
theorem dX9_count_54 : decode cX9_count 54 = .ok (.iload_n 3, 1) := by decide +kernel
theorem dX9_count_55 : decode cX9_count 55 = .ok (.bipush 8, 2) := by decide +kernel
theorem dX9_count_57 : decode cX9_count 57 = .ok (.if_icmp .ge 25, 3) := by decide +kernel
theorem dX9_count_60 : decode cX9_count 60 = .ok (.iload_n 2, 1) := by decide +kernel
theorem dX9_count_61 : decode cX9_count 61 = .ok (.aload_n 0, 1) := by decide +kernel
theorem dX9_count_62 : decode cX9_count 62 = .ok (.iload_n 3, 1) := by decide +kernel
theorem dX9_count_63 : decode cX9_count 63 = .ok (.invokevirtual 78, 3) := by decide +kernel
theorem dX9_count_66 : decode cX9_count 66 = .ok (.ifCond .eq 7, 3) := by decide +kernel
theorem dX9_count_69 : decode cX9_count 69 = .ok (.iconst 0, 1) := by decide +kernel
theorem dX9_count_70 : decode cX9_count 70 = .ok (.goto 4, 3) := by decide +kernel
theorem dX9_count_73 : decode cX9_count 73 = .ok (.iconst 1, 1) := by decide +kernel
theorem dX9_count_74 : decode cX9_count 74 = .ok (.iadd, 1) := by decide +kernel
theorem dX9_count_75 : decode cX9_count 75 = .ok (.istore_n 2, 1) := by decide +kernel
theorem dX9_count_76 : decode cX9_count 76 = .ok (.iinc 3 1, 3) := by decide +kernel
theorem dX9_count_79 : decode cX9_count 79 = .ok (.goto (-25), 3) := by decide +kernel
theorem dX9_count_82 : decode cX9_count 82 = .ok (.iload_n 2, 1) := by decide +kernel
theorem dX9_count_83 : decode cX9_count 83 = .ok (.ireturn, 1) := by decide +kernel
theorem dX9_count_84 : decode cX9_count 84 = .ok (.aload_n 0, 1) := by decide +kernel
theorem dX9_count_85 : decode cX9_count 85 = .ok (.getfield 25, 3) := by decide +kernel
theorem dX9_count_88 : decode cX9_count 88 = .ok (.iconst 3, 1) := by decide +kernel
theorem dX9_count_89 : decode cX9_count 89 = .ok (.iaload, 1) := by decide +kernel
theorem dX9_count_90 : decode cX9_count 90 = .ok (.ireturn, 1) := by decide +kernel
theorem dX9_count_91 : decode cX9_count 91 = .ok (.aload_n 0, 1) := by decide +kernel
theorem dX9_count_92 : decode cX9_count 92 = .ok (.getfield 25, 3) := by decide +kernel
theorem dX9_count_95 : decode cX9_count 95 = .ok (.iconst 0, 1) := by decide +kernel
theorem dX9_count_96 : decode cX9_count 96 = .ok (.iaload, 1) := by decide +kernel
theorem dX9_count_97 : decode cX9_count 97 = .ok (.ireturn, 1) := by decide +kernel
theorem dX9_count_98 : decode cX9_count 98 = .ok (.aload_n 0, 1) := by decide +kernel
theorem dX9_count_99 : decode cX9_count 99 = .ok (.getfield 25, 3) := by decide +kernel
theorem dX9_count_102 : decode cX9_count 102 = .ok (.iconst 1, 1) := by decide +kernel
theorem dX9_count_103 : decode cX9_count 103 = .ok (.iaload, 1) := by decide +kernel
theorem dX9_count_104 : decode cX9_count 104 = .ok (.ireturn, 1) := by decide +kernel
theorem dX9_count_105 : decode cX9_count 105 = .ok (.aload_n 0, 1) := by decide +kernel
theorem dX9_count_106 : decode cX9_count 106 = .ok (.getfield 25, 3) := by decide +kernel
theorem dX9_count_109 : decode cX9_count 109 = .ok (.iconst 2, 1) := by decide +kernel
theorem dX9_count_110 : decode cX9_count 110 = .ok (.iaload, 1) := by decide +kernel
theorem dX9_count_111 : decode cX9_count 111 = .ok (.ireturn, 1) := by decide +kernel
theorem dX9_count_112 : decode cX9_count 112 = .ok (.aload_n 0, 1) := by decide +kernel
theorem dX9_count_113 : decode cX9_count 113 = .ok (.getfield 25, 3) := by decide +kernel
theorem dX9_count_116 : decode cX9_count 116 = .ok (.invokestatic 209, 3) := by decide +kernel
theorem dX9_count_119 : decode cX9_count 119 = .ok (.ireturn, 1) := by decide +kernel
theorem dX9_count_120 : decode cX9_count 120 = .ok (.aload_n 0, 1) := by decide +kernel
theorem dX9_count_121 : decode cX9_count 121 = .ok (.getfield 25, 3) := by decide +kernel
theorem dX9_count_124 : decode cX9_count 124 = .ok (.iconst 4, 1) := by decide +kernel
theorem dX9_count_125 : decode cX9_count 125 = .ok (.iaload, 1) := by decide +kernel
theorem dX9_count_126 : decode cX9_count 126 = .ok (.ireturn, 1) := by decide +kernel
theorem dX9_count_127 : decode cX9_count 127 = .ok (.aload_n 0, 1) := by decide +kernel
theorem dX9_count_128 : decode cX9_count 128 = .ok (.getfield 149, 3) := by decide +kernel
theorem dX9_count_131 : decode cX9_count 131 = .ok (.ireturn, 1) := by decide +kernel
theorem dX9_count_132 : decode cX9_count 132 = .ok (.aload_n 0, 1) := by decide +kernel
theorem dX9_count_133 : decode cX9_count 133 = .ok (.getfield 88, 3) := by decide +kernel
theorem dX9_count_136 : decode cX9_count 136 = .ok (.ireturn, 1) := by decide +kernel
theorem dX9_count_137 : decode cX9_count 137 = .ok (.ldc 70, 2) := by decide +kernel
theorem dX9_count_139 : decode cX9_count 139 = .ok (.ireturn, 1) := by decide +kernel
theorem dX9_status_0 : decode cX9_status 0 = .ok (.aload_n 0, 1) := by decide +kernel
theorem dX9_status_1 : decode cX9_status 1 = .ok (.getfield 57, 3) := by decide +kernel
theorem dX9_status_4 : decode cX9_status 4 = .ok (.ireturn, 1) := by decide +kernel
theorem dJ5_init_d00df_0 : decode cJ5_init_d00df 0 = .ok (.aload_n 0, 1) := by decide +kernel
theorem dJ5_init_d00df_1 : decode cJ5_init_d00df 1 = .ok (.invokespecial 3, 3) := by decide +kernel
theorem dJ5_init_d00df_4 : decode cJ5_init_d00df 4 = .ok (.getstatic 18, 3) := by decide +kernel
theorem dJ5_init_d00df_7 : decode cJ5_init_d00df 7 = .ok (.ifCond .eq 18, 3) := by decide +kernel
theorem dJ5_init_d00df_10 : decode cJ5_init_d00df 10 = .ok (.aload_n 0, 1) := by decide +kernel
theorem dJ5_init_d00df_11 : decode cJ5_init_d00df 11 = .ok (.iload_n 1, 1) := by decide +kernel
theorem dJ5_init_d00df_12 : decode cJ5_init_d00df 12 = .ok (.newarray .byte, 2) := by decide +kernel
theorem dJ5_init_d00df_14 : decode cJ5_init_d00df 14 = .ok (.putfield 15, 3) := by decide +kernel
theorem dJ5_init_d00df_17 : decode cJ5_init_d00df 17 = .ok (.aload_n 0, 1) := by decide +kernel
theorem dJ5_init_d00df_18 : decode cJ5_init_d00df 18 = .ok (.iconst 0, 1) := by decide +kernel
theorem dJ5_init_d00df_19 : decode cJ5_init_d00df 19 = .ok (.putfield 22, 3) := by decide +kernel
theorem dJ5_init_d00df_22 : decode cJ5_init_d00df 22 = .ok (.goto 16, 3) := by decide +kernel
theorem dJ5_init_d00df_25 : decode cJ5_init_d00df 25 = .ok (.aload_n 0, 1) := by decide +kernel
theorem dJ5_init_d00df_26 : decode cJ5_init_d00df 26 = .ok (.iload_n 1, 1) := by decide +kernel
theorem dJ5_init_d00df_27 : decode cJ5_init_d00df 27 = .ok (.invokestatic 26, 3) := by decide +kernel
theorem dJ5_init_d00df_30 : decode cJ5_init_d00df 30 = .ok (.putfield 15, 3) := by decide +kernel
theorem dJ5_init_d00df_33 : decode cJ5_init_d00df 33 = .ok (.aload_n 0, 1) := by decide +kernel
theorem dJ5_init_d00df_34 : decode cJ5_init_d00df 34 = .ok (.iconst 1, 1) := by decide +kernel
theorem dJ5_init_d00df_35 : decode cJ5_init_d00df 35 = .ok (.putfield 22, 3) := by decide +kernel
theorem dJ5_init_d00df_38 : decode cJ5_init_d00df 38 = .ok (.return_, 1) := by decide +kernel
theorem dJ5_length_8abf5_0 : decode cJ5_length_8abf5 0 = .ok (.aload_n 0, 1) := by decide +kernel
theorem dJ5_length_8abf5_1 : decode cJ5_length_8abf5 1 = .ok (.getfield 79, 3) := by decide +kernel
theorem dJ5_length_8abf5_4 : decode cJ5_length_8abf5 4 = .ok (.ireturn, 1) := by decide +kernel
theorem dJ5_ensureCapacityInternal_d00df_0 : decode cJ5_ensureCapacityInternal_d00df 0 = .ok (.aload_n 0, 1) := by decide +kernel
theorem dJ5_ensureCapacityInternal_d00df_1 : decode cJ5_ensureCapacityInternal_d00df 1 = .ok (.getfield 15, 3) := by decide +kernel
theorem dJ5_ensureCapacityInternal_d00df_4 : decode cJ5_ensureCapacityInternal_d00df 4 = .ok (.arraylength, 1) := by decide +kernel
theorem dJ5_ensureCapacityInternal_d00df_5 : decode cJ5_ensureCapacityInternal_d00df 5 = .ok (.aload_n 0, 1) := by decide +kernel
theorem dJ5_ensureCapacityInternal_d00df_6 : decode cJ5_ensureCapacityInternal_d00df 6 = .ok (.getfield 22, 3) := by decide +kernel
theorem dJ5_ensureCapacityInternal_d00df_9 : decode cJ5_ensureCapacityInternal_d00df 9 = .ok (.ishr, 1) := by decide +kernel
theorem dJ5_ensureCapacityInternal_d00df_10 : decode cJ5_ensureCapacityInternal_d00df 10 = .ok (.istore_n 2, 1) := by decide +kernel
theorem dJ5_ensureCapacityInternal_d00df_11 : decode cJ5_ensureCapacityInternal_d00df 11 = .ok (.iload_n 1, 1) := by decide +kernel
theorem dJ5_ensureCapacityInternal_d00df_12 : decode cJ5_ensureCapacityInternal_d00df 12 = .ok (.iload_n 2, 1) := by decide +kernel
theorem dJ5_ensureCapacityInternal_d00df_13 : decode cJ5_ensureCapacityInternal_d00df 13 = .ok (.isub, 1) := by decide +kernel
theorem dJ5_ensureCapacityInternal_d00df_14 : decode cJ5_ensureCapacityInternal_d00df 14 = .ok (.ifCond .le 24, 3) := by decide +kernel
theorem dJ5_ensureCapacityInternal_d00df_17 : decode cJ5_ensureCapacityInternal_d00df 17 = .ok (.aload_n 0, 1) := by decide +kernel
theorem dJ5_ensureCapacityInternal_d00df_18 : decode cJ5_ensureCapacityInternal_d00df 18 = .ok (.aload_n 0, 1) := by decide +kernel
theorem dJ5_ensureCapacityInternal_d00df_19 : decode cJ5_ensureCapacityInternal_d00df 19 = .ok (.getfield 15, 3) := by decide +kernel
theorem dJ5_ensureCapacityInternal_d00df_22 : decode cJ5_ensureCapacityInternal_d00df 22 = .ok (.aload_n 0, 1) := by decide +kernel
theorem dJ5_ensureCapacityInternal_d00df_23 : decode cJ5_ensureCapacityInternal_d00df 23 = .ok (.iload_n 1, 1) := by decide +kernel
theorem dJ5_ensureCapacityInternal_d00df_24 : decode cJ5_ensureCapacityInternal_d00df 24 = .ok (.invokevirtual 104, 3) := by decide +kernel
theorem dJ5_ensureCapacityInternal_d00df_27 : decode cJ5_ensureCapacityInternal_d00df 27 = .ok (.aload_n 0, 1) := by decide +kernel
theorem dJ5_ensureCapacityInternal_d00df_28 : decode cJ5_ensureCapacityInternal_d00df 28 = .ok (.getfield 22, 3) := by decide +kernel
theorem dJ5_ensureCapacityInternal_d00df_31 : decode cJ5_ensureCapacityInternal_d00df 31 = .ok (.ishl, 1) := by decide +kernel
theorem dJ5_ensureCapacityInternal_d00df_32 : decode cJ5_ensureCapacityInternal_d00df 32 = .ok (.invokestatic 108, 3) := by decide +kernel
theorem dJ5_ensureCapacityInternal_d00df_35 : decode cJ5_ensureCapacityInternal_d00df 35 = .ok (.putfield 15, 3) := by decide +kernel
theorem dJ5_ensureCapacityInternal_d00df_38 : decode cJ5_ensureCapacityInternal_d00df 38 = .ok (.return_, 1) := by decide +kernel
theorem dJ5_newCapacity_0f7a4_0 : decode cJ5_newCapacity_0f7a4 0 = .ok (.aload_n 0, 1) := by decide +kernel
theorem dJ5_newCapacity_0f7a4_1 : decode cJ5_newCapacity_0f7a4 1 = .ok (.getfield 15, 3) := by decide +kernel
theorem dJ5_newCapacity_0f7a4_4 : decode cJ5_newCapacity_0f7a4 4 = .ok (.arraylength, 1) := by decide +kernel
theorem dJ5_newCapacity_0f7a4_5 : decode cJ5_newCapacity_0f7a4 5 = .ok (.istore_n 2, 1) := by decide +kernel
theorem dJ5_newCapacity_0f7a4_6 : decode cJ5_newCapacity_0f7a4 6 = .ok (.iload_n 1, 1) := by decide +kernel
theorem dJ5_newCapacity_0f7a4_7 : decode cJ5_newCapacity_0f7a4 7 = .ok (.aload_n 0, 1) := by decide +kernel
theorem dJ5_newCapacity_0f7a4_8 : decode cJ5_newCapacity_0f7a4 8 = .ok (.getfield 22, 3) := by decide +kernel
theorem dJ5_newCapacity_0f7a4_11 : decode cJ5_newCapacity_0f7a4 11 = .ok (.ishl, 1) := by decide +kernel
theorem dJ5_newCapacity_0f7a4_12 : decode cJ5_newCapacity_0f7a4 12 = .ok (.istore_n 3, 1) := by decide +kernel
theorem dJ5_newCapacity_0f7a4_13 : decode cJ5_newCapacity_0f7a4 13 = .ok (.iload_n 3, 1) := by decide +kernel
theorem dJ5_newCapacity_0f7a4_14 : decode cJ5_newCapacity_0f7a4 14 = .ok (.iload_n 2, 1) := by decide +kernel
theorem dJ5_newCapacity_0f7a4_15 : decode cJ5_newCapacity_0f7a4 15 = .ok (.isub, 1) := by decide +kernel
theorem dJ5_newCapacity_0f7a4_16 : decode cJ5_newCapacity_0f7a4 16 = .ok (.istore 4, 2) := by decide +kernel
theorem dJ5_newCapacity_0f7a4_18 : decode cJ5_newCapacity_0f7a4 18 = .ok (.iload_n 2, 1) := by decide +kernel
theorem dJ5_newCapacity_0f7a4_19 : decode cJ5_newCapacity_0f7a4 19 = .ok (.iload 4, 2) := by decide +kernel
theorem dJ5_newCapacity_0f7a4_21 : decode cJ5_newCapacity_0f7a4 21 = .ok (.iload_n 2, 1) := by decide +kernel
theorem dJ5_newCapacity_0f7a4_22 : decode cJ5_newCapacity_0f7a4 22 = .ok (.iconst 2, 1) := by decide +kernel
theorem dJ5_newCapacity_0f7a4_23 : decode cJ5_newCapacity_0f7a4 23 = .ok (.aload_n 0, 1) := by decide +kernel
theorem dJ5_newCapacity_0f7a4_24 : decode cJ5_newCapacity_0f7a4 24 = .ok (.getfield 22, 3) := by decide +kernel
theorem dJ5_newCapacity_0f7a4_27 : decode cJ5_newCapacity_0f7a4 27 = .ok (.ishl, 1) := by decide +kernel
theorem dJ5_newCapacity_0f7a4_28 : decode cJ5_newCapacity_0f7a4 28 = .ok (.iadd, 1) := by decide +kernel
theorem dJ5_newCapacity_0f7a4_29 : decode cJ5_newCapacity_0f7a4 29 = .ok (.invokestatic 114, 3) := by decide +kernel
theorem dJ5_newCapacity_0f7a4_32 : decode cJ5_newCapacity_0f7a4 32 = .ok (.istore 5, 2) := by decide +kernel
theorem dJ5_newCapacity_0f7a4_34 : decode cJ5_newCapacity_0f7a4 34 = .ok (.iload 5, 2) := by decide +kernel
theorem dJ5_newCapacity_0f7a4_36 : decode cJ5_newCapacity_0f7a4 36 = .ok (.ldc 39, 2) := by decide +kernel
theorem dJ5_newCapacity_0f7a4_38 : decode cJ5_newCapacity_0f7a4 38 = .ok (.if_icmp .ne 13, 3) := by decide +kernel
theorem dJ5_newCapacity_0f7a4_41 : decode cJ5_newCapacity_0f7a4 41 = .ok (.new 120, 3) := by decide +kernel
theorem dJ5_newCapacity_0f7a4_44 : decode cJ5_newCapacity_0f7a4 44 = .ok (.dup, 1) := by decide +kernel
theorem dJ5_newCapacity_0f7a4_45 : decode cJ5_newCapacity_0f7a4 45 = .ok (.ldc 122, 2) := by decide +kernel
theorem dJ5_newCapacity_0f7a4_47 : decode cJ5_newCapacity_0f7a4 47 = .ok (.invokespecial 124, 3) := by decide +kernel
theorem dJ5_newCapacity_0f7a4_50 : decode cJ5_newCapacity_0f7a4 50 = .ok (.athrow, 1) := by decide +kernel
theorem dJ5_newCapacity_0f7a4_51 : decode cJ5_newCapacity_0f7a4 51 = .ok (.iload 5, 2) := by decide +kernel
theorem dJ5_newCapacity_0f7a4_53 : decode cJ5_newCapacity_0f7a4 53 = .ok (.aload_n 0, 1) := by decide +kernel
theorem dJ5_newCapacity_0f7a4_54 : decode cJ5_newCapacity_0f7a4 54 = .ok (.getfield 22, 3) := by decide +kernel
theorem dJ5_newCapacity_0f7a4_57 : decode cJ5_newCapacity_0f7a4 57 = .ok (.ishr, 1) := by decide +kernel
theorem dJ5_newCapacity_0f7a4_58 : decode cJ5_newCapacity_0f7a4 58 = .ok (.ireturn, 1) := by decide +kernel
theorem dJ5_inflate_da8c8_0 : decode cJ5_inflate_da8c8 0 = .ok (.aload_n 0, 1) := by decide +kernel
theorem dJ5_inflate_da8c8_1 : decode cJ5_inflate_da8c8 1 = .ok (.invokevirtual 83, 3) := by decide +kernel
theorem dJ5_inflate_da8c8_4 : decode cJ5_inflate_da8c8 4 = .ok (.ifCond .ne 4, 3) := by decide +kernel
theorem dJ5_inflate_da8c8_7 : decode cJ5_inflate_da8c8 7 = .ok (.return_, 1) := by decide +kernel
theorem dJ5_inflate_da8c8_8 : decode cJ5_inflate_da8c8 8 = .ok (.aload_n 0, 1) := by decide +kernel
theorem dJ5_inflate_da8c8_9 : decode cJ5_inflate_da8c8 9 = .ok (.getfield 15, 3) := by decide +kernel
theorem dJ5_inflate_da8c8_12 : decode cJ5_inflate_da8c8 12 = .ok (.arraylength, 1) := by decide +kernel
theorem dJ5_inflate_da8c8_13 : decode cJ5_inflate_da8c8 13 = .ok (.invokestatic 26, 3) := by decide +kernel
theorem dJ5_inflate_da8c8_16 : decode cJ5_inflate_da8c8 16 = .ok (.astore_n 1, 1) := by decide +kernel
theorem dJ5_inflate_da8c8_17 : decode cJ5_inflate_da8c8 17 = .ok (.aload_n 0, 1) := by decide +kernel
theorem dJ5_inflate_da8c8_18 : decode cJ5_inflate_da8c8 18 = .ok (.getfield 15, 3) := by decide +kernel
theorem dJ5_inflate_da8c8_21 : decode cJ5_inflate_da8c8 21 = .ok (.iconst 0, 1) := by decide +kernel
theorem dJ5_inflate_da8c8_22 : decode cJ5_inflate_da8c8 22 = .ok (.aload_n 1, 1) := by decide +kernel
theorem dJ5_inflate_da8c8_23 : decode cJ5_inflate_da8c8 23 = .ok (.iconst 0, 1) := by decide +kernel
theorem dJ5_inflate_da8c8_24 : decode cJ5_inflate_da8c8 24 = .ok (.aload_n 0, 1) := by decide +kernel
theorem dJ5_inflate_da8c8_25 : decode cJ5_inflate_da8c8 25 = .ok (.getfield 79, 3) := by decide +kernel
theorem dJ5_inflate_da8c8_28 : decode cJ5_inflate_da8c8 28 = .ok (.invokestatic 125, 3) := by decide +kernel
theorem dJ5_inflate_da8c8_31 : decode cJ5_inflate_da8c8 31 = .ok (.aload_n 0, 1) := by decide +kernel
theorem dJ5_inflate_da8c8_32 : decode cJ5_inflate_da8c8 32 = .ok (.aload_n 1, 1) := by decide +kernel
theorem dJ5_inflate_da8c8_33 : decode cJ5_inflate_da8c8 33 = .ok (.putfield 15, 3) := by decide +kernel
theorem dJ5_inflate_da8c8_36 : decode cJ5_inflate_da8c8 36 = .ok (.aload_n 0, 1) := by decide +kernel
theorem dJ5_inflate_da8c8_37 : decode cJ5_inflate_da8c8 37 = .ok (.iconst 1, 1) := by decide +kernel
theorem dJ5_inflate_da8c8_38 : decode cJ5_inflate_da8c8 38 = .ok (.putfield 22, 3) := by decide +kernel
theorem dJ5_inflate_da8c8_41 : decode cJ5_inflate_da8c8 41 = .ok (.return_, 1) := by decide +kernel
theorem dJ5_charAt_5068e_0 : decode cJ5_charAt_5068e 0 = .ok (.aload_n 0, 1) := by decide +kernel
theorem dJ5_charAt_5068e_1 : decode cJ5_charAt_5068e 1 = .ok (.getfield 22, 3) := by decide +kernel
theorem dJ5_charAt_5068e_4 : decode cJ5_charAt_5068e 4 = .ok (.istore_n 2, 1) := by decide +kernel
theorem dJ5_charAt_5068e_5 : decode cJ5_charAt_5068e 5 = .ok (.aload_n 0, 1) := by decide +kernel
theorem dJ5_charAt_5068e_6 : decode cJ5_charAt_5068e 6 = .ok (.getfield 15, 3) := by decide +kernel
theorem dJ5_charAt_5068e_9 : decode cJ5_charAt_5068e 9 = .ok (.astore_n 3, 1) := by decide +kernel
theorem dJ5_charAt_5068e_10 : decode cJ5_charAt_5068e 10 = .ok (.aload_n 0, 1) := by decide +kernel
theorem dJ5_charAt_5068e_11 : decode cJ5_charAt_5068e 11 = .ok (.getfield 79, 3) := by decide +kernel
theorem dJ5_charAt_5068e_14 : decode cJ5_charAt_5068e 14 = .ok (.aload_n 3, 1) := by decide +kernel
theorem dJ5_charAt_5068e_15 : decode cJ5_charAt_5068e 15 = .ok (.arraylength, 1) := by decide +kernel
theorem dJ5_charAt_5068e_16 : decode cJ5_charAt_5068e 16 = .ok (.iload_n 2, 1) := by decide +kernel
theorem dJ5_charAt_5068e_17 : decode cJ5_charAt_5068e 17 = .ok (.ishr, 1) := by decide +kernel
theorem dJ5_charAt_5068e_18 : decode cJ5_charAt_5068e 18 = .ok (.invokestatic 138, 3) := by decide +kernel
theorem dJ5_charAt_5068e_21 : decode cJ5_charAt_5068e 21 = .ok (.istore 4, 2) := by decide +kernel
theorem dJ5_charAt_5068e_23 : decode cJ5_charAt_5068e 23 = .ok (.iload_n 1, 1) := by decide +kernel
theorem dJ5_charAt_5068e_24 : decode cJ5_charAt_5068e 24 = .ok (.iload 4, 2) := by decide +kernel
theorem dJ5_charAt_5068e_26 : decode cJ5_charAt_5068e 26 = .ok (.invokestatic 144, 3) := by decide +kernel
theorem dJ5_charAt_5068e_29 : decode cJ5_charAt_5068e 29 = .ok (.iload_n 2, 1) := by decide +kernel
theorem dJ5_charAt_5068e_30 : decode cJ5_charAt_5068e 30 = .ok (.ifCond .ne 12, 3) := by decide +kernel
theorem dJ5_charAt_5068e_33 : decode cJ5_charAt_5068e 33 = .ok (.aload_n 3, 1) := by decide +kernel
theorem dJ5_charAt_5068e_34 : decode cJ5_charAt_5068e 34 = .ok (.iload_n 1, 1) := by decide +kernel
theorem dJ5_charAt_5068e_35 : decode cJ5_charAt_5068e 35 = .ok (.baload, 1) := by decide +kernel
theorem dJ5_charAt_5068e_36 : decode cJ5_charAt_5068e 36 = .ok (.sipush 255, 3) := by decide +kernel
theorem dJ5_charAt_5068e_39 : decode cJ5_charAt_5068e 39 = .ok (.iand, 1) := by decide +kernel
theorem dJ5_charAt_5068e_40 : decode cJ5_charAt_5068e 40 = .ok (.i2c, 1) := by decide +kernel
theorem dJ5_charAt_5068e_41 : decode cJ5_charAt_5068e 41 = .ok (.ireturn, 1) := by decide +kernel
theorem dJ5_charAt_5068e_42 : decode cJ5_charAt_5068e 42 = .ok (.aload_n 3, 1) := by decide +kernel
theorem dJ5_charAt_5068e_43 : decode cJ5_charAt_5068e 43 = .ok (.iload_n 1, 1) := by decide +kernel
theorem dJ5_charAt_5068e_44 : decode cJ5_charAt_5068e 44 = .ok (.invokestatic 148, 3) := by decide +kernel
theorem dJ5_charAt_5068e_47 : decode cJ5_charAt_5068e 47 = .ok (.ireturn, 1) := by decide +kernel
theorem dJ5_append_3fe6f_0 : decode cJ5_append_3fe6f 0 = .ok (.aload_n 0, 1) := by decide +kernel
theorem dJ5_append_3fe6f_1 : decode cJ5_append_3fe6f 1 = .ok (.aload_n 0, 1) := by decide +kernel
theorem dJ5_append_3fe6f_2 : decode cJ5_append_3fe6f 2 = .ok (.getfield 79, 3) := by decide +kernel
theorem dJ5_append_3fe6f_5 : decode cJ5_append_3fe6f 5 = .ok (.iconst 1, 1) := by decide +kernel
theorem dJ5_append_3fe6f_6 : decode cJ5_append_3fe6f 6 = .ok (.iadd, 1) := by decide +kernel
theorem dJ5_append_3fe6f_7 : decode cJ5_append_3fe6f 7 = .ok (.invokevirtual 100, 3) := by decide +kernel
theorem dJ5_append_3fe6f_10 : decode cJ5_append_3fe6f 10 = .ok (.aload_n 0, 1) := by decide +kernel
theorem dJ5_append_3fe6f_11 : decode cJ5_append_3fe6f 11 = .ok (.invokevirtual 83, 3) := by decide +kernel
theorem dJ5_append_3fe6f_14 : decode cJ5_append_3fe6f 14 = .ok (.ifCond .eq 31, 3) := by decide +kernel
theorem dJ5_append_3fe6f_17 : decode cJ5_append_3fe6f 17 = .ok (.iload_n 1, 1) := by decide +kernel
theorem dJ5_append_3fe6f_18 : decode cJ5_append_3fe6f 18 = .ok (.invokestatic 191, 3) := by decide +kernel
theorem dJ5_append_3fe6f_21 : decode cJ5_append_3fe6f 21 = .ok (.ifCond .eq 24, 3) := by decide +kernel
theorem dJ5_append_3fe6f_24 : decode cJ5_append_3fe6f 24 = .ok (.aload_n 0, 1) := by decide +kernel
theorem dJ5_append_3fe6f_25 : decode cJ5_append_3fe6f 25 = .ok (.getfield 15, 3) := by decide +kernel
theorem dJ5_append_3fe6f_28 : decode cJ5_append_3fe6f 28 = .ok (.aload_n 0, 1) := by decide +kernel
theorem dJ5_append_3fe6f_29 : decode cJ5_append_3fe6f 29 = .ok (.dup, 1) := by decide +kernel
theorem dJ5_append_3fe6f_30 : decode cJ5_append_3fe6f 30 = .ok (.getfield 79, 3) := by decide +kernel
theorem dJ5_append_3fe6f_33 : decode cJ5_append_3fe6f 33 = .ok (.dup_x1, 1) := by decide +kernel
theorem dJ5_append_3fe6f_34 : decode cJ5_append_3fe6f 34 = .ok (.iconst 1, 1) := by decide +kernel
theorem dJ5_append_3fe6f_35 : decode cJ5_append_3fe6f 35 = .ok (.iadd, 1) := by decide +kernel
theorem dJ5_append_3fe6f_36 : decode cJ5_append_3fe6f 36 = .ok (.putfield 79, 3) := by decide +kernel
theorem dJ5_append_3fe6f_39 : decode cJ5_append_3fe6f 39 = .ok (.iload_n 1, 1) := by decide +kernel
theorem dJ5_append_3fe6f_40 : decode cJ5_append_3fe6f 40 = .ok (.i2b, 1) := by decide +kernel
theorem dJ5_append_3fe6f_41 : decode cJ5_append_3fe6f 41 = .ok (.bastore, 1) := by decide +kernel
theorem dJ5_append_3fe6f_42 : decode cJ5_append_3fe6f 42 = .ok (.goto 33, 3) := by decide +kernel
theorem dJ5_append_3fe6f_45 : decode cJ5_append_3fe6f 45 = .ok (.aload_n 0, 1) := by decide +kernel
theorem dJ5_append_3fe6f_46 : decode cJ5_append_3fe6f 46 = .ok (.invokevirtual 83, 3) := by decide +kernel
theorem dJ5_append_3fe6f_49 : decode cJ5_append_3fe6f 49 = .ok (.ifCond .eq 7, 3) := by decide +kernel
theorem dJ5_append_3fe6f_52 : decode cJ5_append_3fe6f 52 = .ok (.aload_n 0, 1) := by decide +kernel
theorem dJ5_append_3fe6f_53 : decode cJ5_append_3fe6f 53 = .ok (.invokevirtual 195, 3) := by decide +kernel
theorem dJ5_append_3fe6f_56 : decode cJ5_append_3fe6f 56 = .ok (.aload_n 0, 1) := by decide +kernel
theorem dJ5_append_3fe6f_57 : decode cJ5_append_3fe6f 57 = .ok (.getfield 15, 3) := by decide +kernel
theorem dJ5_append_3fe6f_60 : decode cJ5_append_3fe6f 60 = .ok (.aload_n 0, 1) := by decide +kernel
theorem dJ5_append_3fe6f_61 : decode cJ5_append_3fe6f 61 = .ok (.dup, 1) := by decide +kernel
theorem dJ5_append_3fe6f_62 : decode cJ5_append_3fe6f 62 = .ok (.getfield 79, 3) := by decide +kernel
theorem dJ5_append_3fe6f_65 : decode cJ5_append_3fe6f 65 = .ok (.dup_x1, 1) := by decide +kernel
theorem dJ5_append_3fe6f_66 : decode cJ5_append_3fe6f 66 = .ok (.iconst 1, 1) := by decide +kernel
theorem dJ5_append_3fe6f_67 : decode cJ5_append_3fe6f 67 = .ok (.iadd, 1) := by decide +kernel
theorem dJ5_append_3fe6f_68 : decode cJ5_append_3fe6f 68 = .ok (.putfield 79, 3) := by decide +kernel
theorem dJ5_append_3fe6f_71 : decode cJ5_append_3fe6f 71 = .ok (.iload_n 1, 1) := by decide +kernel
theorem dJ5_append_3fe6f_72 : decode cJ5_append_3fe6f 72 = .ok (.invokestatic 197, 3) := by decide +kernel
theorem dJ5_append_3fe6f_75 : decode cJ5_append_3fe6f 75 = .ok (.aload_n 0, 1) := by decide +kernel
theorem dJ5_append_3fe6f_76 : decode cJ5_append_3fe6f 76 = .ok (.areturn, 1) := by decide +kernel
theorem dJ5_append_c97b9_0 : decode cJ5_append_c97b9 0 = .ok (.aload_n 0, 1) := by decide +kernel
theorem dJ5_append_c97b9_1 : decode cJ5_append_c97b9 1 = .ok (.getfield 79, 3) := by decide +kernel
theorem dJ5_append_c97b9_4 : decode cJ5_append_c97b9 4 = .ok (.istore_n 2, 1) := by decide +kernel
theorem dJ5_append_c97b9_5 : decode cJ5_append_c97b9 5 = .ok (.iload_n 2, 1) := by decide +kernel
theorem dJ5_append_c97b9_6 : decode cJ5_append_c97b9 6 = .ok (.iload_n 1, 1) := by decide +kernel
theorem dJ5_append_c97b9_7 : decode cJ5_append_c97b9 7 = .ok (.invokestatic 245, 3) := by decide +kernel
theorem dJ5_append_c97b9_10 : decode cJ5_append_c97b9 10 = .ok (.iadd, 1) := by decide +kernel
theorem dJ5_append_c97b9_11 : decode cJ5_append_c97b9 11 = .ok (.istore_n 3, 1) := by decide +kernel
theorem dJ5_append_c97b9_12 : decode cJ5_append_c97b9 12 = .ok (.aload_n 0, 1) := by decide +kernel
theorem dJ5_append_c97b9_13 : decode cJ5_append_c97b9 13 = .ok (.iload_n 3, 1) := by decide +kernel
theorem dJ5_append_c97b9_14 : decode cJ5_append_c97b9 14 = .ok (.invokevirtual 100, 3) := by decide +kernel
theorem dJ5_append_c97b9_17 : decode cJ5_append_c97b9 17 = .ok (.aload_n 0, 1) := by decide +kernel
theorem dJ5_append_c97b9_18 : decode cJ5_append_c97b9 18 = .ok (.invokevirtual 83, 3) := by decide +kernel
theorem dJ5_append_c97b9_21 : decode cJ5_append_c97b9 21 = .ok (.ifCond .eq 16, 3) := by decide +kernel
theorem dJ5_append_c97b9_24 : decode cJ5_append_c97b9 24 = .ok (.iload_n 1, 1) := by decide +kernel
theorem dJ5_append_c97b9_25 : decode cJ5_append_c97b9 25 = .ok (.iload_n 3, 1) := by decide +kernel
theorem dJ5_append_c97b9_26 : decode cJ5_append_c97b9 26 = .ok (.aload_n 0, 1) := by decide +kernel
theorem dJ5_append_c97b9_27 : decode cJ5_append_c97b9 27 = .ok (.getfield 15, 3) := by decide +kernel
theorem dJ5_append_c97b9_30 : decode cJ5_append_c97b9 30 = .ok (.invokestatic 248, 3) := by decide +kernel
theorem dJ5_append_c97b9_33 : decode cJ5_append_c97b9 33 = .ok (.pop, 1) := by decide +kernel
theorem dJ5_append_c97b9_34 : decode cJ5_append_c97b9 34 = .ok (.goto 14, 3) := by decide +kernel
theorem dJ5_append_c97b9_37 : decode cJ5_append_c97b9 37 = .ok (.iload_n 1, 1) := by decide +kernel
theorem dJ5_append_c97b9_38 : decode cJ5_append_c97b9 38 = .ok (.iload_n 2, 1) := by decide +kernel
theorem dJ5_append_c97b9_39 : decode cJ5_append_c97b9 39 = .ok (.iload_n 3, 1) := by decide +kernel
theorem dJ5_append_c97b9_40 : decode cJ5_append_c97b9 40 = .ok (.aload_n 0, 1) := by decide +kernel
theorem dJ5_append_c97b9_41 : decode cJ5_append_c97b9 41 = .ok (.getfield 15, 3) := by decide +kernel
theorem dJ5_append_c97b9_44 : decode cJ5_append_c97b9 44 = .ok (.invokestatic 251, 3) := by decide +kernel
theorem dJ5_append_c97b9_47 : decode cJ5_append_c97b9 47 = .ok (.pop, 1) := by decide +kernel
theorem dJ5_append_c97b9_48 : decode cJ5_append_c97b9 48 = .ok (.aload_n 0, 1) := by decide +kernel
theorem dJ5_append_c97b9_49 : decode cJ5_append_c97b9 49 = .ok (.iload_n 3, 1) := by decide +kernel
theorem dJ5_append_c97b9_50 : decode cJ5_append_c97b9 50 = .ok (.putfield 79, 3) := by decide +kernel
theorem dJ5_append_c97b9_53 : decode cJ5_append_c97b9 53 = .ok (.aload_n 0, 1) := by decide +kernel
theorem dJ5_append_c97b9_54 : decode cJ5_append_c97b9 54 = .ok (.areturn, 1) := by decide +kernel
theorem dJ5_isLatin1_aae02_0 : decode cJ5_isLatin1_aae02 0 = .ok (.getstatic 18, 3) := by decide +kernel
theorem dJ5_isLatin1_aae02_3 : decode cJ5_isLatin1_aae02 3 = .ok (.ifCond .eq 14, 3) := by decide +kernel
theorem dJ5_isLatin1_aae02_6 : decode cJ5_isLatin1_aae02 6 = .ok (.aload_n 0, 1) := by decide +kernel
theorem dJ5_isLatin1_aae02_7 : decode cJ5_isLatin1_aae02 7 = .ok (.getfield 22, 3) := by decide +kernel
theorem dJ5_isLatin1_aae02_10 : decode cJ5_isLatin1_aae02 10 = .ok (.ifCond .ne 7, 3) := by decide +kernel
theorem dJ5_isLatin1_aae02_13 : decode cJ5_isLatin1_aae02 13 = .ok (.iconst 1, 1) := by decide +kernel
theorem dJ5_isLatin1_aae02_14 : decode cJ5_isLatin1_aae02 14 = .ok (.goto 4, 3) := by decide +kernel
theorem dJ5_isLatin1_aae02_17 : decode cJ5_isLatin1_aae02 17 = .ok (.iconst 0, 1) := by decide +kernel
theorem dJ5_isLatin1_aae02_18 : decode cJ5_isLatin1_aae02 18 = .ok (.ireturn, 1) := by decide +kernel
theorem dJ6_getChars_ba4f3_0 : decode cJ6_getChars_ba4f3 0 = .ok (.iload_n 1, 1) := by decide +kernel
theorem dJ6_getChars_ba4f3_1 : decode cJ6_getChars_ba4f3 1 = .ok (.istore 5, 2) := by decide +kernel
theorem dJ6_getChars_ba4f3_3 : decode cJ6_getChars_ba4f3 3 = .ok (.iload_n 0, 1) := by decide +kernel
theorem dJ6_getChars_ba4f3_4 : decode cJ6_getChars_ba4f3 4 = .ok (.ifCond .ge 7, 3) := by decide +kernel
theorem dJ6_getChars_ba4f3_7 : decode cJ6_getChars_ba4f3 7 = .ok (.iconst 1, 1) := by decide +kernel
theorem dJ6_getChars_ba4f3_8 : decode cJ6_getChars_ba4f3 8 = .ok (.goto 4, 3) := by decide +kernel
theorem dJ6_getChars_ba4f3_11 : decode cJ6_getChars_ba4f3 11 = .ok (.iconst 0, 1) := by decide +kernel
theorem dJ6_getChars_ba4f3_12 : decode cJ6_getChars_ba4f3 12 = .ok (.istore 6, 2) := by decide +kernel
theorem dJ6_getChars_ba4f3_14 : decode cJ6_getChars_ba4f3 14 = .ok (.iload 6, 2) := by decide +kernel
theorem dJ6_getChars_ba4f3_16 : decode cJ6_getChars_ba4f3 16 = .ok (.ifCond .ne 6, 3) := by decide +kernel
theorem dJ6_getChars_ba4f3_19 : decode cJ6_getChars_ba4f3 19 = .ok (.iload_n 0, 1) := by decide +kernel
theorem dJ6_getChars_ba4f3_20 : decode cJ6_getChars_ba4f3 20 = .ok (.ineg, 1) := by decide +kernel
theorem dJ6_getChars_ba4f3_21 : decode cJ6_getChars_ba4f3 21 = .ok (.istore_n 0, 1) := by decide +kernel
theorem dJ6_getChars_ba4f3_22 : decode cJ6_getChars_ba4f3 22 = .ok (.iload_n 0, 1) := by decide +kernel
theorem dJ6_getChars_ba4f3_23 : decode cJ6_getChars_ba4f3 23 = .ok (.bipush (-100), 2) := by decide +kernel
theorem dJ6_getChars_ba4f3_25 : decode cJ6_getChars_ba4f3 25 = .ok (.if_icmp .gt 47, 3) := by decide +kernel
theorem dJ6_getChars_ba4f3_28 : decode cJ6_getChars_ba4f3 28 = .ok (.iload_n 0, 1) := by decide +kernel
theorem dJ6_getChars_ba4f3_29 : decode cJ6_getChars_ba4f3 29 = .ok (.bipush 100, 2) := by decide +kernel
theorem dJ6_getChars_ba4f3_31 : decode cJ6_getChars_ba4f3 31 = .ok (.idiv, 1) := by decide +kernel
theorem dJ6_getChars_ba4f3_32 : decode cJ6_getChars_ba4f3 32 = .ok (.istore_n 3, 1) := by decide +kernel
theorem dJ6_getChars_ba4f3_33 : decode cJ6_getChars_ba4f3 33 = .ok (.iload_n 3, 1) := by decide +kernel
theorem dJ6_getChars_ba4f3_34 : decode cJ6_getChars_ba4f3 34 = .ok (.bipush 100, 2) := by decide +kernel
theorem dJ6_getChars_ba4f3_36 : decode cJ6_getChars_ba4f3 36 = .ok (.imul, 1) := by decide +kernel
theorem dJ6_getChars_ba4f3_37 : decode cJ6_getChars_ba4f3 37 = .ok (.iload_n 0, 1) := by decide +kernel
theorem dJ6_getChars_ba4f3_38 : decode cJ6_getChars_ba4f3 38 = .ok (.isub, 1) := by decide +kernel
theorem dJ6_getChars_ba4f3_39 : decode cJ6_getChars_ba4f3 39 = .ok (.istore 4, 2) := by decide +kernel
theorem dJ6_getChars_ba4f3_41 : decode cJ6_getChars_ba4f3 41 = .ok (.iload_n 3, 1) := by decide +kernel
theorem dJ6_getChars_ba4f3_42 : decode cJ6_getChars_ba4f3 42 = .ok (.istore_n 0, 1) := by decide +kernel
theorem dJ6_getChars_ba4f3_43 : decode cJ6_getChars_ba4f3 43 = .ok (.aload_n 2, 1) := by decide +kernel
theorem dJ6_getChars_ba4f3_44 : decode cJ6_getChars_ba4f3 44 = .ok (.iinc 5 (-1), 3) := by decide +kernel
theorem dJ6_getChars_ba4f3_47 : decode cJ6_getChars_ba4f3 47 = .ok (.iload 5, 2) := by decide +kernel
theorem dJ6_getChars_ba4f3_49 : decode cJ6_getChars_ba4f3 49 = .ok (.getstatic 83, 3) := by decide +kernel
theorem dJ6_getChars_ba4f3_52 : decode cJ6_getChars_ba4f3 52 = .ok (.iload 4, 2) := by decide +kernel
theorem dJ6_getChars_ba4f3_54 : decode cJ6_getChars_ba4f3 54 = .ok (.baload, 1) := by decide +kernel
theorem dJ6_getChars_ba4f3_55 : decode cJ6_getChars_ba4f3 55 = .ok (.bastore, 1) := by decide +kernel
theorem dJ6_getChars_ba4f3_56 : decode cJ6_getChars_ba4f3 56 = .ok (.aload_n 2, 1) := by decide +kernel
theorem dJ6_getChars_ba4f3_57 : decode cJ6_getChars_ba4f3 57 = .ok (.iinc 5 (-1), 3) := by decide +kernel
theorem dJ6_getChars_ba4f3_60 : decode cJ6_getChars_ba4f3 60 = .ok (.iload 5, 2) := by decide +kernel
theorem dJ6_getChars_ba4f3_62 : decode cJ6_getChars_ba4f3 62 = .ok (.getstatic 87, 3) := by decide +kernel
theorem dJ6_getChars_ba4f3_65 : decode cJ6_getChars_ba4f3 65 = .ok (.iload 4, 2) := by decide +kernel
theorem dJ6_getChars_ba4f3_67 : decode cJ6_getChars_ba4f3 67 = .ok (.baload, 1) := by decide +kernel
theorem dJ6_getChars_ba4f3_68 : decode cJ6_getChars_ba4f3 68 = .ok (.bastore, 1) := by decide +kernel
theorem dJ6_getChars_ba4f3_69 : decode cJ6_getChars_ba4f3 69 = .ok (.goto (-47), 3) := by decide +kernel
theorem dJ6_getChars_ba4f3_72 : decode cJ6_getChars_ba4f3 72 = .ok (.aload_n 2, 1) := by decide +kernel
theorem dJ6_getChars_ba4f3_73 : decode cJ6_getChars_ba4f3 73 = .ok (.iinc 5 (-1), 3) := by decide +kernel
theorem dJ6_getChars_ba4f3_76 : decode cJ6_getChars_ba4f3 76 = .ok (.iload 5, 2) := by decide +kernel
theorem dJ6_getChars_ba4f3_78 : decode cJ6_getChars_ba4f3 78 = .ok (.getstatic 83, 3) := by decide +kernel
theorem dJ6_getChars_ba4f3_81 : decode cJ6_getChars_ba4f3 81 = .ok (.iload_n 0, 1) := by decide +kernel
theorem dJ6_getChars_ba4f3_82 : decode cJ6_getChars_ba4f3 82 = .ok (.ineg, 1) := by decide +kernel
theorem dJ6_getChars_ba4f3_83 : decode cJ6_getChars_ba4f3 83 = .ok (.baload, 1) := by decide +kernel
theorem dJ6_getChars_ba4f3_84 : decode cJ6_getChars_ba4f3 84 = .ok (.bastore, 1) := by decide +kernel
theorem dJ6_getChars_ba4f3_85 : decode cJ6_getChars_ba4f3 85 = .ok (.iload_n 0, 1) := by decide +kernel
theorem dJ6_getChars_ba4f3_86 : decode cJ6_getChars_ba4f3 86 = .ok (.bipush (-9), 2) := by decide +kernel
theorem dJ6_getChars_ba4f3_88 : decode cJ6_getChars_ba4f3 88 = .ok (.if_icmp .ge 16, 3) := by decide +kernel
theorem dJ6_getChars_ba4f3_91 : decode cJ6_getChars_ba4f3 91 = .ok (.aload_n 2, 1) := by decide +kernel
theorem dJ6_getChars_ba4f3_92 : decode cJ6_getChars_ba4f3 92 = .ok (.iinc 5 (-1), 3) := by decide +kernel
theorem dJ6_getChars_ba4f3_95 : decode cJ6_getChars_ba4f3 95 = .ok (.iload 5, 2) := by decide +kernel
theorem dJ6_getChars_ba4f3_97 : decode cJ6_getChars_ba4f3 97 = .ok (.getstatic 87, 3) := by decide +kernel
theorem dJ6_getChars_ba4f3_100 : decode cJ6_getChars_ba4f3 100 = .ok (.iload_n 0, 1) := by decide +kernel
theorem dJ6_getChars_ba4f3_101 : decode cJ6_getChars_ba4f3 101 = .ok (.ineg, 1) := by decide +kernel
theorem dJ6_getChars_ba4f3_102 : decode cJ6_getChars_ba4f3 102 = .ok (.baload, 1) := by decide +kernel
theorem dJ6_getChars_ba4f3_103 : decode cJ6_getChars_ba4f3 103 = .ok (.bastore, 1) := by decide +kernel
theorem dJ6_getChars_ba4f3_104 : decode cJ6_getChars_ba4f3 104 = .ok (.iload 6, 2) := by decide +kernel
theorem dJ6_getChars_ba4f3_106 : decode cJ6_getChars_ba4f3 106 = .ok (.ifCond .eq 12, 3) := by decide +kernel
theorem dJ6_getChars_ba4f3_109 : decode cJ6_getChars_ba4f3 109 = .ok (.aload_n 2, 1) := by decide +kernel
theorem dJ6_getChars_ba4f3_110 : decode cJ6_getChars_ba4f3 110 = .ok (.iinc 5 (-1), 3) := by decide +kernel
theorem dJ6_getChars_ba4f3_113 : decode cJ6_getChars_ba4f3 113 = .ok (.iload 5, 2) := by decide +kernel
theorem dJ6_getChars_ba4f3_115 : decode cJ6_getChars_ba4f3 115 = .ok (.bipush 45, 2) := by decide +kernel
theorem dJ6_getChars_ba4f3_117 : decode cJ6_getChars_ba4f3 117 = .ok (.bastore, 1) := by decide +kernel
theorem dJ6_getChars_ba4f3_118 : decode cJ6_getChars_ba4f3 118 = .ok (.iload 5, 2) := by decide +kernel
theorem dJ6_getChars_ba4f3_120 : decode cJ6_getChars_ba4f3 120 = .ok (.ireturn, 1) := by decide +kernel
theorem dJ6_stringSize_0f7a4_0 : decode cJ6_stringSize_0f7a4 0 = .ok (.iconst 1, 1) := by decide +kernel
theorem dJ6_stringSize_0f7a4_1 : decode cJ6_stringSize_0f7a4 1 = .ok (.istore_n 1, 1) := by decide +kernel
theorem dJ6_stringSize_0f7a4_2 : decode cJ6_stringSize_0f7a4 2 = .ok (.iload_n 0, 1) := by decide +kernel
theorem dJ6_stringSize_0f7a4_3 : decode cJ6_stringSize_0f7a4 3 = .ok (.ifCond .lt 8, 3) := by decide +kernel
theorem dJ6_stringSize_0f7a4_6 : decode cJ6_stringSize_0f7a4 6 = .ok (.iconst 0, 1) := by decide +kernel
theorem dJ6_stringSize_0f7a4_7 : decode cJ6_stringSize_0f7a4 7 = .ok (.istore_n 1, 1) := by decide +kernel
theorem dJ6_stringSize_0f7a4_8 : decode cJ6_stringSize_0f7a4 8 = .ok (.iload_n 0, 1) := by decide +kernel
theorem dJ6_stringSize_0f7a4_9 : decode cJ6_stringSize_0f7a4 9 = .ok (.ineg, 1) := by decide +kernel
theorem dJ6_stringSize_0f7a4_10 : decode cJ6_stringSize_0f7a4 10 = .ok (.istore_n 0, 1) := by decide +kernel
theorem dJ6_stringSize_0f7a4_11 : decode cJ6_stringSize_0f7a4 11 = .ok (.bipush (-10), 2) := by decide +kernel
theorem dJ6_stringSize_0f7a4_13 : decode cJ6_stringSize_0f7a4 13 = .ok (.istore_n 2, 1) := by decide +kernel
theorem dJ6_stringSize_0f7a4_14 : decode cJ6_stringSize_0f7a4 14 = .ok (.iconst 1, 1) := by decide +kernel
theorem dJ6_stringSize_0f7a4_15 : decode cJ6_stringSize_0f7a4 15 = .ok (.istore_n 3, 1) := by decide +kernel
theorem dJ6_stringSize_0f7a4_16 : decode cJ6_stringSize_0f7a4 16 = .ok (.iload_n 3, 1) := by decide +kernel
theorem dJ6_stringSize_0f7a4_17 : decode cJ6_stringSize_0f7a4 17 = .ok (.bipush 10, 2) := by decide +kernel
theorem dJ6_stringSize_0f7a4_19 : decode cJ6_stringSize_0f7a4 19 = .ok (.if_icmp .ge 23, 3) := by decide +kernel
theorem dJ6_stringSize_0f7a4_22 : decode cJ6_stringSize_0f7a4 22 = .ok (.iload_n 0, 1) := by decide +kernel
theorem dJ6_stringSize_0f7a4_23 : decode cJ6_stringSize_0f7a4 23 = .ok (.iload_n 2, 1) := by decide +kernel
theorem dJ6_stringSize_0f7a4_24 : decode cJ6_stringSize_0f7a4 24 = .ok (.if_icmp .le 7, 3) := by decide +kernel
theorem dJ6_stringSize_0f7a4_27 : decode cJ6_stringSize_0f7a4 27 = .ok (.iload_n 3, 1) := by decide +kernel
theorem dJ6_stringSize_0f7a4_28 : decode cJ6_stringSize_0f7a4 28 = .ok (.iload_n 1, 1) := by decide +kernel
theorem dJ6_stringSize_0f7a4_29 : decode cJ6_stringSize_0f7a4 29 = .ok (.iadd, 1) := by decide +kernel
theorem dJ6_stringSize_0f7a4_30 : decode cJ6_stringSize_0f7a4 30 = .ok (.ireturn, 1) := by decide +kernel
theorem dJ6_stringSize_0f7a4_31 : decode cJ6_stringSize_0f7a4 31 = .ok (.bipush 10, 2) := by decide +kernel
theorem dJ6_stringSize_0f7a4_33 : decode cJ6_stringSize_0f7a4 33 = .ok (.iload_n 2, 1) := by decide +kernel
theorem dJ6_stringSize_0f7a4_34 : decode cJ6_stringSize_0f7a4 34 = .ok (.imul, 1) := by decide +kernel
theorem dJ6_stringSize_0f7a4_35 : decode cJ6_stringSize_0f7a4 35 = .ok (.istore_n 2, 1) := by decide +kernel
theorem dJ6_stringSize_0f7a4_36 : decode cJ6_stringSize_0f7a4 36 = .ok (.iinc 3 1, 3) := by decide +kernel
theorem dJ6_stringSize_0f7a4_39 : decode cJ6_stringSize_0f7a4 39 = .ok (.goto (-23), 3) := by decide +kernel
theorem dJ6_stringSize_0f7a4_42 : decode cJ6_stringSize_0f7a4 42 = .ok (.bipush 10, 2) := by decide +kernel
theorem dJ6_stringSize_0f7a4_44 : decode cJ6_stringSize_0f7a4 44 = .ok (.iload_n 1, 1) := by decide +kernel
theorem dJ6_stringSize_0f7a4_45 : decode cJ6_stringSize_0f7a4 45 = .ok (.iadd, 1) := by decide +kernel
theorem dJ6_stringSize_0f7a4_46 : decode cJ6_stringSize_0f7a4 46 = .ok (.ireturn, 1) := by decide +kernel
theorem dJ6_bitCount_0f7a4_0 : decode cJ6_bitCount_0f7a4 0 = .ok (.iload_n 0, 1) := by decide +kernel
theorem dJ6_bitCount_0f7a4_1 : decode cJ6_bitCount_0f7a4 1 = .ok (.iload_n 0, 1) := by decide +kernel
theorem dJ6_bitCount_0f7a4_2 : decode cJ6_bitCount_0f7a4 2 = .ok (.iconst 1, 1) := by decide +kernel
theorem dJ6_bitCount_0f7a4_3 : decode cJ6_bitCount_0f7a4 3 = .ok (.iushr, 1) := by decide +kernel
theorem dJ6_bitCount_0f7a4_4 : decode cJ6_bitCount_0f7a4 4 = .ok (.ldc_w 265, 3) := by decide +kernel
theorem dJ6_bitCount_0f7a4_7 : decode cJ6_bitCount_0f7a4 7 = .ok (.iand, 1) := by decide +kernel
theorem dJ6_bitCount_0f7a4_8 : decode cJ6_bitCount_0f7a4 8 = .ok (.isub, 1) := by decide +kernel
theorem dJ6_bitCount_0f7a4_9 : decode cJ6_bitCount_0f7a4 9 = .ok (.istore_n 0, 1) := by decide +kernel
theorem dJ6_bitCount_0f7a4_10 : decode cJ6_bitCount_0f7a4 10 = .ok (.iload_n 0, 1) := by decide +kernel
theorem dJ6_bitCount_0f7a4_11 : decode cJ6_bitCount_0f7a4 11 = .ok (.ldc_w 266, 3) := by decide +kernel
theorem dJ6_bitCount_0f7a4_14 : decode cJ6_bitCount_0f7a4 14 = .ok (.iand, 1) := by decide +kernel
theorem dJ6_bitCount_0f7a4_15 : decode cJ6_bitCount_0f7a4 15 = .ok (.iload_n 0, 1) := by decide +kernel
theorem dJ6_bitCount_0f7a4_16 : decode cJ6_bitCount_0f7a4 16 = .ok (.iconst 2, 1) := by decide +kernel
theorem dJ6_bitCount_0f7a4_17 : decode cJ6_bitCount_0f7a4 17 = .ok (.iushr, 1) := by decide +kernel
theorem dJ6_bitCount_0f7a4_18 : decode cJ6_bitCount_0f7a4 18 = .ok (.ldc_w 266, 3) := by decide +kernel
theorem dJ6_bitCount_0f7a4_21 : decode cJ6_bitCount_0f7a4 21 = .ok (.iand, 1) := by decide +kernel
theorem dJ6_bitCount_0f7a4_22 : decode cJ6_bitCount_0f7a4 22 = .ok (.iadd, 1) := by decide +kernel
theorem dJ6_bitCount_0f7a4_23 : decode cJ6_bitCount_0f7a4 23 = .ok (.istore_n 0, 1) := by decide +kernel
theorem dJ6_bitCount_0f7a4_24 : decode cJ6_bitCount_0f7a4 24 = .ok (.iload_n 0, 1) := by decide +kernel
theorem dJ6_bitCount_0f7a4_25 : decode cJ6_bitCount_0f7a4 25 = .ok (.iload_n 0, 1) := by decide +kernel
theorem dJ6_bitCount_0f7a4_26 : decode cJ6_bitCount_0f7a4 26 = .ok (.iconst 4, 1) := by decide +kernel
theorem dJ6_bitCount_0f7a4_27 : decode cJ6_bitCount_0f7a4 27 = .ok (.iushr, 1) := by decide +kernel
theorem dJ6_bitCount_0f7a4_28 : decode cJ6_bitCount_0f7a4 28 = .ok (.iadd, 1) := by decide +kernel
theorem dJ6_bitCount_0f7a4_29 : decode cJ6_bitCount_0f7a4 29 = .ok (.ldc_w 267, 3) := by decide +kernel
theorem dJ6_bitCount_0f7a4_32 : decode cJ6_bitCount_0f7a4 32 = .ok (.iand, 1) := by decide +kernel
theorem dJ6_bitCount_0f7a4_33 : decode cJ6_bitCount_0f7a4 33 = .ok (.istore_n 0, 1) := by decide +kernel
theorem dJ6_bitCount_0f7a4_34 : decode cJ6_bitCount_0f7a4 34 = .ok (.iload_n 0, 1) := by decide +kernel
theorem dJ6_bitCount_0f7a4_35 : decode cJ6_bitCount_0f7a4 35 = .ok (.iload_n 0, 1) := by decide +kernel
theorem dJ6_bitCount_0f7a4_36 : decode cJ6_bitCount_0f7a4 36 = .ok (.bipush 8, 2) := by decide +kernel
theorem dJ6_bitCount_0f7a4_38 : decode cJ6_bitCount_0f7a4 38 = .ok (.iushr, 1) := by decide +kernel
theorem dJ6_bitCount_0f7a4_39 : decode cJ6_bitCount_0f7a4 39 = .ok (.iadd, 1) := by decide +kernel
theorem dJ6_bitCount_0f7a4_40 : decode cJ6_bitCount_0f7a4 40 = .ok (.istore_n 0, 1) := by decide +kernel
theorem dJ6_bitCount_0f7a4_41 : decode cJ6_bitCount_0f7a4 41 = .ok (.iload_n 0, 1) := by decide +kernel
theorem dJ6_bitCount_0f7a4_42 : decode cJ6_bitCount_0f7a4 42 = .ok (.iload_n 0, 1) := by decide +kernel
theorem dJ6_bitCount_0f7a4_43 : decode cJ6_bitCount_0f7a4 43 = .ok (.bipush 16, 2) := by decide +kernel
theorem dJ6_bitCount_0f7a4_45 : decode cJ6_bitCount_0f7a4 45 = .ok (.iushr, 1) := by decide +kernel
theorem dJ6_bitCount_0f7a4_46 : decode cJ6_bitCount_0f7a4 46 = .ok (.iadd, 1) := by decide +kernel
theorem dJ6_bitCount_0f7a4_47 : decode cJ6_bitCount_0f7a4 47 = .ok (.istore_n 0, 1) := by decide +kernel
theorem dJ6_bitCount_0f7a4_48 : decode cJ6_bitCount_0f7a4 48 = .ok (.iload_n 0, 1) := by decide +kernel
theorem dJ6_bitCount_0f7a4_49 : decode cJ6_bitCount_0f7a4 49 = .ok (.bipush 63, 2) := by decide +kernel
theorem dJ6_bitCount_0f7a4_51 : decode cJ6_bitCount_0f7a4 51 = .ok (.iand, 1) := by decide +kernel
theorem dJ6_bitCount_0f7a4_52 : decode cJ6_bitCount_0f7a4 52 = .ok (.ireturn, 1) := by decide +kernel
theorem dJ9_max_7cf53_0 : decode cJ9_max_7cf53 0 = .ok (.iload_n 0, 1) := by decide +kernel
theorem dJ9_max_7cf53_1 : decode cJ9_max_7cf53 1 = .ok (.iload_n 1, 1) := by decide +kernel
theorem dJ9_max_7cf53_2 : decode cJ9_max_7cf53 2 = .ok (.if_icmp .lt 7, 3) := by decide +kernel
theorem dJ9_max_7cf53_5 : decode cJ9_max_7cf53 5 = .ok (.iload_n 0, 1) := by decide +kernel
theorem dJ9_max_7cf53_6 : decode cJ9_max_7cf53 6 = .ok (.goto 4, 3) := by decide +kernel
theorem dJ9_max_7cf53_9 : decode cJ9_max_7cf53 9 = .ok (.iload_n 1, 1) := by decide +kernel
theorem dJ9_max_7cf53_10 : decode cJ9_max_7cf53 10 = .ok (.ireturn, 1) := by decide +kernel
theorem dJ9_min_7cf53_0 : decode cJ9_min_7cf53 0 = .ok (.iload_n 0, 1) := by decide +kernel
theorem dJ9_min_7cf53_1 : decode cJ9_min_7cf53 1 = .ok (.iload_n 1, 1) := by decide +kernel
theorem dJ9_min_7cf53_2 : decode cJ9_min_7cf53 2 = .ok (.if_icmp .gt 7, 3) := by decide +kernel
theorem dJ9_min_7cf53_5 : decode cJ9_min_7cf53 5 = .ok (.iload_n 0, 1) := by decide +kernel
theorem dJ9_min_7cf53_6 : decode cJ9_min_7cf53 6 = .ok (.goto 4, 3) := by decide +kernel
theorem dJ9_min_7cf53_9 : decode cJ9_min_7cf53 9 = .ok (.iload_n 1, 1) := by decide +kernel
theorem dJ9_min_7cf53_10 : decode cJ9_min_7cf53 10 = .ok (.ireturn, 1) := by decide +kernel
theorem dJ0_checkIndex_df160_0 : decode cJ0_checkIndex_df160 0 = .ok (.iload_n 0, 1) := by decide +kernel
theorem dJ0_checkIndex_df160_1 : decode cJ0_checkIndex_df160 1 = .ok (.iload_n 1, 1) := by decide +kernel
theorem dJ0_checkIndex_df160_2 : decode cJ0_checkIndex_df160 2 = .ok (.getstatic 1053, 3) := by decide +kernel
theorem dJ0_checkIndex_df160_5 : decode cJ0_checkIndex_df160 5 = .ok (.invokestatic 1059, 3) := by decide +kernel
theorem dJ0_checkIndex_df160_8 : decode cJ0_checkIndex_df160 8 = .ok (.pop, 1) := by decide +kernel
theorem dJ0_checkIndex_df160_9 : decode cJ0_checkIndex_df160 9 = .ok (.return_, 1) := by decide +kernel
theorem dJ0_checkBoundsOffCount_cabcc_0 : decode cJ0_checkBoundsOffCount_cabcc 0 = .ok (.iload_n 0, 1) := by decide +kernel
theorem dJ0_checkBoundsOffCount_cabcc_1 : decode cJ0_checkBoundsOffCount_cabcc 1 = .ok (.iload_n 1, 1) := by decide +kernel
theorem dJ0_checkBoundsOffCount_cabcc_2 : decode cJ0_checkBoundsOffCount_cabcc 2 = .ok (.iload_n 2, 1) := by decide +kernel
theorem dJ0_checkBoundsOffCount_cabcc_3 : decode cJ0_checkBoundsOffCount_cabcc 3 = .ok (.getstatic 1053, 3) := by decide +kernel
theorem dJ0_checkBoundsOffCount_cabcc_6 : decode cJ0_checkBoundsOffCount_cabcc 6 = .ok (.invokestatic 1065, 3) := by decide +kernel
theorem dJ0_checkBoundsOffCount_cabcc_9 : decode cJ0_checkBoundsOffCount_cabcc 9 = .ok (.ireturn, 1) := by decide +kernel
theorem dJ0_checkBoundsBeginEnd_23922_0 : decode cJ0_checkBoundsBeginEnd_23922 0 = .ok (.iload_n 0, 1) := by decide +kernel
theorem dJ0_checkBoundsBeginEnd_23922_1 : decode cJ0_checkBoundsBeginEnd_23922 1 = .ok (.iload_n 1, 1) := by decide +kernel
theorem dJ0_checkBoundsBeginEnd_23922_2 : decode cJ0_checkBoundsBeginEnd_23922 2 = .ok (.iload_n 2, 1) := by decide +kernel
theorem dJ0_checkBoundsBeginEnd_23922_3 : decode cJ0_checkBoundsBeginEnd_23922 3 = .ok (.getstatic 1053, 3) := by decide +kernel
theorem dJ0_checkBoundsBeginEnd_23922_6 : decode cJ0_checkBoundsBeginEnd_23922 6 = .ok (.invokestatic 1062, 3) := by decide +kernel
theorem dJ0_checkBoundsBeginEnd_23922_9 : decode cJ0_checkBoundsBeginEnd_23922 9 = .ok (.pop, 1) := by decide +kernel
theorem dJ0_checkBoundsBeginEnd_23922_10 : decode cJ0_checkBoundsBeginEnd_23922 10 = .ok (.return_, 1) := by decide +kernel
theorem dJ4_init_da8c8_0 : decode cJ4_init_da8c8 0 = .ok (.aload_n 0, 1) := by decide +kernel
theorem dJ4_init_da8c8_1 : decode cJ4_init_da8c8 1 = .ok (.bipush 16, 2) := by decide +kernel
theorem dJ4_init_da8c8_3 : decode cJ4_init_da8c8 3 = .ok (.invokespecial 1, 3) := by decide +kernel
theorem dJ4_init_da8c8_6 : decode cJ4_init_da8c8 6 = .ok (.return_, 1) := by decide +kernel
theorem dJ4_append_cf468_0 : decode cJ4_append_cf468 0 = .ok (.aload_n 0, 1) := by decide +kernel
theorem dJ4_append_cf468_1 : decode cJ4_append_cf468 1 = .ok (.iload_n 1, 1) := by decide +kernel
theorem dJ4_append_cf468_2 : decode cJ4_append_cf468 2 = .ok (.invokespecial 50, 3) := by decide +kernel
theorem dJ4_append_cf468_5 : decode cJ4_append_cf468 5 = .ok (.pop, 1) := by decide +kernel
theorem dJ4_append_cf468_6 : decode cJ4_append_cf468 6 = .ok (.aload_n 0, 1) := by decide +kernel
theorem dJ4_append_cf468_7 : decode cJ4_append_cf468 7 = .ok (.areturn, 1) := by decide +kernel
theorem dJ4_append_bf812_0 : decode cJ4_append_bf812 0 = .ok (.aload_n 0, 1) := by decide +kernel
theorem dJ4_append_bf812_1 : decode cJ4_append_bf812 1 = .ok (.iload_n 1, 1) := by decide +kernel
theorem dJ4_append_bf812_2 : decode cJ4_append_bf812 2 = .ok (.invokespecial 53, 3) := by decide +kernel
theorem dJ4_append_bf812_5 : decode cJ4_append_bf812 5 = .ok (.pop, 1) := by decide +kernel
theorem dJ4_append_bf812_6 : decode cJ4_append_bf812 6 = .ok (.aload_n 0, 1) := by decide +kernel
theorem dJ4_append_bf812_7 : decode cJ4_append_bf812 7 = .ok (.areturn, 1) := by decide +kernel
theorem dJ4_charAt_5068e_0 : decode cJ4_charAt_5068e 0 = .ok (.aload_n 0, 1) := by decide +kernel
theorem dJ4_charAt_5068e_1 : decode cJ4_charAt_5068e 1 = .ok (.iload_n 1, 1) := by decide +kernel
theorem dJ4_charAt_5068e_2 : decode cJ4_charAt_5068e 2 = .ok (.invokespecial 329, 3) := by decide +kernel
theorem dJ4_charAt_5068e_5 : decode cJ4_charAt_5068e 5 = .ok (.ireturn, 1) := by decide +kernel
theorem dJ4_length_8abf5_0 : decode cJ4_length_8abf5 0 = .ok (.aload_n 0, 1) := by decide +kernel
theorem dJ4_length_8abf5_1 : decode cJ4_length_8abf5 1 = .ok (.invokespecial 343, 3) := by decide +kernel
theorem dJ4_length_8abf5_4 : decode cJ4_length_8abf5 4 = .ok (.ireturn, 1) := by decide +kernel
theorem dJ1_canEncode_fc78d_0 : decode cJ1_canEncode_fc78d 0 = .ok (.iload_n 0, 1) := by decide +kernel
theorem dJ1_canEncode_fc78d_1 : decode cJ1_canEncode_fc78d 1 = .ok (.sipush 255, 3) := by decide +kernel
theorem dJ1_canEncode_fc78d_4 : decode cJ1_canEncode_fc78d 4 = .ok (.if_icmp .gt 7, 3) := by decide +kernel
theorem dJ1_canEncode_fc78d_7 : decode cJ1_canEncode_fc78d 7 = .ok (.iconst 1, 1) := by decide +kernel
theorem dJ1_canEncode_fc78d_8 : decode cJ1_canEncode_fc78d 8 = .ok (.goto 4, 3) := by decide +kernel
theorem dJ1_canEncode_fc78d_11 : decode cJ1_canEncode_fc78d 11 = .ok (.iconst 0, 1) := by decide +kernel
theorem dJ1_canEncode_fc78d_12 : decode cJ1_canEncode_fc78d 12 = .ok (.ireturn, 1) := by decide +kernel
theorem dJ1_inflate_0e8fd_0 : decode cJ1_inflate_0e8fd 0 = .ok (.aload_n 0, 1) := by decide +kernel
theorem dJ1_inflate_0e8fd_1 : decode cJ1_inflate_0e8fd 1 = .ok (.iload_n 1, 1) := by decide +kernel
theorem dJ1_inflate_0e8fd_2 : decode cJ1_inflate_0e8fd 2 = .ok (.aload_n 2, 1) := by decide +kernel
theorem dJ1_inflate_0e8fd_3 : decode cJ1_inflate_0e8fd 3 = .ok (.iload_n 3, 1) := by decide +kernel
theorem dJ1_inflate_0e8fd_4 : decode cJ1_inflate_0e8fd 4 = .ok (.iload 4, 2) := by decide +kernel
theorem dJ1_inflate_0e8fd_6 : decode cJ1_inflate_0e8fd 6 = .ok (.invokestatic 240, 3) := by decide +kernel
theorem dJ1_inflate_0e8fd_9 : decode cJ1_inflate_0e8fd 9 = .ok (.return_, 1) := by decide +kernel
theorem dJ2_newBytesFor_77867_0 : decode cJ2_newBytesFor_77867 0 = .ok (.iload_n 0, 1) := by decide +kernel
theorem dJ2_newBytesFor_77867_1 : decode cJ2_newBytesFor_77867 1 = .ok (.invokestatic 11, 3) := by decide +kernel
theorem dJ2_newBytesFor_77867_4 : decode cJ2_newBytesFor_77867 4 = .ok (.newarray .byte, 2) := by decide +kernel
theorem dJ2_newBytesFor_77867_6 : decode cJ2_newBytesFor_77867 6 = .ok (.areturn, 1) := by decide +kernel
theorem dJ2_newBytesLength_0f7a4_0 : decode cJ2_newBytesLength_0f7a4 0 = .ok (.iload_n 0, 1) := by decide +kernel
theorem dJ2_newBytesLength_0f7a4_1 : decode cJ2_newBytesLength_0f7a4 1 = .ok (.ifCond .ge 11, 3) := by decide +kernel
theorem dJ2_newBytesLength_0f7a4_4 : decode cJ2_newBytesLength_0f7a4 4 = .ok (.new 17, 3) := by decide +kernel
theorem dJ2_newBytesLength_0f7a4_7 : decode cJ2_newBytesLength_0f7a4 7 = .ok (.dup, 1) := by decide +kernel
theorem dJ2_newBytesLength_0f7a4_8 : decode cJ2_newBytesLength_0f7a4 8 = .ok (.invokespecial 19, 3) := by decide +kernel
theorem dJ2_newBytesLength_0f7a4_11 : decode cJ2_newBytesLength_0f7a4 11 = .ok (.athrow, 1) := by decide +kernel
theorem dJ2_newBytesLength_0f7a4_12 : decode cJ2_newBytesLength_0f7a4 12 = .ok (.iload_n 0, 1) := by decide +kernel
theorem dJ2_newBytesLength_0f7a4_13 : decode cJ2_newBytesLength_0f7a4 13 = .ok (.ldc 20, 2) := by decide +kernel
theorem dJ2_newBytesLength_0f7a4_15 : decode cJ2_newBytesLength_0f7a4 15 = .ok (.if_icmp .lt 40, 3) := by decide +kernel
theorem dJ2_newBytesLength_0f7a4_18 : decode cJ2_newBytesLength_0f7a4 18 = .ok (.new 21, 3) := by decide +kernel
theorem dJ2_newBytesLength_0f7a4_21 : decode cJ2_newBytesLength_0f7a4 21 = .ok (.dup, 1) := by decide +kernel
theorem dJ2_newBytesLength_0f7a4_22 : decode cJ2_newBytesLength_0f7a4 22 = .ok (.new 23, 3) := by decide +kernel
theorem dJ2_newBytesLength_0f7a4_25 : decode cJ2_newBytesLength_0f7a4 25 = .ok (.dup, 1) := by decide +kernel
theorem dJ2_newBytesLength_0f7a4_26 : decode cJ2_newBytesLength_0f7a4 26 = .ok (.invokespecial 25, 3) := by decide +kernel
theorem dJ2_newBytesLength_0f7a4_29 : decode cJ2_newBytesLength_0f7a4 29 = .ok (.ldc 26, 2) := by decide +kernel
theorem dJ2_newBytesLength_0f7a4_31 : decode cJ2_newBytesLength_0f7a4 31 = .ok (.invokevirtual 28, 3) := by decide +kernel
theorem dJ2_newBytesLength_0f7a4_34 : decode cJ2_newBytesLength_0f7a4 34 = .ok (.iload_n 0, 1) := by decide +kernel
theorem dJ2_newBytesLength_0f7a4_35 : decode cJ2_newBytesLength_0f7a4 35 = .ok (.invokevirtual 32, 3) := by decide +kernel
theorem dJ2_newBytesLength_0f7a4_38 : decode cJ2_newBytesLength_0f7a4 38 = .ok (.ldc 35, 2) := by decide +kernel
theorem dJ2_newBytesLength_0f7a4_40 : decode cJ2_newBytesLength_0f7a4 40 = .ok (.invokevirtual 28, 3) := by decide +kernel
theorem dJ2_newBytesLength_0f7a4_43 : decode cJ2_newBytesLength_0f7a4 43 = .ok (.ldc 20, 2) := by decide +kernel
theorem dJ2_newBytesLength_0f7a4_45 : decode cJ2_newBytesLength_0f7a4 45 = .ok (.invokevirtual 32, 3) := by decide +kernel
theorem dJ2_newBytesLength_0f7a4_48 : decode cJ2_newBytesLength_0f7a4 48 = .ok (.invokevirtual 37, 3) := by decide +kernel
theorem dJ2_newBytesLength_0f7a4_51 : decode cJ2_newBytesLength_0f7a4 51 = .ok (.invokespecial 41, 3) := by decide +kernel
theorem dJ2_newBytesLength_0f7a4_54 : decode cJ2_newBytesLength_0f7a4 54 = .ok (.athrow, 1) := by decide +kernel
theorem dJ2_newBytesLength_0f7a4_55 : decode cJ2_newBytesLength_0f7a4 55 = .ok (.iload_n 0, 1) := by decide +kernel
theorem dJ2_newBytesLength_0f7a4_56 : decode cJ2_newBytesLength_0f7a4 56 = .ok (.iconst 1, 1) := by decide +kernel
theorem dJ2_newBytesLength_0f7a4_57 : decode cJ2_newBytesLength_0f7a4 57 = .ok (.ishl, 1) := by decide +kernel
theorem dJ2_newBytesLength_0f7a4_58 : decode cJ2_newBytesLength_0f7a4 58 = .ok (.ireturn, 1) := by decide +kernel
theorem dJ2_putChar_b72d1_0 : decode cJ2_putChar_b72d1 0 = .ok (.getstatic 44, 3) := by decide +kernel
theorem dJ2_putChar_b72d1_3 : decode cJ2_putChar_b72d1 3 = .ok (.ifCond .ne 25, 3) := by decide +kernel
theorem dJ2_putChar_b72d1_6 : decode cJ2_putChar_b72d1 6 = .ok (.iload_n 1, 1) := by decide +kernel
theorem dJ2_putChar_b72d1_7 : decode cJ2_putChar_b72d1 7 = .ok (.ifCond .lt 11, 3) := by decide +kernel
theorem dJ2_putChar_b72d1_10 : decode cJ2_putChar_b72d1 10 = .ok (.iload_n 1, 1) := by decide +kernel
theorem dJ2_putChar_b72d1_11 : decode cJ2_putChar_b72d1 11 = .ok (.aload_n 0, 1) := by decide +kernel
theorem dJ2_putChar_b72d1_12 : decode cJ2_putChar_b72d1 12 = .ok (.invokestatic 48, 3) := by decide +kernel
theorem dJ2_putChar_b72d1_15 : decode cJ2_putChar_b72d1 15 = .ok (.if_icmp .lt 13, 3) := by decide +kernel
theorem dJ2_putChar_b72d1_18 : decode cJ2_putChar_b72d1 18 = .ok (.new 52, 3) := by decide +kernel
theorem dJ2_putChar_b72d1_21 : decode cJ2_putChar_b72d1 21 = .ok (.dup, 1) := by decide +kernel
theorem dJ2_putChar_b72d1_22 : decode cJ2_putChar_b72d1 22 = .ok (.ldc 54, 2) := by decide +kernel
theorem dJ2_putChar_b72d1_24 : decode cJ2_putChar_b72d1 24 = .ok (.invokespecial 56, 3) := by decide +kernel
theorem dJ2_putChar_b72d1_27 : decode cJ2_putChar_b72d1 27 = .ok (.athrow, 1) := by decide +kernel
theorem dJ2_putChar_b72d1_28 : decode cJ2_putChar_b72d1 28 = .ok (.iload_n 1, 1) := by decide +kernel
theorem dJ2_putChar_b72d1_29 : decode cJ2_putChar_b72d1 29 = .ok (.iconst 1, 1) := by decide +kernel
theorem dJ2_putChar_b72d1_30 : decode cJ2_putChar_b72d1 30 = .ok (.ishl, 1) := by decide +kernel
theorem dJ2_putChar_b72d1_31 : decode cJ2_putChar_b72d1 31 = .ok (.istore_n 1, 1) := by decide +kernel
theorem dJ2_putChar_b72d1_32 : decode cJ2_putChar_b72d1 32 = .ok (.aload_n 0, 1) := by decide +kernel
theorem dJ2_putChar_b72d1_33 : decode cJ2_putChar_b72d1 33 = .ok (.iload_n 1, 1) := by decide +kernel
theorem dJ2_putChar_b72d1_34 : decode cJ2_putChar_b72d1 34 = .ok (.iinc 1 1, 3) := by decide +kernel
theorem dJ2_putChar_b72d1_37 : decode cJ2_putChar_b72d1 37 = .ok (.iload_n 2, 1) := by decide +kernel
theorem dJ2_putChar_b72d1_38 : decode cJ2_putChar_b72d1 38 = .ok (.getstatic 59, 3) := by decide +kernel
theorem dJ2_putChar_b72d1_41 : decode cJ2_putChar_b72d1 41 = .ok (.ishr, 1) := by decide +kernel
theorem dJ2_putChar_b72d1_42 : decode cJ2_putChar_b72d1 42 = .ok (.i2b, 1) := by decide +kernel
theorem dJ2_putChar_b72d1_43 : decode cJ2_putChar_b72d1 43 = .ok (.bastore, 1) := by decide +kernel
theorem dJ2_putChar_b72d1_44 : decode cJ2_putChar_b72d1 44 = .ok (.aload_n 0, 1) := by decide +kernel
theorem dJ2_putChar_b72d1_45 : decode cJ2_putChar_b72d1 45 = .ok (.iload_n 1, 1) := by decide +kernel
theorem dJ2_putChar_b72d1_46 : decode cJ2_putChar_b72d1 46 = .ok (.iload_n 2, 1) := by decide +kernel
theorem dJ2_putChar_b72d1_47 : decode cJ2_putChar_b72d1 47 = .ok (.getstatic 63, 3) := by decide +kernel
theorem dJ2_putChar_b72d1_50 : decode cJ2_putChar_b72d1 50 = .ok (.ishr, 1) := by decide +kernel
theorem dJ2_putChar_b72d1_51 : decode cJ2_putChar_b72d1 51 = .ok (.i2b, 1) := by decide +kernel
theorem dJ2_putChar_b72d1_52 : decode cJ2_putChar_b72d1 52 = .ok (.bastore, 1) := by decide +kernel
theorem dJ2_putChar_b72d1_53 : decode cJ2_putChar_b72d1 53 = .ok (.return_, 1) := by decide +kernel
theorem dJ2_getChar_3b067_0 : decode cJ2_getChar_3b067 0 = .ok (.getstatic 44, 3) := by decide +kernel
theorem dJ2_getChar_3b067_3 : decode cJ2_getChar_3b067 3 = .ok (.ifCond .ne 25, 3) := by decide +kernel
theorem dJ2_getChar_3b067_6 : decode cJ2_getChar_3b067 6 = .ok (.iload_n 1, 1) := by decide +kernel
theorem dJ2_getChar_3b067_7 : decode cJ2_getChar_3b067 7 = .ok (.ifCond .lt 11, 3) := by decide +kernel
theorem dJ2_getChar_3b067_10 : decode cJ2_getChar_3b067 10 = .ok (.iload_n 1, 1) := by decide +kernel
theorem dJ2_getChar_3b067_11 : decode cJ2_getChar_3b067 11 = .ok (.aload_n 0, 1) := by decide +kernel
theorem dJ2_getChar_3b067_12 : decode cJ2_getChar_3b067 12 = .ok (.invokestatic 48, 3) := by decide +kernel
theorem dJ2_getChar_3b067_15 : decode cJ2_getChar_3b067 15 = .ok (.if_icmp .lt 13, 3) := by decide +kernel
theorem dJ2_getChar_3b067_18 : decode cJ2_getChar_3b067 18 = .ok (.new 52, 3) := by decide +kernel
theorem dJ2_getChar_3b067_21 : decode cJ2_getChar_3b067 21 = .ok (.dup, 1) := by decide +kernel
theorem dJ2_getChar_3b067_22 : decode cJ2_getChar_3b067 22 = .ok (.ldc 54, 2) := by decide +kernel
theorem dJ2_getChar_3b067_24 : decode cJ2_getChar_3b067 24 = .ok (.invokespecial 56, 3) := by decide +kernel
theorem dJ2_getChar_3b067_27 : decode cJ2_getChar_3b067 27 = .ok (.athrow, 1) := by decide +kernel
theorem dJ2_getChar_3b067_28 : decode cJ2_getChar_3b067 28 = .ok (.iload_n 1, 1) := by decide +kernel
theorem dJ2_getChar_3b067_29 : decode cJ2_getChar_3b067 29 = .ok (.iconst 1, 1) := by decide +kernel
theorem dJ2_getChar_3b067_30 : decode cJ2_getChar_3b067 30 = .ok (.ishl, 1) := by decide +kernel
theorem dJ2_getChar_3b067_31 : decode cJ2_getChar_3b067 31 = .ok (.istore_n 1, 1) := by decide +kernel
theorem dJ2_getChar_3b067_32 : decode cJ2_getChar_3b067 32 = .ok (.aload_n 0, 1) := by decide +kernel
theorem dJ2_getChar_3b067_33 : decode cJ2_getChar_3b067 33 = .ok (.iload_n 1, 1) := by decide +kernel
theorem dJ2_getChar_3b067_34 : decode cJ2_getChar_3b067 34 = .ok (.iinc 1 1, 3) := by decide +kernel
theorem dJ2_getChar_3b067_37 : decode cJ2_getChar_3b067 37 = .ok (.baload, 1) := by decide +kernel
theorem dJ2_getChar_3b067_38 : decode cJ2_getChar_3b067 38 = .ok (.sipush 255, 3) := by decide +kernel
theorem dJ2_getChar_3b067_41 : decode cJ2_getChar_3b067 41 = .ok (.iand, 1) := by decide +kernel
theorem dJ2_getChar_3b067_42 : decode cJ2_getChar_3b067 42 = .ok (.getstatic 59, 3) := by decide +kernel
theorem dJ2_getChar_3b067_45 : decode cJ2_getChar_3b067 45 = .ok (.ishl, 1) := by decide +kernel
theorem dJ2_getChar_3b067_46 : decode cJ2_getChar_3b067 46 = .ok (.aload_n 0, 1) := by decide +kernel
theorem dJ2_getChar_3b067_47 : decode cJ2_getChar_3b067 47 = .ok (.iload_n 1, 1) := by decide +kernel
theorem dJ2_getChar_3b067_48 : decode cJ2_getChar_3b067 48 = .ok (.baload, 1) := by decide +kernel
theorem dJ2_getChar_3b067_49 : decode cJ2_getChar_3b067 49 = .ok (.sipush 255, 3) := by decide +kernel
theorem dJ2_getChar_3b067_52 : decode cJ2_getChar_3b067 52 = .ok (.iand, 1) := by decide +kernel
theorem dJ2_getChar_3b067_53 : decode cJ2_getChar_3b067 53 = .ok (.getstatic 63, 3) := by decide +kernel
theorem dJ2_getChar_3b067_56 : decode cJ2_getChar_3b067 56 = .ok (.ishl, 1) := by decide +kernel
theorem dJ2_getChar_3b067_57 : decode cJ2_getChar_3b067 57 = .ok (.ior, 1) := by decide +kernel
theorem dJ2_getChar_3b067_58 : decode cJ2_getChar_3b067 58 = .ok (.i2c, 1) := by decide +kernel
theorem dJ2_getChar_3b067_59 : decode cJ2_getChar_3b067 59 = .ok (.ireturn, 1) := by decide +kernel
theorem dJ2_length_9d52b_0 : decode cJ2_length_9d52b 0 = .ok (.aload_n 0, 1) := by decide +kernel
theorem dJ2_length_9d52b_1 : decode cJ2_length_9d52b 1 = .ok (.arraylength, 1) := by decide +kernel
theorem dJ2_length_9d52b_2 : decode cJ2_length_9d52b 2 = .ok (.iconst 1, 1) := by decide +kernel
theorem dJ2_length_9d52b_3 : decode cJ2_length_9d52b 3 = .ok (.ishr, 1) := by decide +kernel
theorem dJ2_length_9d52b_4 : decode cJ2_length_9d52b 4 = .ok (.ireturn, 1) := by decide +kernel
theorem dJ2_putCharSB_b72d1_0 : decode cJ2_putCharSB_b72d1 0 = .ok (.iload_n 1, 1) := by decide +kernel
theorem dJ2_putCharSB_b72d1_1 : decode cJ2_putCharSB_b72d1 1 = .ok (.aload_n 0, 1) := by decide +kernel
theorem dJ2_putCharSB_b72d1_2 : decode cJ2_putCharSB_b72d1 2 = .ok (.invokestatic 67, 3) := by decide +kernel
theorem dJ2_putCharSB_b72d1_5 : decode cJ2_putCharSB_b72d1 5 = .ok (.aload_n 0, 1) := by decide +kernel
theorem dJ2_putCharSB_b72d1_6 : decode cJ2_putCharSB_b72d1 6 = .ok (.iload_n 1, 1) := by decide +kernel
theorem dJ2_putCharSB_b72d1_7 : decode cJ2_putCharSB_b72d1 7 = .ok (.iload_n 2, 1) := by decide +kernel
theorem dJ2_putCharSB_b72d1_8 : decode cJ2_putCharSB_b72d1 8 = .ok (.invokestatic 111, 3) := by decide +kernel
theorem dJ2_putCharSB_b72d1_11 : decode cJ2_putCharSB_b72d1 11 = .ok (.return_, 1) := by decide +kernel
theorem dJ2_getChars_46870_0 : decode cJ2_getChars_46870 0 = .ok (.iload_n 1, 1) := by decide +kernel
theorem dJ2_getChars_46870_1 : decode cJ2_getChars_46870 1 = .ok (.iload_n 2, 1) := by decide +kernel
theorem dJ2_getChars_46870_2 : decode cJ2_getChars_46870 2 = .ok (.aload_n 3, 1) := by decide +kernel
theorem dJ2_getChars_46870_3 : decode cJ2_getChars_46870 3 = .ok (.invokestatic 96, 3) := by decide +kernel
theorem dJ2_getChars_46870_6 : decode cJ2_getChars_46870 6 = .ok (.iload_n 0, 1) := by decide +kernel
theorem dJ2_getChars_46870_7 : decode cJ2_getChars_46870 7 = .ok (.iload_n 2, 1) := by decide +kernel
theorem dJ2_getChars_46870_8 : decode cJ2_getChars_46870 8 = .ok (.aload_n 3, 1) := by decide +kernel
theorem dJ2_getChars_46870_9 : decode cJ2_getChars_46870 9 = .ok (.invokestatic 393, 3) := by decide +kernel
theorem dJ2_getChars_46870_12 : decode cJ2_getChars_46870 12 = .ok (.istore 4, 2) := by decide +kernel
theorem dJ2_getChars_46870_14 : decode cJ2_getChars_46870 14 = .ok (.getstatic 44, 3) := by decide +kernel
theorem dJ2_getChars_46870_17 : decode cJ2_getChars_46870 17 = .ok (.ifCond .ne 17, 3) := by decide +kernel
theorem dJ2_getChars_46870_20 : decode cJ2_getChars_46870 20 = .ok (.iload_n 1, 1) := by decide +kernel
theorem dJ2_getChars_46870_21 : decode cJ2_getChars_46870 21 = .ok (.iload 4, 2) := by decide +kernel
theorem dJ2_getChars_46870_23 : decode cJ2_getChars_46870 23 = .ok (.if_icmp .eq 11, 3) := by decide +kernel
theorem dJ2_getChars_46870_26 : decode cJ2_getChars_46870 26 = .ok (.new 52, 3) := by decide +kernel
theorem dJ2_getChars_46870_29 : decode cJ2_getChars_46870 29 = .ok (.dup, 1) := by decide +kernel
theorem dJ2_getChars_46870_30 : decode cJ2_getChars_46870 30 = .ok (.invokespecial 66, 3) := by decide +kernel
theorem dJ2_getChars_46870_33 : decode cJ2_getChars_46870 33 = .ok (.athrow, 1) := by decide +kernel
theorem dJ2_getChars_46870_34 : decode cJ2_getChars_46870 34 = .ok (.iload 4, 2) := by decide +kernel
theorem dJ2_getChars_46870_36 : decode cJ2_getChars_46870 36 = .ok (.ireturn, 1) := by decide +kernel
theorem dJ2_inflate_0e8fd_0 : decode cJ2_inflate_0e8fd 0 = .ok (.iload_n 3, 1) := by decide +kernel
theorem dJ2_inflate_0e8fd_1 : decode cJ2_inflate_0e8fd 1 = .ok (.iload 4, 2) := by decide +kernel
theorem dJ2_inflate_0e8fd_3 : decode cJ2_inflate_0e8fd 3 = .ok (.aload_n 2, 1) := by decide +kernel
theorem dJ2_inflate_0e8fd_4 : decode cJ2_inflate_0e8fd 4 = .ok (.invokestatic 173, 3) := by decide +kernel
theorem dJ2_inflate_0e8fd_7 : decode cJ2_inflate_0e8fd 7 = .ok (.iconst 0, 1) := by decide +kernel
theorem dJ2_inflate_0e8fd_8 : decode cJ2_inflate_0e8fd 8 = .ok (.istore 5, 2) := by decide +kernel
theorem dJ2_inflate_0e8fd_10 : decode cJ2_inflate_0e8fd 10 = .ok (.iload 5, 2) := by decide +kernel
theorem dJ2_inflate_0e8fd_12 : decode cJ2_inflate_0e8fd 12 = .ok (.iload 4, 2) := by decide +kernel
theorem dJ2_inflate_0e8fd_14 : decode cJ2_inflate_0e8fd 14 = .ok (.if_icmp .ge 27, 3) := by decide +kernel
theorem dJ2_inflate_0e8fd_17 : decode cJ2_inflate_0e8fd 17 = .ok (.aload_n 2, 1) := by decide +kernel
theorem dJ2_inflate_0e8fd_18 : decode cJ2_inflate_0e8fd 18 = .ok (.iload_n 3, 1) := by decide +kernel
theorem dJ2_inflate_0e8fd_19 : decode cJ2_inflate_0e8fd 19 = .ok (.iinc 3 1, 3) := by decide +kernel
theorem dJ2_inflate_0e8fd_22 : decode cJ2_inflate_0e8fd 22 = .ok (.aload_n 0, 1) := by decide +kernel
theorem dJ2_inflate_0e8fd_23 : decode cJ2_inflate_0e8fd 23 = .ok (.iload_n 1, 1) := by decide +kernel
theorem dJ2_inflate_0e8fd_24 : decode cJ2_inflate_0e8fd 24 = .ok (.iinc 1 1, 3) := by decide +kernel
theorem dJ2_inflate_0e8fd_27 : decode cJ2_inflate_0e8fd 27 = .ok (.baload, 1) := by decide +kernel
theorem dJ2_inflate_0e8fd_28 : decode cJ2_inflate_0e8fd 28 = .ok (.sipush 255, 3) := by decide +kernel
theorem dJ2_inflate_0e8fd_31 : decode cJ2_inflate_0e8fd 31 = .ok (.iand, 1) := by decide +kernel
theorem dJ2_inflate_0e8fd_32 : decode cJ2_inflate_0e8fd 32 = .ok (.invokestatic 111, 3) := by decide +kernel
theorem dJ2_inflate_0e8fd_35 : decode cJ2_inflate_0e8fd 35 = .ok (.iinc 5 1, 3) := by decide +kernel
theorem dJ2_inflate_0e8fd_38 : decode cJ2_inflate_0e8fd 38 = .ok (.goto (-28), 3) := by decide +kernel
theorem dJ2_inflate_0e8fd_41 : decode cJ2_inflate_0e8fd 41 = .ok (.return_, 1) := by decide +kernel
theorem dJ2_getChars_ba4f3_0 : decode cJ2_getChars_ba4f3 0 = .ok (.iload_n 1, 1) := by decide +kernel
theorem dJ2_getChars_ba4f3_1 : decode cJ2_getChars_ba4f3 1 = .ok (.istore 5, 2) := by decide +kernel
theorem dJ2_getChars_ba4f3_3 : decode cJ2_getChars_ba4f3 3 = .ok (.iload_n 0, 1) := by decide +kernel
theorem dJ2_getChars_ba4f3_4 : decode cJ2_getChars_ba4f3 4 = .ok (.ifCond .ge 7, 3) := by decide +kernel
theorem dJ2_getChars_ba4f3_7 : decode cJ2_getChars_ba4f3 7 = .ok (.iconst 1, 1) := by decide +kernel
theorem dJ2_getChars_ba4f3_8 : decode cJ2_getChars_ba4f3 8 = .ok (.goto 4, 3) := by decide +kernel
theorem dJ2_getChars_ba4f3_11 : decode cJ2_getChars_ba4f3 11 = .ok (.iconst 0, 1) := by decide +kernel
theorem dJ2_getChars_ba4f3_12 : decode cJ2_getChars_ba4f3 12 = .ok (.istore 6, 2) := by decide +kernel
theorem dJ2_getChars_ba4f3_14 : decode cJ2_getChars_ba4f3 14 = .ok (.iload 6, 2) := by decide +kernel
theorem dJ2_getChars_ba4f3_16 : decode cJ2_getChars_ba4f3 16 = .ok (.ifCond .ne 6, 3) := by decide +kernel
theorem dJ2_getChars_ba4f3_19 : decode cJ2_getChars_ba4f3 19 = .ok (.iload_n 0, 1) := by decide +kernel
theorem dJ2_getChars_ba4f3_20 : decode cJ2_getChars_ba4f3 20 = .ok (.ineg, 1) := by decide +kernel
theorem dJ2_getChars_ba4f3_21 : decode cJ2_getChars_ba4f3 21 = .ok (.istore_n 0, 1) := by decide +kernel
theorem dJ2_getChars_ba4f3_22 : decode cJ2_getChars_ba4f3 22 = .ok (.iload_n 0, 1) := by decide +kernel
theorem dJ2_getChars_ba4f3_23 : decode cJ2_getChars_ba4f3 23 = .ok (.bipush (-100), 2) := by decide +kernel
theorem dJ2_getChars_ba4f3_25 : decode cJ2_getChars_ba4f3 25 = .ok (.if_icmp .gt 51, 3) := by decide +kernel
theorem dJ2_getChars_ba4f3_28 : decode cJ2_getChars_ba4f3 28 = .ok (.iload_n 0, 1) := by decide +kernel
theorem dJ2_getChars_ba4f3_29 : decode cJ2_getChars_ba4f3 29 = .ok (.bipush 100, 2) := by decide +kernel
theorem dJ2_getChars_ba4f3_31 : decode cJ2_getChars_ba4f3 31 = .ok (.idiv, 1) := by decide +kernel
theorem dJ2_getChars_ba4f3_32 : decode cJ2_getChars_ba4f3 32 = .ok (.istore_n 3, 1) := by decide +kernel
theorem dJ2_getChars_ba4f3_33 : decode cJ2_getChars_ba4f3 33 = .ok (.iload_n 3, 1) := by decide +kernel
theorem dJ2_getChars_ba4f3_34 : decode cJ2_getChars_ba4f3 34 = .ok (.bipush 100, 2) := by decide +kernel
theorem dJ2_getChars_ba4f3_36 : decode cJ2_getChars_ba4f3 36 = .ok (.imul, 1) := by decide +kernel
theorem dJ2_getChars_ba4f3_37 : decode cJ2_getChars_ba4f3 37 = .ok (.iload_n 0, 1) := by decide +kernel
theorem dJ2_getChars_ba4f3_38 : decode cJ2_getChars_ba4f3 38 = .ok (.isub, 1) := by decide +kernel
theorem dJ2_getChars_ba4f3_39 : decode cJ2_getChars_ba4f3 39 = .ok (.istore 4, 2) := by decide +kernel
theorem dJ2_getChars_ba4f3_41 : decode cJ2_getChars_ba4f3 41 = .ok (.iload_n 3, 1) := by decide +kernel
theorem dJ2_getChars_ba4f3_42 : decode cJ2_getChars_ba4f3 42 = .ok (.istore_n 0, 1) := by decide +kernel
theorem dJ2_getChars_ba4f3_43 : decode cJ2_getChars_ba4f3 43 = .ok (.aload_n 2, 1) := by decide +kernel
theorem dJ2_getChars_ba4f3_44 : decode cJ2_getChars_ba4f3 44 = .ok (.iinc 5 (-1), 3) := by decide +kernel
theorem dJ2_getChars_ba4f3_47 : decode cJ2_getChars_ba4f3 47 = .ok (.iload 5, 2) := by decide +kernel
theorem dJ2_getChars_ba4f3_49 : decode cJ2_getChars_ba4f3 49 = .ok (.getstatic 403, 3) := by decide +kernel
theorem dJ2_getChars_ba4f3_52 : decode cJ2_getChars_ba4f3 52 = .ok (.iload 4, 2) := by decide +kernel
theorem dJ2_getChars_ba4f3_54 : decode cJ2_getChars_ba4f3 54 = .ok (.baload, 1) := by decide +kernel
theorem dJ2_getChars_ba4f3_55 : decode cJ2_getChars_ba4f3 55 = .ok (.invokestatic 111, 3) := by decide +kernel
theorem dJ2_getChars_ba4f3_58 : decode cJ2_getChars_ba4f3 58 = .ok (.aload_n 2, 1) := by decide +kernel
theorem dJ2_getChars_ba4f3_59 : decode cJ2_getChars_ba4f3 59 = .ok (.iinc 5 (-1), 3) := by decide +kernel
theorem dJ2_getChars_ba4f3_62 : decode cJ2_getChars_ba4f3 62 = .ok (.iload 5, 2) := by decide +kernel
theorem dJ2_getChars_ba4f3_64 : decode cJ2_getChars_ba4f3 64 = .ok (.getstatic 407, 3) := by decide +kernel
theorem dJ2_getChars_ba4f3_67 : decode cJ2_getChars_ba4f3 67 = .ok (.iload 4, 2) := by decide +kernel
theorem dJ2_getChars_ba4f3_69 : decode cJ2_getChars_ba4f3 69 = .ok (.baload, 1) := by decide +kernel
theorem dJ2_getChars_ba4f3_70 : decode cJ2_getChars_ba4f3 70 = .ok (.invokestatic 111, 3) := by decide +kernel
theorem dJ2_getChars_ba4f3_73 : decode cJ2_getChars_ba4f3 73 = .ok (.goto (-51), 3) := by decide +kernel
theorem dJ2_getChars_ba4f3_76 : decode cJ2_getChars_ba4f3 76 = .ok (.aload_n 2, 1) := by decide +kernel
theorem dJ2_getChars_ba4f3_77 : decode cJ2_getChars_ba4f3 77 = .ok (.iinc 5 (-1), 3) := by decide +kernel
theorem dJ2_getChars_ba4f3_80 : decode cJ2_getChars_ba4f3 80 = .ok (.iload 5, 2) := by decide +kernel
theorem dJ2_getChars_ba4f3_82 : decode cJ2_getChars_ba4f3 82 = .ok (.getstatic 403, 3) := by decide +kernel
theorem dJ2_getChars_ba4f3_85 : decode cJ2_getChars_ba4f3 85 = .ok (.iload_n 0, 1) := by decide +kernel
theorem dJ2_getChars_ba4f3_86 : decode cJ2_getChars_ba4f3 86 = .ok (.ineg, 1) := by decide +kernel
theorem dJ2_getChars_ba4f3_87 : decode cJ2_getChars_ba4f3 87 = .ok (.baload, 1) := by decide +kernel
theorem dJ2_getChars_ba4f3_88 : decode cJ2_getChars_ba4f3 88 = .ok (.invokestatic 111, 3) := by decide +kernel
theorem dJ2_getChars_ba4f3_91 : decode cJ2_getChars_ba4f3 91 = .ok (.iload_n 0, 1) := by decide +kernel
theorem dJ2_getChars_ba4f3_92 : decode cJ2_getChars_ba4f3 92 = .ok (.bipush (-9), 2) := by decide +kernel
theorem dJ2_getChars_ba4f3_94 : decode cJ2_getChars_ba4f3 94 = .ok (.if_icmp .ge 18, 3) := by decide +kernel
theorem dJ2_getChars_ba4f3_97 : decode cJ2_getChars_ba4f3 97 = .ok (.aload_n 2, 1) := by decide +kernel
theorem dJ2_getChars_ba4f3_98 : decode cJ2_getChars_ba4f3 98 = .ok (.iinc 5 (-1), 3) := by decide +kernel
theorem dJ2_getChars_ba4f3_101 : decode cJ2_getChars_ba4f3 101 = .ok (.iload 5, 2) := by decide +kernel
theorem dJ2_getChars_ba4f3_103 : decode cJ2_getChars_ba4f3 103 = .ok (.getstatic 407, 3) := by decide +kernel
theorem dJ2_getChars_ba4f3_106 : decode cJ2_getChars_ba4f3 106 = .ok (.iload_n 0, 1) := by decide +kernel
theorem dJ2_getChars_ba4f3_107 : decode cJ2_getChars_ba4f3 107 = .ok (.ineg, 1) := by decide +kernel
theorem dJ2_getChars_ba4f3_108 : decode cJ2_getChars_ba4f3 108 = .ok (.baload, 1) := by decide +kernel
theorem dJ2_getChars_ba4f3_109 : decode cJ2_getChars_ba4f3 109 = .ok (.invokestatic 111, 3) := by decide +kernel
theorem dJ2_getChars_ba4f3_112 : decode cJ2_getChars_ba4f3 112 = .ok (.iload 6, 2) := by decide +kernel
theorem dJ2_getChars_ba4f3_114 : decode cJ2_getChars_ba4f3 114 = .ok (.ifCond .eq 14, 3) := by decide +kernel
theorem dJ2_getChars_ba4f3_117 : decode cJ2_getChars_ba4f3 117 = .ok (.aload_n 2, 1) := by decide +kernel
theorem dJ2_getChars_ba4f3_118 : decode cJ2_getChars_ba4f3 118 = .ok (.iinc 5 (-1), 3) := by decide +kernel
theorem dJ2_getChars_ba4f3_121 : decode cJ2_getChars_ba4f3 121 = .ok (.iload 5, 2) := by decide +kernel
theorem dJ2_getChars_ba4f3_123 : decode cJ2_getChars_ba4f3 123 = .ok (.bipush 45, 2) := by decide +kernel
theorem dJ2_getChars_ba4f3_125 : decode cJ2_getChars_ba4f3 125 = .ok (.invokestatic 111, 3) := by decide +kernel
theorem dJ2_getChars_ba4f3_128 : decode cJ2_getChars_ba4f3 128 = .ok (.iload 5, 2) := by decide +kernel
theorem dJ2_getChars_ba4f3_130 : decode cJ2_getChars_ba4f3 130 = .ok (.ireturn, 1) := by decide +kernel
theorem dJ2_checkIndex_2214a_0 : decode cJ2_checkIndex_2214a 0 = .ok (.iload_n 0, 1) := by decide +kernel
theorem dJ2_checkIndex_2214a_1 : decode cJ2_checkIndex_2214a 1 = .ok (.aload_n 1, 1) := by decide +kernel
theorem dJ2_checkIndex_2214a_2 : decode cJ2_checkIndex_2214a 2 = .ok (.invokestatic 48, 3) := by decide +kernel
theorem dJ2_checkIndex_2214a_5 : decode cJ2_checkIndex_2214a 5 = .ok (.invokestatic 414, 3) := by decide +kernel
theorem dJ2_checkIndex_2214a_8 : decode cJ2_checkIndex_2214a 8 = .ok (.return_, 1) := by decide +kernel
theorem dJ2_checkBoundsBeginEnd_d044e_0 : decode cJ2_checkBoundsBeginEnd_d044e 0 = .ok (.iload_n 0, 1) := by decide +kernel
theorem dJ2_checkBoundsBeginEnd_d044e_1 : decode cJ2_checkBoundsBeginEnd_d044e 1 = .ok (.iload_n 1, 1) := by decide +kernel
theorem dJ2_checkBoundsBeginEnd_d044e_2 : decode cJ2_checkBoundsBeginEnd_d044e 2 = .ok (.aload_n 2, 1) := by decide +kernel
theorem dJ2_checkBoundsBeginEnd_d044e_3 : decode cJ2_checkBoundsBeginEnd_d044e 3 = .ok (.invokestatic 48, 3) := by decide +kernel
theorem dJ2_checkBoundsBeginEnd_d044e_6 : decode cJ2_checkBoundsBeginEnd_d044e 6 = .ok (.invokestatic 241, 3) := by decide +kernel
theorem dJ2_checkBoundsBeginEnd_d044e_9 : decode cJ2_checkBoundsBeginEnd_d044e 9 = .ok (.return_, 1) := by decide +kernel
theorem dJ2_checkBoundsOffCount_d044e_0 : decode cJ2_checkBoundsOffCount_d044e 0 = .ok (.iload_n 0, 1) := by decide +kernel
theorem dJ2_checkBoundsOffCount_d044e_1 : decode cJ2_checkBoundsOffCount_d044e 1 = .ok (.iload_n 1, 1) := by decide +kernel
theorem dJ2_checkBoundsOffCount_d044e_2 : decode cJ2_checkBoundsOffCount_d044e 2 = .ok (.aload_n 2, 1) := by decide +kernel
theorem dJ2_checkBoundsOffCount_d044e_3 : decode cJ2_checkBoundsOffCount_d044e 3 = .ok (.invokestatic 48, 3) := by decide +kernel
theorem dJ2_checkBoundsOffCount_d044e_6 : decode cJ2_checkBoundsOffCount_d044e 6 = .ok (.invokestatic 419, 3) := by decide +kernel
theorem dJ2_checkBoundsOffCount_d044e_9 : decode cJ2_checkBoundsOffCount_d044e 9 = .ok (.pop, 1) := by decide +kernel
theorem dJ2_checkBoundsOffCount_d044e_10 : decode cJ2_checkBoundsOffCount_d044e 10 = .ok (.return_, 1) := by decide +kernel
theorem dJ7_fill_53178_0 : decode cJ7_fill_53178 0 = .ok (.iconst 0, 1) := by decide +kernel
theorem dJ7_fill_53178_1 : decode cJ7_fill_53178 1 = .ok (.istore_n 2, 1) := by decide +kernel
theorem dJ7_fill_53178_2 : decode cJ7_fill_53178 2 = .ok (.aload_n 0, 1) := by decide +kernel
theorem dJ7_fill_53178_3 : decode cJ7_fill_53178 3 = .ok (.arraylength, 1) := by decide +kernel
theorem dJ7_fill_53178_4 : decode cJ7_fill_53178 4 = .ok (.istore_n 3, 1) := by decide +kernel
theorem dJ7_fill_53178_5 : decode cJ7_fill_53178 5 = .ok (.iload_n 2, 1) := by decide +kernel
theorem dJ7_fill_53178_6 : decode cJ7_fill_53178 6 = .ok (.iload_n 3, 1) := by decide +kernel
theorem dJ7_fill_53178_7 : decode cJ7_fill_53178 7 = .ok (.if_icmp .ge 13, 3) := by decide +kernel
theorem dJ7_fill_53178_10 : decode cJ7_fill_53178 10 = .ok (.aload_n 0, 1) := by decide +kernel
theorem dJ7_fill_53178_11 : decode cJ7_fill_53178 11 = .ok (.iload_n 2, 1) := by decide +kernel
theorem dJ7_fill_53178_12 : decode cJ7_fill_53178 12 = .ok (.iload_n 1, 1) := by decide +kernel
theorem dJ7_fill_53178_13 : decode cJ7_fill_53178 13 = .ok (.iastore, 1) := by decide +kernel
theorem dJ7_fill_53178_14 : decode cJ7_fill_53178 14 = .ok (.iinc 2 1, 3) := by decide +kernel
theorem dJ7_fill_53178_17 : decode cJ7_fill_53178 17 = .ok (.goto (-12), 3) := by decide +kernel
theorem dJ7_fill_53178_20 : decode cJ7_fill_53178 20 = .ok (.return_, 1) := by decide +kernel
theorem dJ7_copyOf_9075b_0 : decode cJ7_copyOf_9075b 0 = .ok (.iload_n 1, 1) := by decide +kernel
theorem dJ7_copyOf_9075b_1 : decode cJ7_copyOf_9075b 1 = .ok (.aload_n 0, 1) := by decide +kernel
theorem dJ7_copyOf_9075b_2 : decode cJ7_copyOf_9075b 2 = .ok (.arraylength, 1) := by decide +kernel
theorem dJ7_copyOf_9075b_3 : decode cJ7_copyOf_9075b 3 = .ok (.if_icmp .ne 11, 3) := by decide +kernel
theorem dJ7_copyOf_9075b_6 : decode cJ7_copyOf_9075b 6 = .ok (.aload_n 0, 1) := by decide +kernel
theorem dJ7_copyOf_9075b_7 : decode cJ7_copyOf_9075b 7 = .ok (.invokevirtual 310, 3) := by decide +kernel
theorem dJ7_copyOf_9075b_10 : decode cJ7_copyOf_9075b 10 = .ok (.checkcast 311, 3) := by decide +kernel
theorem dJ7_copyOf_9075b_13 : decode cJ7_copyOf_9075b 13 = .ok (.areturn, 1) := by decide +kernel
theorem dJ7_copyOf_9075b_14 : decode cJ7_copyOf_9075b 14 = .ok (.iload_n 1, 1) := by decide +kernel
theorem dJ7_copyOf_9075b_15 : decode cJ7_copyOf_9075b 15 = .ok (.newarray .byte, 2) := by decide +kernel
theorem dJ7_copyOf_9075b_17 : decode cJ7_copyOf_9075b 17 = .ok (.astore_n 2, 1) := by decide +kernel
theorem dJ7_copyOf_9075b_18 : decode cJ7_copyOf_9075b 18 = .ok (.aload_n 0, 1) := by decide +kernel
theorem dJ7_copyOf_9075b_19 : decode cJ7_copyOf_9075b 19 = .ok (.iconst 0, 1) := by decide +kernel
theorem dJ7_copyOf_9075b_20 : decode cJ7_copyOf_9075b 20 = .ok (.aload_n 2, 1) := by decide +kernel
theorem dJ7_copyOf_9075b_21 : decode cJ7_copyOf_9075b 21 = .ok (.iconst 0, 1) := by decide +kernel
theorem dJ7_copyOf_9075b_22 : decode cJ7_copyOf_9075b 22 = .ok (.aload_n 0, 1) := by decide +kernel
theorem dJ7_copyOf_9075b_23 : decode cJ7_copyOf_9075b 23 = .ok (.arraylength, 1) := by decide +kernel
theorem dJ7_copyOf_9075b_24 : decode cJ7_copyOf_9075b 24 = .ok (.iload_n 1, 1) := by decide +kernel
theorem dJ7_copyOf_9075b_25 : decode cJ7_copyOf_9075b 25 = .ok (.invokestatic 304, 3) := by decide +kernel
theorem dJ7_copyOf_9075b_28 : decode cJ7_copyOf_9075b 28 = .ok (.invokestatic 150, 3) := by decide +kernel
theorem dJ7_copyOf_9075b_31 : decode cJ7_copyOf_9075b 31 = .ok (.aload_n 2, 1) := by decide +kernel
theorem dJ7_copyOf_9075b_32 : decode cJ7_copyOf_9075b 32 = .ok (.areturn, 1) := by decide +kernel
theorem dJ8_newLength_cabcc_0 : decode cJ8_newLength_cabcc 0 = .ok (.iload_n 0, 1) := by decide +kernel
theorem dJ8_newLength_cabcc_1 : decode cJ8_newLength_cabcc 1 = .ok (.iload_n 1, 1) := by decide +kernel
theorem dJ8_newLength_cabcc_2 : decode cJ8_newLength_cabcc 2 = .ok (.iload_n 2, 1) := by decide +kernel
theorem dJ8_newLength_cabcc_3 : decode cJ8_newLength_cabcc 3 = .ok (.invokestatic 194, 3) := by decide +kernel
theorem dJ8_newLength_cabcc_6 : decode cJ8_newLength_cabcc 6 = .ok (.iadd, 1) := by decide +kernel
theorem dJ8_newLength_cabcc_7 : decode cJ8_newLength_cabcc 7 = .ok (.istore_n 3, 1) := by decide +kernel
theorem dJ8_newLength_cabcc_8 : decode cJ8_newLength_cabcc 8 = .ok (.iconst 0, 1) := by decide +kernel
theorem dJ8_newLength_cabcc_9 : decode cJ8_newLength_cabcc 9 = .ok (.iload_n 3, 1) := by decide +kernel
theorem dJ8_newLength_cabcc_10 : decode cJ8_newLength_cabcc 10 = .ok (.if_icmp .ge 11, 3) := by decide +kernel
theorem dJ8_newLength_cabcc_13 : decode cJ8_newLength_cabcc 13 = .ok (.iload_n 3, 1) := by decide +kernel
theorem dJ8_newLength_cabcc_14 : decode cJ8_newLength_cabcc 14 = .ok (.ldc 200, 2) := by decide +kernel
theorem dJ8_newLength_cabcc_16 : decode cJ8_newLength_cabcc 16 = .ok (.if_icmp .gt 5, 3) := by decide +kernel
theorem dJ8_newLength_cabcc_19 : decode cJ8_newLength_cabcc 19 = .ok (.iload_n 3, 1) := by decide +kernel
theorem dJ8_newLength_cabcc_20 : decode cJ8_newLength_cabcc 20 = .ok (.ireturn, 1) := by decide +kernel
theorem dJ8_newLength_cabcc_21 : decode cJ8_newLength_cabcc 21 = .ok (.iload_n 0, 1) := by decide +kernel
theorem dJ8_newLength_cabcc_22 : decode cJ8_newLength_cabcc 22 = .ok (.iload_n 1, 1) := by decide +kernel
theorem dJ8_newLength_cabcc_23 : decode cJ8_newLength_cabcc 23 = .ok (.invokestatic 201, 3) := by decide +kernel
theorem dJ8_newLength_cabcc_26 : decode cJ8_newLength_cabcc 26 = .ok (.ireturn, 1) := by decide +kernel
theorem dJ8_hugeLength_7cf53_0 : decode cJ8_hugeLength_7cf53 0 = .ok (.iload_n 0, 1) := by decide +kernel
theorem dJ8_hugeLength_7cf53_1 : decode cJ8_hugeLength_7cf53 1 = .ok (.iload_n 1, 1) := by decide +kernel
theorem dJ8_hugeLength_7cf53_2 : decode cJ8_hugeLength_7cf53 2 = .ok (.iadd, 1) := by decide +kernel
theorem dJ8_hugeLength_7cf53_3 : decode cJ8_hugeLength_7cf53 3 = .ok (.istore_n 2, 1) := by decide +kernel
theorem dJ8_hugeLength_7cf53_4 : decode cJ8_hugeLength_7cf53 4 = .ok (.iload_n 2, 1) := by decide +kernel
theorem dJ8_hugeLength_7cf53_5 : decode cJ8_hugeLength_7cf53 5 = .ok (.ifCond .ge 44, 3) := by decide +kernel
theorem dJ8_hugeLength_7cf53_8 : decode cJ8_hugeLength_7cf53 8 = .ok (.new 204, 3) := by decide +kernel
theorem dJ8_hugeLength_7cf53_11 : decode cJ8_hugeLength_7cf53 11 = .ok (.dup, 1) := by decide +kernel
theorem dJ8_hugeLength_7cf53_12 : decode cJ8_hugeLength_7cf53 12 = .ok (.new 89, 3) := by decide +kernel
theorem dJ8_hugeLength_7cf53_15 : decode cJ8_hugeLength_7cf53 15 = .ok (.dup, 1) := by decide +kernel
theorem dJ8_hugeLength_7cf53_16 : decode cJ8_hugeLength_7cf53 16 = .ok (.invokespecial 91, 3) := by decide +kernel
theorem dJ8_hugeLength_7cf53_19 : decode cJ8_hugeLength_7cf53 19 = .ok (.ldc 206, 2) := by decide +kernel
theorem dJ8_hugeLength_7cf53_21 : decode cJ8_hugeLength_7cf53 21 = .ok (.invokevirtual 94, 3) := by decide +kernel
theorem dJ8_hugeLength_7cf53_24 : decode cJ8_hugeLength_7cf53 24 = .ok (.iload_n 0, 1) := by decide +kernel
theorem dJ8_hugeLength_7cf53_25 : decode cJ8_hugeLength_7cf53 25 = .ok (.invokevirtual 98, 3) := by decide +kernel
theorem dJ8_hugeLength_7cf53_28 : decode cJ8_hugeLength_7cf53 28 = .ok (.ldc 208, 2) := by decide +kernel
theorem dJ8_hugeLength_7cf53_30 : decode cJ8_hugeLength_7cf53 30 = .ok (.invokevirtual 94, 3) := by decide +kernel
theorem dJ8_hugeLength_7cf53_33 : decode cJ8_hugeLength_7cf53 33 = .ok (.iload_n 1, 1) := by decide +kernel
theorem dJ8_hugeLength_7cf53_34 : decode cJ8_hugeLength_7cf53 34 = .ok (.invokevirtual 98, 3) := by decide +kernel
theorem dJ8_hugeLength_7cf53_37 : decode cJ8_hugeLength_7cf53 37 = .ok (.ldc 210, 2) := by decide +kernel
theorem dJ8_hugeLength_7cf53_39 : decode cJ8_hugeLength_7cf53 39 = .ok (.invokevirtual 94, 3) := by decide +kernel
theorem dJ8_hugeLength_7cf53_42 : decode cJ8_hugeLength_7cf53 42 = .ok (.invokevirtual 101, 3) := by decide +kernel
theorem dJ8_hugeLength_7cf53_45 : decode cJ8_hugeLength_7cf53 45 = .ok (.invokespecial 212, 3) := by decide +kernel
theorem dJ8_hugeLength_7cf53_48 : decode cJ8_hugeLength_7cf53 48 = .ok (.athrow, 1) := by decide +kernel
theorem dJ8_hugeLength_7cf53_49 : decode cJ8_hugeLength_7cf53 49 = .ok (.iload_n 2, 1) := by decide +kernel
theorem dJ8_hugeLength_7cf53_50 : decode cJ8_hugeLength_7cf53 50 = .ok (.ldc 200, 2) := by decide +kernel
theorem dJ8_hugeLength_7cf53_52 : decode cJ8_hugeLength_7cf53 52 = .ok (.if_icmp .gt 6, 3) := by decide +kernel
theorem dJ8_hugeLength_7cf53_55 : decode cJ8_hugeLength_7cf53 55 = .ok (.ldc 200, 2) := by decide +kernel
theorem dJ8_hugeLength_7cf53_57 : decode cJ8_hugeLength_7cf53 57 = .ok (.ireturn, 1) := by decide +kernel
theorem dJ8_hugeLength_7cf53_58 : decode cJ8_hugeLength_7cf53 58 = .ok (.iload_n 2, 1) := by decide +kernel
theorem dJ8_hugeLength_7cf53_59 : decode cJ8_hugeLength_7cf53 59 = .ok (.ireturn, 1) := by decide +kernel
theorem dJ3_checkIndex_8e157_0 : decode cJ3_checkIndex_8e157 0 = .ok (.iload_n 0, 1) := by decide +kernel
theorem dJ3_checkIndex_8e157_1 : decode cJ3_checkIndex_8e157 1 = .ok (.ifCond .lt 8, 3) := by decide +kernel
theorem dJ3_checkIndex_8e157_4 : decode cJ3_checkIndex_8e157 4 = .ok (.iload_n 0, 1) := by decide +kernel
theorem dJ3_checkIndex_8e157_5 : decode cJ3_checkIndex_8e157 5 = .ok (.iload_n 1, 1) := by decide +kernel
theorem dJ3_checkIndex_8e157_6 : decode cJ3_checkIndex_8e157 6 = .ok (.if_icmp .lt 10, 3) := by decide +kernel
theorem dJ3_checkIndex_8e157_9 : decode cJ3_checkIndex_8e157 9 = .ok (.aload_n 2, 1) := by decide +kernel
theorem dJ3_checkIndex_8e157_10 : decode cJ3_checkIndex_8e157 10 = .ok (.iload_n 0, 1) := by decide +kernel
theorem dJ3_checkIndex_8e157_11 : decode cJ3_checkIndex_8e157 11 = .ok (.iload_n 1, 1) := by decide +kernel
theorem dJ3_checkIndex_8e157_12 : decode cJ3_checkIndex_8e157 12 = .ok (.invokestatic 95, 3) := by decide +kernel
theorem dJ3_checkIndex_8e157_15 : decode cJ3_checkIndex_8e157 15 = .ok (.athrow, 1) := by decide +kernel
theorem dJ3_checkIndex_8e157_16 : decode cJ3_checkIndex_8e157 16 = .ok (.iload_n 0, 1) := by decide +kernel
theorem dJ3_checkIndex_8e157_17 : decode cJ3_checkIndex_8e157 17 = .ok (.ireturn, 1) := by decide +kernel
theorem dJ3_checkFromToIndex_8c36e_0 : decode cJ3_checkFromToIndex_8c36e 0 = .ok (.iload_n 0, 1) := by decide +kernel
theorem dJ3_checkFromToIndex_8c36e_1 : decode cJ3_checkFromToIndex_8c36e 1 = .ok (.ifCond .lt 13, 3) := by decide +kernel
theorem dJ3_checkFromToIndex_8c36e_4 : decode cJ3_checkFromToIndex_8c36e 4 = .ok (.iload_n 0, 1) := by decide +kernel
theorem dJ3_checkFromToIndex_8c36e_5 : decode cJ3_checkFromToIndex_8c36e 5 = .ok (.iload_n 1, 1) := by decide +kernel
theorem dJ3_checkFromToIndex_8c36e_6 : decode cJ3_checkFromToIndex_8c36e 6 = .ok (.if_icmp .gt 8, 3) := by decide +kernel
theorem dJ3_checkFromToIndex_8c36e_9 : decode cJ3_checkFromToIndex_8c36e 9 = .ok (.iload_n 1, 1) := by decide +kernel
theorem dJ3_checkFromToIndex_8c36e_10 : decode cJ3_checkFromToIndex_8c36e 10 = .ok (.iload_n 2, 1) := by decide +kernel
theorem dJ3_checkFromToIndex_8c36e_11 : decode cJ3_checkFromToIndex_8c36e 11 = .ok (.if_icmp .le 11, 3) := by decide +kernel
theorem dJ3_checkFromToIndex_8c36e_14 : decode cJ3_checkFromToIndex_8c36e 14 = .ok (.aload_n 3, 1) := by decide +kernel
theorem dJ3_checkFromToIndex_8c36e_15 : decode cJ3_checkFromToIndex_8c36e 15 = .ok (.iload_n 0, 1) := by decide +kernel
theorem dJ3_checkFromToIndex_8c36e_16 : decode cJ3_checkFromToIndex_8c36e 16 = .ok (.iload_n 1, 1) := by decide +kernel
theorem dJ3_checkFromToIndex_8c36e_17 : decode cJ3_checkFromToIndex_8c36e 17 = .ok (.iload_n 2, 1) := by decide +kernel
theorem dJ3_checkFromToIndex_8c36e_18 : decode cJ3_checkFromToIndex_8c36e 18 = .ok (.invokestatic 99, 3) := by decide +kernel
theorem dJ3_checkFromToIndex_8c36e_21 : decode cJ3_checkFromToIndex_8c36e 21 = .ok (.athrow, 1) := by decide +kernel
theorem dJ3_checkFromToIndex_8c36e_22 : decode cJ3_checkFromToIndex_8c36e 22 = .ok (.iload_n 0, 1) := by decide +kernel
theorem dJ3_checkFromToIndex_8c36e_23 : decode cJ3_checkFromToIndex_8c36e 23 = .ok (.ireturn, 1) := by decide +kernel
theorem dJ3_checkFromIndexSize_8c36e_0 : decode cJ3_checkFromIndexSize_8c36e 0 = .ok (.iload_n 2, 1) := by decide +kernel
theorem dJ3_checkFromIndexSize_8c36e_1 : decode cJ3_checkFromIndexSize_8c36e 1 = .ok (.iload_n 0, 1) := by decide +kernel
theorem dJ3_checkFromIndexSize_8c36e_2 : decode cJ3_checkFromIndexSize_8c36e 2 = .ok (.ior, 1) := by decide +kernel
theorem dJ3_checkFromIndexSize_8c36e_3 : decode cJ3_checkFromIndexSize_8c36e 3 = .ok (.iload_n 1, 1) := by decide +kernel
theorem dJ3_checkFromIndexSize_8c36e_4 : decode cJ3_checkFromIndexSize_8c36e 4 = .ok (.ior, 1) := by decide +kernel
theorem dJ3_checkFromIndexSize_8c36e_5 : decode cJ3_checkFromIndexSize_8c36e 5 = .ok (.ifCond .lt 10, 3) := by decide +kernel
theorem dJ3_checkFromIndexSize_8c36e_8 : decode cJ3_checkFromIndexSize_8c36e 8 = .ok (.iload_n 1, 1) := by decide +kernel
theorem dJ3_checkFromIndexSize_8c36e_9 : decode cJ3_checkFromIndexSize_8c36e 9 = .ok (.iload_n 2, 1) := by decide +kernel
theorem dJ3_checkFromIndexSize_8c36e_10 : decode cJ3_checkFromIndexSize_8c36e 10 = .ok (.iload_n 0, 1) := by decide +kernel
theorem dJ3_checkFromIndexSize_8c36e_11 : decode cJ3_checkFromIndexSize_8c36e 11 = .ok (.isub, 1) := by decide +kernel
theorem dJ3_checkFromIndexSize_8c36e_12 : decode cJ3_checkFromIndexSize_8c36e 12 = .ok (.if_icmp .le 11, 3) := by decide +kernel
theorem dJ3_checkFromIndexSize_8c36e_15 : decode cJ3_checkFromIndexSize_8c36e 15 = .ok (.aload_n 3, 1) := by decide +kernel
theorem dJ3_checkFromIndexSize_8c36e_16 : decode cJ3_checkFromIndexSize_8c36e 16 = .ok (.iload_n 0, 1) := by decide +kernel
theorem dJ3_checkFromIndexSize_8c36e_17 : decode cJ3_checkFromIndexSize_8c36e 17 = .ok (.iload_n 1, 1) := by decide +kernel
theorem dJ3_checkFromIndexSize_8c36e_18 : decode cJ3_checkFromIndexSize_8c36e 18 = .ok (.iload_n 2, 1) := by decide +kernel
theorem dJ3_checkFromIndexSize_8c36e_19 : decode cJ3_checkFromIndexSize_8c36e 19 = .ok (.invokestatic 103, 3) := by decide +kernel
theorem dJ3_checkFromIndexSize_8c36e_22 : decode cJ3_checkFromIndexSize_8c36e 22 = .ok (.athrow, 1) := by decide +kernel
theorem dJ3_checkFromIndexSize_8c36e_23 : decode cJ3_checkFromIndexSize_8c36e 23 = .ok (.iload_n 0, 1) := by decide +kernel
theorem dJ3_checkFromIndexSize_8c36e_24 : decode cJ3_checkFromIndexSize_8c36e 24 = .ok (.ireturn, 1) := by decide +kernel
theorem dL_law_0 : decode cL_law 0 = .ok (.new 7, 3) := by decide +kernel
theorem dL_law_3 : decode cL_law 3 = .ok (.dup, 1) := by decide +kernel
theorem dL_law_4 : decode cL_law 4 = .ok (.invokespecial 9, 3) := by decide +kernel
theorem dL_law_7 : decode cL_law 7 = .ok (.astore_n 1, 1) := by decide +kernel
theorem dL_law_8 : decode cL_law 8 = .ok (.new 10, 3) := by decide +kernel
theorem dL_law_11 : decode cL_law 11 = .ok (.dup, 1) := by decide +kernel
theorem dL_law_12 : decode cL_law 12 = .ok (.invokespecial 12, 3) := by decide +kernel
theorem dL_law_15 : decode cL_law 15 = .ok (.astore_n 2, 1) := by decide +kernel
theorem dL_law_16 : decode cL_law 16 = .ok (.iconst 0, 1) := by decide +kernel
theorem dL_law_17 : decode cL_law 17 = .ok (.istore_n 3, 1) := by decide +kernel
theorem dL_law_18 : decode cL_law 18 = .ok (.iload_n 3, 1) := by decide +kernel
theorem dL_law_19 : decode cL_law 19 = .ok (.aload_n 0, 1) := by decide +kernel
theorem dL_law_20 : decode cL_law 20 = .ok (.arraylength, 1) := by decide +kernel
theorem dL_law_21 : decode cL_law 21 = .ok (.bipush 6, 2) := by decide +kernel
theorem dL_law_23 : decode cL_law 23 = .ok (.isub, 1) := by decide +kernel
theorem dL_law_24 : decode cL_law 24 = .ok (.if_icmp .gt 1052, 3) := by decide +kernel
theorem dL_law_27 : decode cL_law 27 = .ok (.aload_n 0, 1) := by decide +kernel
theorem dL_law_28 : decode cL_law 28 = .ok (.iload_n 3, 1) := by decide +kernel
theorem dL_law_29 : decode cL_law 29 = .ok (.iaload, 1) := by decide +kernel
theorem dL_law_30 : decode cL_law 30 = .ok (.bipush 63, 2) := by decide +kernel
theorem dL_law_32 : decode cL_law 32 = .ok (.iand, 1) := by decide +kernel
theorem dL_law_33 : decode cL_law 33 = .ok (.tableswitch 1037 0 32 #[147, 190, 233, 296, 319, 342, 355, 368, 381, 394, 427, 460, 473, 486, 519, 552, 585, 598, 621, 644, 667, 690, 703, 766, 800, 843, 866, 889, 912, 945, 978, 1001, 1024], 147) := by decide +kernel
theorem dL_law_180 : decode cL_law 180 = .ok (.aload_n 1, 1) := by decide +kernel
theorem dL_law_181 : decode cL_law 181 = .ok (.aload_n 0, 1) := by decide +kernel
theorem dL_law_182 : decode cL_law 182 = .ok (.iload_n 3, 1) := by decide +kernel
theorem dL_law_183 : decode cL_law 183 = .ok (.iconst 1, 1) := by decide +kernel
theorem dL_law_184 : decode cL_law 184 = .ok (.iadd, 1) := by decide +kernel
theorem dL_law_185 : decode cL_law 185 = .ok (.iaload, 1) := by decide +kernel
theorem dL_law_186 : decode cL_law 186 = .ok (.aload_n 0, 1) := by decide +kernel
theorem dL_law_187 : decode cL_law 187 = .ok (.iload_n 3, 1) := by decide +kernel
theorem dL_law_188 : decode cL_law 188 = .ok (.iconst 2, 1) := by decide +kernel
theorem dL_law_189 : decode cL_law 189 = .ok (.iadd, 1) := by decide +kernel
theorem dL_law_190 : decode cL_law 190 = .ok (.iaload, 1) := by decide +kernel
theorem dL_law_191 : decode cL_law 191 = .ok (.aload_n 0, 1) := by decide +kernel
theorem dL_law_192 : decode cL_law 192 = .ok (.iload_n 3, 1) := by decide +kernel
theorem dL_law_193 : decode cL_law 193 = .ok (.iconst 3, 1) := by decide +kernel
theorem dL_law_194 : decode cL_law 194 = .ok (.iadd, 1) := by decide +kernel
theorem dL_law_195 : decode cL_law 195 = .ok (.iaload, 1) := by decide +kernel
theorem dL_law_196 : decode cL_law 196 = .ok (.invokevirtual 13, 3) := by decide +kernel
theorem dL_law_199 : decode cL_law 199 = .ok (.aload_n 2, 1) := by decide +kernel
theorem dL_law_200 : decode cL_law 200 = .ok (.aload_n 0, 1) := by decide +kernel
theorem dL_law_201 : decode cL_law 201 = .ok (.iload_n 3, 1) := by decide +kernel
theorem dL_law_202 : decode cL_law 202 = .ok (.iconst 1, 1) := by decide +kernel
theorem dL_law_203 : decode cL_law 203 = .ok (.iadd, 1) := by decide +kernel
theorem dL_law_204 : decode cL_law 204 = .ok (.iaload, 1) := by decide +kernel
theorem dL_law_205 : decode cL_law 205 = .ok (.aload_n 0, 1) := by decide +kernel
theorem dL_law_206 : decode cL_law 206 = .ok (.iload_n 3, 1) := by decide +kernel
theorem dL_law_207 : decode cL_law 207 = .ok (.iconst 2, 1) := by decide +kernel
theorem dL_law_208 : decode cL_law 208 = .ok (.iadd, 1) := by decide +kernel
theorem dL_law_209 : decode cL_law 209 = .ok (.iaload, 1) := by decide +kernel
theorem dL_law_210 : decode cL_law 210 = .ok (.aload_n 0, 1) := by decide +kernel
theorem dL_law_211 : decode cL_law 211 = .ok (.iload_n 3, 1) := by decide +kernel
theorem dL_law_212 : decode cL_law 212 = .ok (.iconst 3, 1) := by decide +kernel
theorem dL_law_213 : decode cL_law 213 = .ok (.iadd, 1) := by decide +kernel
theorem dL_law_214 : decode cL_law 214 = .ok (.iaload, 1) := by decide +kernel
theorem dL_law_215 : decode cL_law 215 = .ok (.invokevirtual 17, 3) := by decide +kernel
theorem dL_law_218 : decode cL_law 218 = .ok (.if_icmp .eq 852, 3) := by decide +kernel
theorem dL_law_221 : decode cL_law 221 = .ok (.iconst 0, 1) := by decide +kernel
theorem dL_law_222 : decode cL_law 222 = .ok (.ireturn, 1) := by decide +kernel
theorem dL_law_223 : decode cL_law 223 = .ok (.aload_n 1, 1) := by decide +kernel
theorem dL_law_224 : decode cL_law 224 = .ok (.aload_n 0, 1) := by decide +kernel
theorem dL_law_225 : decode cL_law 225 = .ok (.iload_n 3, 1) := by decide +kernel
theorem dL_law_226 : decode cL_law 226 = .ok (.iconst 1, 1) := by decide +kernel
theorem dL_law_227 : decode cL_law 227 = .ok (.iadd, 1) := by decide +kernel
theorem dL_law_228 : decode cL_law 228 = .ok (.iaload, 1) := by decide +kernel
theorem dL_law_229 : decode cL_law 229 = .ok (.aload_n 0, 1) := by decide +kernel
theorem dL_law_230 : decode cL_law 230 = .ok (.iload_n 3, 1) := by decide +kernel
theorem dL_law_231 : decode cL_law 231 = .ok (.iconst 2, 1) := by decide +kernel
theorem dL_law_232 : decode cL_law 232 = .ok (.iadd, 1) := by decide +kernel
theorem dL_law_233 : decode cL_law 233 = .ok (.iaload, 1) := by decide +kernel
theorem dL_law_234 : decode cL_law 234 = .ok (.aload_n 0, 1) := by decide +kernel
theorem dL_law_235 : decode cL_law 235 = .ok (.iload_n 3, 1) := by decide +kernel
theorem dL_law_236 : decode cL_law 236 = .ok (.iconst 3, 1) := by decide +kernel
theorem dL_law_237 : decode cL_law 237 = .ok (.iadd, 1) := by decide +kernel
theorem dL_law_238 : decode cL_law 238 = .ok (.iaload, 1) := by decide +kernel
theorem dL_law_239 : decode cL_law 239 = .ok (.invokevirtual 18, 3) := by decide +kernel
theorem dL_law_242 : decode cL_law 242 = .ok (.aload_n 2, 1) := by decide +kernel
theorem dL_law_243 : decode cL_law 243 = .ok (.aload_n 0, 1) := by decide +kernel
theorem dL_law_244 : decode cL_law 244 = .ok (.iload_n 3, 1) := by decide +kernel
theorem dL_law_245 : decode cL_law 245 = .ok (.iconst 1, 1) := by decide +kernel
theorem dL_law_246 : decode cL_law 246 = .ok (.iadd, 1) := by decide +kernel
theorem dL_law_247 : decode cL_law 247 = .ok (.iaload, 1) := by decide +kernel
theorem dL_law_248 : decode cL_law 248 = .ok (.aload_n 0, 1) := by decide +kernel
theorem dL_law_249 : decode cL_law 249 = .ok (.iload_n 3, 1) := by decide +kernel
theorem dL_law_250 : decode cL_law 250 = .ok (.iconst 2, 1) := by decide +kernel
theorem dL_law_251 : decode cL_law 251 = .ok (.iadd, 1) := by decide +kernel
theorem dL_law_252 : decode cL_law 252 = .ok (.iaload, 1) := by decide +kernel
theorem dL_law_253 : decode cL_law 253 = .ok (.aload_n 0, 1) := by decide +kernel
theorem dL_law_254 : decode cL_law 254 = .ok (.iload_n 3, 1) := by decide +kernel
theorem dL_law_255 : decode cL_law 255 = .ok (.iconst 3, 1) := by decide +kernel
theorem dL_law_256 : decode cL_law 256 = .ok (.iadd, 1) := by decide +kernel
theorem dL_law_257 : decode cL_law 257 = .ok (.iaload, 1) := by decide +kernel
theorem dL_law_258 : decode cL_law 258 = .ok (.invokevirtual 21, 3) := by decide +kernel
theorem dL_law_261 : decode cL_law 261 = .ok (.if_icmp .eq 809, 3) := by decide +kernel
theorem dL_law_264 : decode cL_law 264 = .ok (.iconst 0, 1) := by decide +kernel
theorem dL_law_265 : decode cL_law 265 = .ok (.ireturn, 1) := by decide +kernel
theorem dL_law_266 : decode cL_law 266 = .ok (.aload_n 1, 1) := by decide +kernel
theorem dL_law_267 : decode cL_law 267 = .ok (.aload_n 0, 1) := by decide +kernel
theorem dL_law_268 : decode cL_law 268 = .ok (.iload_n 3, 1) := by decide +kernel
theorem dL_law_269 : decode cL_law 269 = .ok (.iconst 1, 1) := by decide +kernel
theorem dL_law_270 : decode cL_law 270 = .ok (.iadd, 1) := by decide +kernel
theorem dL_law_271 : decode cL_law 271 = .ok (.iaload, 1) := by decide +kernel
theorem dL_law_272 : decode cL_law 272 = .ok (.aload_n 0, 1) := by decide +kernel
theorem dL_law_273 : decode cL_law 273 = .ok (.iload_n 3, 1) := by decide +kernel
theorem dL_law_274 : decode cL_law 274 = .ok (.iconst 2, 1) := by decide +kernel
theorem dL_law_275 : decode cL_law 275 = .ok (.iadd, 1) := by decide +kernel
theorem dL_law_276 : decode cL_law 276 = .ok (.iaload, 1) := by decide +kernel
theorem dL_law_277 : decode cL_law 277 = .ok (.aload_n 0, 1) := by decide +kernel
theorem dL_law_278 : decode cL_law 278 = .ok (.iload_n 3, 1) := by decide +kernel
theorem dL_law_279 : decode cL_law 279 = .ok (.iconst 3, 1) := by decide +kernel
theorem dL_law_280 : decode cL_law 280 = .ok (.iadd, 1) := by decide +kernel
theorem dL_law_281 : decode cL_law 281 = .ok (.iaload, 1) := by decide +kernel
theorem dL_law_282 : decode cL_law 282 = .ok (.aload_n 0, 1) := by decide +kernel
theorem dL_law_283 : decode cL_law 283 = .ok (.iload_n 3, 1) := by decide +kernel
theorem dL_law_284 : decode cL_law 284 = .ok (.iconst 4, 1) := by decide +kernel
theorem dL_law_285 : decode cL_law 285 = .ok (.iadd, 1) := by decide +kernel
theorem dL_law_286 : decode cL_law 286 = .ok (.iaload, 1) := by decide +kernel
theorem dL_law_287 : decode cL_law 287 = .ok (.aload_n 0, 1) := by decide +kernel
theorem dL_law_288 : decode cL_law 288 = .ok (.iload_n 3, 1) := by decide +kernel
theorem dL_law_289 : decode cL_law 289 = .ok (.iconst 5, 1) := by decide +kernel
theorem dL_law_290 : decode cL_law 290 = .ok (.iadd, 1) := by decide +kernel
theorem dL_law_291 : decode cL_law 291 = .ok (.iaload, 1) := by decide +kernel
theorem dL_law_292 : decode cL_law 292 = .ok (.invokevirtual 22, 3) := by decide +kernel
theorem dL_law_295 : decode cL_law 295 = .ok (.aload_n 2, 1) := by decide +kernel
theorem dL_law_296 : decode cL_law 296 = .ok (.aload_n 0, 1) := by decide +kernel
theorem dL_law_297 : decode cL_law 297 = .ok (.iload_n 3, 1) := by decide +kernel
theorem dL_law_298 : decode cL_law 298 = .ok (.iconst 1, 1) := by decide +kernel
theorem dL_law_299 : decode cL_law 299 = .ok (.iadd, 1) := by decide +kernel
theorem dL_law_300 : decode cL_law 300 = .ok (.iaload, 1) := by decide +kernel
theorem dL_law_301 : decode cL_law 301 = .ok (.aload_n 0, 1) := by decide +kernel
theorem dL_law_302 : decode cL_law 302 = .ok (.iload_n 3, 1) := by decide +kernel
theorem dL_law_303 : decode cL_law 303 = .ok (.iconst 2, 1) := by decide +kernel
theorem dL_law_304 : decode cL_law 304 = .ok (.iadd, 1) := by decide +kernel
theorem dL_law_305 : decode cL_law 305 = .ok (.iaload, 1) := by decide +kernel
theorem dL_law_306 : decode cL_law 306 = .ok (.aload_n 0, 1) := by decide +kernel
theorem dL_law_307 : decode cL_law 307 = .ok (.iload_n 3, 1) := by decide +kernel
theorem dL_law_308 : decode cL_law 308 = .ok (.iconst 3, 1) := by decide +kernel
theorem dL_law_309 : decode cL_law 309 = .ok (.iadd, 1) := by decide +kernel
theorem dL_law_310 : decode cL_law 310 = .ok (.iaload, 1) := by decide +kernel
theorem dL_law_311 : decode cL_law 311 = .ok (.aload_n 0, 1) := by decide +kernel
theorem dL_law_312 : decode cL_law 312 = .ok (.iload_n 3, 1) := by decide +kernel
theorem dL_law_313 : decode cL_law 313 = .ok (.iconst 4, 1) := by decide +kernel
theorem dL_law_314 : decode cL_law 314 = .ok (.iadd, 1) := by decide +kernel
theorem dL_law_315 : decode cL_law 315 = .ok (.iaload, 1) := by decide +kernel
theorem dL_law_316 : decode cL_law 316 = .ok (.aload_n 0, 1) := by decide +kernel
theorem dL_law_317 : decode cL_law 317 = .ok (.iload_n 3, 1) := by decide +kernel
theorem dL_law_318 : decode cL_law 318 = .ok (.iconst 5, 1) := by decide +kernel
theorem dL_law_319 : decode cL_law 319 = .ok (.iadd, 1) := by decide +kernel
theorem dL_law_320 : decode cL_law 320 = .ok (.iaload, 1) := by decide +kernel
theorem dL_law_321 : decode cL_law 321 = .ok (.invokevirtual 26, 3) := by decide +kernel
theorem dL_law_324 : decode cL_law 324 = .ok (.if_icmp .eq 746, 3) := by decide +kernel
theorem dL_law_327 : decode cL_law 327 = .ok (.iconst 0, 1) := by decide +kernel
theorem dL_law_328 : decode cL_law 328 = .ok (.ireturn, 1) := by decide +kernel
theorem dL_law_329 : decode cL_law 329 = .ok (.aload_n 1, 1) := by decide +kernel
theorem dL_law_330 : decode cL_law 330 = .ok (.aload_n 0, 1) := by decide +kernel
theorem dL_law_331 : decode cL_law 331 = .ok (.iload_n 3, 1) := by decide +kernel
theorem dL_law_332 : decode cL_law 332 = .ok (.iconst 1, 1) := by decide +kernel
theorem dL_law_333 : decode cL_law 333 = .ok (.iadd, 1) := by decide +kernel
theorem dL_law_334 : decode cL_law 334 = .ok (.iaload, 1) := by decide +kernel
theorem dL_law_335 : decode cL_law 335 = .ok (.invokevirtual 27, 3) := by decide +kernel
theorem dL_law_338 : decode cL_law 338 = .ok (.aload_n 2, 1) := by decide +kernel
theorem dL_law_339 : decode cL_law 339 = .ok (.aload_n 0, 1) := by decide +kernel
theorem dL_law_340 : decode cL_law 340 = .ok (.iload_n 3, 1) := by decide +kernel
theorem dL_law_341 : decode cL_law 341 = .ok (.iconst 1, 1) := by decide +kernel
theorem dL_law_342 : decode cL_law 342 = .ok (.iadd, 1) := by decide +kernel
theorem dL_law_343 : decode cL_law 343 = .ok (.iaload, 1) := by decide +kernel
theorem dL_law_344 : decode cL_law 344 = .ok (.invokevirtual 31, 3) := by decide +kernel
theorem dL_law_347 : decode cL_law 347 = .ok (.if_icmp .eq 723, 3) := by decide +kernel
theorem dL_law_350 : decode cL_law 350 = .ok (.iconst 0, 1) := by decide +kernel
theorem dL_law_351 : decode cL_law 351 = .ok (.ireturn, 1) := by decide +kernel
theorem dL_law_352 : decode cL_law 352 = .ok (.aload_n 1, 1) := by decide +kernel
theorem dL_law_353 : decode cL_law 353 = .ok (.aload_n 0, 1) := by decide +kernel
theorem dL_law_354 : decode cL_law 354 = .ok (.iload_n 3, 1) := by decide +kernel
theorem dL_law_355 : decode cL_law 355 = .ok (.iconst 1, 1) := by decide +kernel
theorem dL_law_356 : decode cL_law 356 = .ok (.iadd, 1) := by decide +kernel
theorem dL_law_357 : decode cL_law 357 = .ok (.iaload, 1) := by decide +kernel
theorem dL_law_358 : decode cL_law 358 = .ok (.invokevirtual 32, 3) := by decide +kernel
theorem dL_law_361 : decode cL_law 361 = .ok (.aload_n 2, 1) := by decide +kernel
theorem dL_law_362 : decode cL_law 362 = .ok (.aload_n 0, 1) := by decide +kernel
theorem dL_law_363 : decode cL_law 363 = .ok (.iload_n 3, 1) := by decide +kernel
theorem dL_law_364 : decode cL_law 364 = .ok (.iconst 1, 1) := by decide +kernel
theorem dL_law_365 : decode cL_law 365 = .ok (.iadd, 1) := by decide +kernel
theorem dL_law_366 : decode cL_law 366 = .ok (.iaload, 1) := by decide +kernel
theorem dL_law_367 : decode cL_law 367 = .ok (.invokevirtual 35, 3) := by decide +kernel
theorem dL_law_370 : decode cL_law 370 = .ok (.if_icmp .eq 700, 3) := by decide +kernel
theorem dL_law_373 : decode cL_law 373 = .ok (.iconst 0, 1) := by decide +kernel
theorem dL_law_374 : decode cL_law 374 = .ok (.ireturn, 1) := by decide +kernel
theorem dL_law_375 : decode cL_law 375 = .ok (.aload_n 1, 1) := by decide +kernel
theorem dL_law_376 : decode cL_law 376 = .ok (.invokevirtual 36, 3) := by decide +kernel
theorem dL_law_379 : decode cL_law 379 = .ok (.aload_n 2, 1) := by decide +kernel
theorem dL_law_380 : decode cL_law 380 = .ok (.invokevirtual 40, 3) := by decide +kernel
theorem dL_law_383 : decode cL_law 383 = .ok (.if_icmp .eq 687, 3) := by decide +kernel
theorem dL_law_386 : decode cL_law 386 = .ok (.iconst 0, 1) := by decide +kernel
theorem dL_law_387 : decode cL_law 387 = .ok (.ireturn, 1) := by decide +kernel
theorem dL_law_388 : decode cL_law 388 = .ok (.aload_n 1, 1) := by decide +kernel
theorem dL_law_389 : decode cL_law 389 = .ok (.invokevirtual 41, 3) := by decide +kernel
theorem dL_law_392 : decode cL_law 392 = .ok (.aload_n 2, 1) := by decide +kernel
theorem dL_law_393 : decode cL_law 393 = .ok (.invokevirtual 44, 3) := by decide +kernel
theorem dL_law_396 : decode cL_law 396 = .ok (.if_icmp .eq 674, 3) := by decide +kernel
theorem dL_law_399 : decode cL_law 399 = .ok (.iconst 0, 1) := by decide +kernel
theorem dL_law_400 : decode cL_law 400 = .ok (.ireturn, 1) := by decide +kernel
theorem dL_law_401 : decode cL_law 401 = .ok (.aload_n 1, 1) := by decide +kernel
theorem dL_law_402 : decode cL_law 402 = .ok (.invokevirtual 45, 3) := by decide +kernel
theorem dL_law_405 : decode cL_law 405 = .ok (.aload_n 2, 1) := by decide +kernel
theorem dL_law_406 : decode cL_law 406 = .ok (.invokevirtual 48, 3) := by decide +kernel
theorem dL_law_409 : decode cL_law 409 = .ok (.if_icmp .eq 661, 3) := by decide +kernel
theorem dL_law_412 : decode cL_law 412 = .ok (.iconst 0, 1) := by decide +kernel
theorem dL_law_413 : decode cL_law 413 = .ok (.ireturn, 1) := by decide +kernel
theorem dL_law_414 : decode cL_law 414 = .ok (.aload_n 1, 1) := by decide +kernel
theorem dL_law_415 : decode cL_law 415 = .ok (.invokevirtual 49, 3) := by decide +kernel
theorem dL_law_418 : decode cL_law 418 = .ok (.aload_n 2, 1) := by decide +kernel
theorem dL_law_419 : decode cL_law 419 = .ok (.invokevirtual 52, 3) := by decide +kernel
theorem dL_law_422 : decode cL_law 422 = .ok (.if_icmp .eq 648, 3) := by decide +kernel
theorem dL_law_425 : decode cL_law 425 = .ok (.iconst 0, 1) := by decide +kernel
theorem dL_law_426 : decode cL_law 426 = .ok (.ireturn, 1) := by decide +kernel
theorem dL_law_427 : decode cL_law 427 = .ok (.aload_n 1, 1) := by decide +kernel
theorem dL_law_428 : decode cL_law 428 = .ok (.aload_n 0, 1) := by decide +kernel
theorem dL_law_429 : decode cL_law 429 = .ok (.iload_n 3, 1) := by decide +kernel
theorem dL_law_430 : decode cL_law 430 = .ok (.iconst 1, 1) := by decide +kernel
theorem dL_law_431 : decode cL_law 431 = .ok (.iadd, 1) := by decide +kernel
theorem dL_law_432 : decode cL_law 432 = .ok (.iaload, 1) := by decide +kernel
theorem dL_law_433 : decode cL_law 433 = .ok (.aload_n 0, 1) := by decide +kernel
theorem dL_law_434 : decode cL_law 434 = .ok (.iload_n 3, 1) := by decide +kernel
theorem dL_law_435 : decode cL_law 435 = .ok (.iconst 2, 1) := by decide +kernel
theorem dL_law_436 : decode cL_law 436 = .ok (.iadd, 1) := by decide +kernel
theorem dL_law_437 : decode cL_law 437 = .ok (.iaload, 1) := by decide +kernel
theorem dL_law_438 : decode cL_law 438 = .ok (.invokevirtual 53, 3) := by decide +kernel
theorem dL_law_441 : decode cL_law 441 = .ok (.aload_n 2, 1) := by decide +kernel
theorem dL_law_442 : decode cL_law 442 = .ok (.aload_n 0, 1) := by decide +kernel
theorem dL_law_443 : decode cL_law 443 = .ok (.iload_n 3, 1) := by decide +kernel
theorem dL_law_444 : decode cL_law 444 = .ok (.iconst 1, 1) := by decide +kernel
theorem dL_law_445 : decode cL_law 445 = .ok (.iadd, 1) := by decide +kernel
theorem dL_law_446 : decode cL_law 446 = .ok (.iaload, 1) := by decide +kernel
theorem dL_law_447 : decode cL_law 447 = .ok (.aload_n 0, 1) := by decide +kernel
theorem dL_law_448 : decode cL_law 448 = .ok (.iload_n 3, 1) := by decide +kernel
theorem dL_law_449 : decode cL_law 449 = .ok (.iconst 2, 1) := by decide +kernel
theorem dL_law_450 : decode cL_law 450 = .ok (.iadd, 1) := by decide +kernel
theorem dL_law_451 : decode cL_law 451 = .ok (.iaload, 1) := by decide +kernel
theorem dL_law_452 : decode cL_law 452 = .ok (.invokevirtual 57, 3) := by decide +kernel
theorem dL_law_455 : decode cL_law 455 = .ok (.if_icmp .eq 615, 3) := by decide +kernel
theorem dL_law_458 : decode cL_law 458 = .ok (.iconst 0, 1) := by decide +kernel
theorem dL_law_459 : decode cL_law 459 = .ok (.ireturn, 1) := by decide +kernel
theorem dL_law_460 : decode cL_law 460 = .ok (.aload_n 1, 1) := by decide +kernel
theorem dL_law_461 : decode cL_law 461 = .ok (.aload_n 0, 1) := by decide +kernel
theorem dL_law_462 : decode cL_law 462 = .ok (.iload_n 3, 1) := by decide +kernel
theorem dL_law_463 : decode cL_law 463 = .ok (.iconst 1, 1) := by decide +kernel
theorem dL_law_464 : decode cL_law 464 = .ok (.iadd, 1) := by decide +kernel
theorem dL_law_465 : decode cL_law 465 = .ok (.iaload, 1) := by decide +kernel
theorem dL_law_466 : decode cL_law 466 = .ok (.aload_n 0, 1) := by decide +kernel
theorem dL_law_467 : decode cL_law 467 = .ok (.iload_n 3, 1) := by decide +kernel
theorem dL_law_468 : decode cL_law 468 = .ok (.iconst 2, 1) := by decide +kernel
theorem dL_law_469 : decode cL_law 469 = .ok (.iadd, 1) := by decide +kernel
theorem dL_law_470 : decode cL_law 470 = .ok (.iaload, 1) := by decide +kernel
theorem dL_law_471 : decode cL_law 471 = .ok (.invokevirtual 58, 3) := by decide +kernel
theorem dL_law_474 : decode cL_law 474 = .ok (.aload_n 2, 1) := by decide +kernel
theorem dL_law_475 : decode cL_law 475 = .ok (.aload_n 0, 1) := by decide +kernel
theorem dL_law_476 : decode cL_law 476 = .ok (.iload_n 3, 1) := by decide +kernel
theorem dL_law_477 : decode cL_law 477 = .ok (.iconst 1, 1) := by decide +kernel
theorem dL_law_478 : decode cL_law 478 = .ok (.iadd, 1) := by decide +kernel
theorem dL_law_479 : decode cL_law 479 = .ok (.iaload, 1) := by decide +kernel
theorem dL_law_480 : decode cL_law 480 = .ok (.aload_n 0, 1) := by decide +kernel
theorem dL_law_481 : decode cL_law 481 = .ok (.iload_n 3, 1) := by decide +kernel
theorem dL_law_482 : decode cL_law 482 = .ok (.iconst 2, 1) := by decide +kernel
theorem dL_law_483 : decode cL_law 483 = .ok (.iadd, 1) := by decide +kernel
theorem dL_law_484 : decode cL_law 484 = .ok (.iaload, 1) := by decide +kernel
theorem dL_law_485 : decode cL_law 485 = .ok (.invokevirtual 61, 3) := by decide +kernel
theorem dL_law_488 : decode cL_law 488 = .ok (.if_icmp .eq 582, 3) := by decide +kernel
theorem dL_law_491 : decode cL_law 491 = .ok (.iconst 0, 1) := by decide +kernel
theorem dL_law_492 : decode cL_law 492 = .ok (.ireturn, 1) := by decide +kernel
theorem dL_law_493 : decode cL_law 493 = .ok (.aload_n 1, 1) := by decide +kernel
theorem dL_law_494 : decode cL_law 494 = .ok (.invokevirtual 62, 3) := by decide +kernel
theorem dL_law_497 : decode cL_law 497 = .ok (.aload_n 2, 1) := by decide +kernel
theorem dL_law_498 : decode cL_law 498 = .ok (.invokevirtual 65, 3) := by decide +kernel
theorem dL_law_501 : decode cL_law 501 = .ok (.if_icmp .eq 569, 3) := by decide +kernel
theorem dL_law_504 : decode cL_law 504 = .ok (.iconst 0, 1) := by decide +kernel
theorem dL_law_505 : decode cL_law 505 = .ok (.ireturn, 1) := by decide +kernel
theorem dL_law_506 : decode cL_law 506 = .ok (.aload_n 1, 1) := by decide +kernel
theorem dL_law_507 : decode cL_law 507 = .ok (.invokevirtual 66, 3) := by decide +kernel
theorem dL_law_510 : decode cL_law 510 = .ok (.aload_n 2, 1) := by decide +kernel
theorem dL_law_511 : decode cL_law 511 = .ok (.invokevirtual 69, 3) := by decide +kernel
theorem dL_law_514 : decode cL_law 514 = .ok (.if_icmp .eq 556, 3) := by decide +kernel
theorem dL_law_517 : decode cL_law 517 = .ok (.iconst 0, 1) := by decide +kernel
theorem dL_law_518 : decode cL_law 518 = .ok (.ireturn, 1) := by decide +kernel
theorem dL_law_519 : decode cL_law 519 = .ok (.aload_n 1, 1) := by decide +kernel
theorem dL_law_520 : decode cL_law 520 = .ok (.aload_n 0, 1) := by decide +kernel
theorem dL_law_521 : decode cL_law 521 = .ok (.iload_n 3, 1) := by decide +kernel
theorem dL_law_522 : decode cL_law 522 = .ok (.iconst 1, 1) := by decide +kernel
theorem dL_law_523 : decode cL_law 523 = .ok (.iadd, 1) := by decide +kernel
theorem dL_law_524 : decode cL_law 524 = .ok (.iaload, 1) := by decide +kernel
theorem dL_law_525 : decode cL_law 525 = .ok (.aload_n 0, 1) := by decide +kernel
theorem dL_law_526 : decode cL_law 526 = .ok (.iload_n 3, 1) := by decide +kernel
theorem dL_law_527 : decode cL_law 527 = .ok (.iconst 2, 1) := by decide +kernel
theorem dL_law_528 : decode cL_law 528 = .ok (.iadd, 1) := by decide +kernel
theorem dL_law_529 : decode cL_law 529 = .ok (.iaload, 1) := by decide +kernel
theorem dL_law_530 : decode cL_law 530 = .ok (.invokevirtual 70, 3) := by decide +kernel
theorem dL_law_533 : decode cL_law 533 = .ok (.aload_n 2, 1) := by decide +kernel
theorem dL_law_534 : decode cL_law 534 = .ok (.aload_n 0, 1) := by decide +kernel
theorem dL_law_535 : decode cL_law 535 = .ok (.iload_n 3, 1) := by decide +kernel
theorem dL_law_536 : decode cL_law 536 = .ok (.iconst 1, 1) := by decide +kernel
theorem dL_law_537 : decode cL_law 537 = .ok (.iadd, 1) := by decide +kernel
theorem dL_law_538 : decode cL_law 538 = .ok (.iaload, 1) := by decide +kernel
theorem dL_law_539 : decode cL_law 539 = .ok (.aload_n 0, 1) := by decide +kernel
theorem dL_law_540 : decode cL_law 540 = .ok (.iload_n 3, 1) := by decide +kernel
theorem dL_law_541 : decode cL_law 541 = .ok (.iconst 2, 1) := by decide +kernel
theorem dL_law_542 : decode cL_law 542 = .ok (.iadd, 1) := by decide +kernel
theorem dL_law_543 : decode cL_law 543 = .ok (.iaload, 1) := by decide +kernel
theorem dL_law_544 : decode cL_law 544 = .ok (.invokevirtual 73, 3) := by decide +kernel
theorem dL_law_547 : decode cL_law 547 = .ok (.if_icmp .eq 523, 3) := by decide +kernel
theorem dL_law_550 : decode cL_law 550 = .ok (.iconst 0, 1) := by decide +kernel
theorem dL_law_551 : decode cL_law 551 = .ok (.ireturn, 1) := by decide +kernel
theorem dL_law_552 : decode cL_law 552 = .ok (.aload_n 1, 1) := by decide +kernel
theorem dL_law_553 : decode cL_law 553 = .ok (.aload_n 0, 1) := by decide +kernel
theorem dL_law_554 : decode cL_law 554 = .ok (.iload_n 3, 1) := by decide +kernel
theorem dL_law_555 : decode cL_law 555 = .ok (.iconst 1, 1) := by decide +kernel
theorem dL_law_556 : decode cL_law 556 = .ok (.iadd, 1) := by decide +kernel
theorem dL_law_557 : decode cL_law 557 = .ok (.iaload, 1) := by decide +kernel
theorem dL_law_558 : decode cL_law 558 = .ok (.aload_n 0, 1) := by decide +kernel
theorem dL_law_559 : decode cL_law 559 = .ok (.iload_n 3, 1) := by decide +kernel
theorem dL_law_560 : decode cL_law 560 = .ok (.iconst 2, 1) := by decide +kernel
theorem dL_law_561 : decode cL_law 561 = .ok (.iadd, 1) := by decide +kernel
theorem dL_law_562 : decode cL_law 562 = .ok (.iaload, 1) := by decide +kernel
theorem dL_law_563 : decode cL_law 563 = .ok (.invokevirtual 74, 3) := by decide +kernel
theorem dL_law_566 : decode cL_law 566 = .ok (.aload_n 2, 1) := by decide +kernel
theorem dL_law_567 : decode cL_law 567 = .ok (.aload_n 0, 1) := by decide +kernel
theorem dL_law_568 : decode cL_law 568 = .ok (.iload_n 3, 1) := by decide +kernel
theorem dL_law_569 : decode cL_law 569 = .ok (.iconst 1, 1) := by decide +kernel
theorem dL_law_570 : decode cL_law 570 = .ok (.iadd, 1) := by decide +kernel
theorem dL_law_571 : decode cL_law 571 = .ok (.iaload, 1) := by decide +kernel
theorem dL_law_572 : decode cL_law 572 = .ok (.aload_n 0, 1) := by decide +kernel
theorem dL_law_573 : decode cL_law 573 = .ok (.iload_n 3, 1) := by decide +kernel
theorem dL_law_574 : decode cL_law 574 = .ok (.iconst 2, 1) := by decide +kernel
theorem dL_law_575 : decode cL_law 575 = .ok (.iadd, 1) := by decide +kernel
theorem dL_law_576 : decode cL_law 576 = .ok (.iaload, 1) := by decide +kernel
theorem dL_law_577 : decode cL_law 577 = .ok (.invokevirtual 77, 3) := by decide +kernel
theorem dL_law_580 : decode cL_law 580 = .ok (.if_icmp .eq 490, 3) := by decide +kernel
theorem dL_law_583 : decode cL_law 583 = .ok (.iconst 0, 1) := by decide +kernel
theorem dL_law_584 : decode cL_law 584 = .ok (.ireturn, 1) := by decide +kernel
theorem dL_law_585 : decode cL_law 585 = .ok (.aload_n 1, 1) := by decide +kernel
theorem dL_law_586 : decode cL_law 586 = .ok (.aload_n 0, 1) := by decide +kernel
theorem dL_law_587 : decode cL_law 587 = .ok (.iload_n 3, 1) := by decide +kernel
theorem dL_law_588 : decode cL_law 588 = .ok (.iconst 1, 1) := by decide +kernel
theorem dL_law_589 : decode cL_law 589 = .ok (.iadd, 1) := by decide +kernel
theorem dL_law_590 : decode cL_law 590 = .ok (.iaload, 1) := by decide +kernel
theorem dL_law_591 : decode cL_law 591 = .ok (.aload_n 0, 1) := by decide +kernel
theorem dL_law_592 : decode cL_law 592 = .ok (.iload_n 3, 1) := by decide +kernel
theorem dL_law_593 : decode cL_law 593 = .ok (.iconst 2, 1) := by decide +kernel
theorem dL_law_594 : decode cL_law 594 = .ok (.iadd, 1) := by decide +kernel
theorem dL_law_595 : decode cL_law 595 = .ok (.iaload, 1) := by decide +kernel
theorem dL_law_596 : decode cL_law 596 = .ok (.invokevirtual 78, 3) := by decide +kernel
theorem dL_law_599 : decode cL_law 599 = .ok (.aload_n 2, 1) := by decide +kernel
theorem dL_law_600 : decode cL_law 600 = .ok (.aload_n 0, 1) := by decide +kernel
theorem dL_law_601 : decode cL_law 601 = .ok (.iload_n 3, 1) := by decide +kernel
theorem dL_law_602 : decode cL_law 602 = .ok (.iconst 1, 1) := by decide +kernel
theorem dL_law_603 : decode cL_law 603 = .ok (.iadd, 1) := by decide +kernel
theorem dL_law_604 : decode cL_law 604 = .ok (.iaload, 1) := by decide +kernel
theorem dL_law_605 : decode cL_law 605 = .ok (.aload_n 0, 1) := by decide +kernel
theorem dL_law_606 : decode cL_law 606 = .ok (.iload_n 3, 1) := by decide +kernel
theorem dL_law_607 : decode cL_law 607 = .ok (.iconst 2, 1) := by decide +kernel
theorem dL_law_608 : decode cL_law 608 = .ok (.iadd, 1) := by decide +kernel
theorem dL_law_609 : decode cL_law 609 = .ok (.iaload, 1) := by decide +kernel
theorem dL_law_610 : decode cL_law 610 = .ok (.invokevirtual 81, 3) := by decide +kernel
theorem dL_law_613 : decode cL_law 613 = .ok (.if_icmp .eq 457, 3) := by decide +kernel
theorem dL_law_616 : decode cL_law 616 = .ok (.iconst 0, 1) := by decide +kernel
theorem dL_law_617 : decode cL_law 617 = .ok (.ireturn, 1) := by decide +kernel
theorem dL_law_618 : decode cL_law 618 = .ok (.aload_n 1, 1) := by decide +kernel
theorem dL_law_619 : decode cL_law 619 = .ok (.invokevirtual 82, 3) := by decide +kernel
theorem dL_law_622 : decode cL_law 622 = .ok (.aload_n 2, 1) := by decide +kernel
theorem dL_law_623 : decode cL_law 623 = .ok (.invokevirtual 85, 3) := by decide +kernel
theorem dL_law_626 : decode cL_law 626 = .ok (.if_icmp .eq 444, 3) := by decide +kernel
theorem dL_law_629 : decode cL_law 629 = .ok (.iconst 0, 1) := by decide +kernel
theorem dL_law_630 : decode cL_law 630 = .ok (.ireturn, 1) := by decide +kernel
theorem dL_law_631 : decode cL_law 631 = .ok (.aload_n 1, 1) := by decide +kernel
theorem dL_law_632 : decode cL_law 632 = .ok (.aload_n 0, 1) := by decide +kernel
theorem dL_law_633 : decode cL_law 633 = .ok (.iload_n 3, 1) := by decide +kernel
theorem dL_law_634 : decode cL_law 634 = .ok (.iconst 1, 1) := by decide +kernel
theorem dL_law_635 : decode cL_law 635 = .ok (.iadd, 1) := by decide +kernel
theorem dL_law_636 : decode cL_law 636 = .ok (.iaload, 1) := by decide +kernel
theorem dL_law_637 : decode cL_law 637 = .ok (.invokevirtual 86, 3) := by decide +kernel
theorem dL_law_640 : decode cL_law 640 = .ok (.aload_n 2, 1) := by decide +kernel
theorem dL_law_641 : decode cL_law 641 = .ok (.aload_n 0, 1) := by decide +kernel
theorem dL_law_642 : decode cL_law 642 = .ok (.iload_n 3, 1) := by decide +kernel
theorem dL_law_643 : decode cL_law 643 = .ok (.iconst 1, 1) := by decide +kernel
theorem dL_law_644 : decode cL_law 644 = .ok (.iadd, 1) := by decide +kernel
theorem dL_law_645 : decode cL_law 645 = .ok (.iaload, 1) := by decide +kernel
theorem dL_law_646 : decode cL_law 646 = .ok (.invokevirtual 89, 3) := by decide +kernel
theorem dL_law_649 : decode cL_law 649 = .ok (.if_icmp .eq 421, 3) := by decide +kernel
theorem dL_law_652 : decode cL_law 652 = .ok (.iconst 0, 1) := by decide +kernel
theorem dL_law_653 : decode cL_law 653 = .ok (.ireturn, 1) := by decide +kernel
theorem dL_law_654 : decode cL_law 654 = .ok (.aload_n 1, 1) := by decide +kernel
theorem dL_law_655 : decode cL_law 655 = .ok (.aload_n 0, 1) := by decide +kernel
theorem dL_law_656 : decode cL_law 656 = .ok (.iload_n 3, 1) := by decide +kernel
theorem dL_law_657 : decode cL_law 657 = .ok (.iconst 1, 1) := by decide +kernel
theorem dL_law_658 : decode cL_law 658 = .ok (.iadd, 1) := by decide +kernel
theorem dL_law_659 : decode cL_law 659 = .ok (.iaload, 1) := by decide +kernel
theorem dL_law_660 : decode cL_law 660 = .ok (.invokevirtual 90, 3) := by decide +kernel
theorem dL_law_663 : decode cL_law 663 = .ok (.aload_n 2, 1) := by decide +kernel
theorem dL_law_664 : decode cL_law 664 = .ok (.aload_n 0, 1) := by decide +kernel
theorem dL_law_665 : decode cL_law 665 = .ok (.iload_n 3, 1) := by decide +kernel
theorem dL_law_666 : decode cL_law 666 = .ok (.iconst 1, 1) := by decide +kernel
theorem dL_law_667 : decode cL_law 667 = .ok (.iadd, 1) := by decide +kernel
theorem dL_law_668 : decode cL_law 668 = .ok (.iaload, 1) := by decide +kernel
theorem dL_law_669 : decode cL_law 669 = .ok (.invokevirtual 93, 3) := by decide +kernel
theorem dL_law_672 : decode cL_law 672 = .ok (.if_icmp .eq 398, 3) := by decide +kernel
theorem dL_law_675 : decode cL_law 675 = .ok (.iconst 0, 1) := by decide +kernel
theorem dL_law_676 : decode cL_law 676 = .ok (.ireturn, 1) := by decide +kernel
theorem dL_law_677 : decode cL_law 677 = .ok (.aload_n 1, 1) := by decide +kernel
theorem dL_law_678 : decode cL_law 678 = .ok (.aload_n 0, 1) := by decide +kernel
theorem dL_law_679 : decode cL_law 679 = .ok (.iload_n 3, 1) := by decide +kernel
theorem dL_law_680 : decode cL_law 680 = .ok (.iconst 1, 1) := by decide +kernel
theorem dL_law_681 : decode cL_law 681 = .ok (.iadd, 1) := by decide +kernel
theorem dL_law_682 : decode cL_law 682 = .ok (.iaload, 1) := by decide +kernel
theorem dL_law_683 : decode cL_law 683 = .ok (.invokevirtual 94, 3) := by decide +kernel
theorem dL_law_686 : decode cL_law 686 = .ok (.aload_n 2, 1) := by decide +kernel
theorem dL_law_687 : decode cL_law 687 = .ok (.aload_n 0, 1) := by decide +kernel
theorem dL_law_688 : decode cL_law 688 = .ok (.iload_n 3, 1) := by decide +kernel
theorem dL_law_689 : decode cL_law 689 = .ok (.iconst 1, 1) := by decide +kernel
theorem dL_law_690 : decode cL_law 690 = .ok (.iadd, 1) := by decide +kernel
theorem dL_law_691 : decode cL_law 691 = .ok (.iaload, 1) := by decide +kernel
theorem dL_law_692 : decode cL_law 692 = .ok (.invokevirtual 97, 3) := by decide +kernel
theorem dL_law_695 : decode cL_law 695 = .ok (.if_icmp .eq 375, 3) := by decide +kernel
theorem dL_law_698 : decode cL_law 698 = .ok (.iconst 0, 1) := by decide +kernel
theorem dL_law_699 : decode cL_law 699 = .ok (.ireturn, 1) := by decide +kernel
theorem dL_law_700 : decode cL_law 700 = .ok (.aload_n 1, 1) := by decide +kernel
theorem dL_law_701 : decode cL_law 701 = .ok (.aload_n 0, 1) := by decide +kernel
theorem dL_law_702 : decode cL_law 702 = .ok (.iload_n 3, 1) := by decide +kernel
theorem dL_law_703 : decode cL_law 703 = .ok (.iconst 1, 1) := by decide +kernel
theorem dL_law_704 : decode cL_law 704 = .ok (.iadd, 1) := by decide +kernel
theorem dL_law_705 : decode cL_law 705 = .ok (.iaload, 1) := by decide +kernel
theorem dL_law_706 : decode cL_law 706 = .ok (.invokevirtual 98, 3) := by decide +kernel
theorem dL_law_709 : decode cL_law 709 = .ok (.aload_n 2, 1) := by decide +kernel
theorem dL_law_710 : decode cL_law 710 = .ok (.aload_n 0, 1) := by decide +kernel
theorem dL_law_711 : decode cL_law 711 = .ok (.iload_n 3, 1) := by decide +kernel
theorem dL_law_712 : decode cL_law 712 = .ok (.iconst 1, 1) := by decide +kernel
theorem dL_law_713 : decode cL_law 713 = .ok (.iadd, 1) := by decide +kernel
theorem dL_law_714 : decode cL_law 714 = .ok (.iaload, 1) := by decide +kernel
theorem dL_law_715 : decode cL_law 715 = .ok (.invokevirtual 101, 3) := by decide +kernel
theorem dL_law_718 : decode cL_law 718 = .ok (.if_icmp .eq 352, 3) := by decide +kernel
theorem dL_law_721 : decode cL_law 721 = .ok (.iconst 0, 1) := by decide +kernel
theorem dL_law_722 : decode cL_law 722 = .ok (.ireturn, 1) := by decide +kernel
theorem dL_law_723 : decode cL_law 723 = .ok (.aload_n 1, 1) := by decide +kernel
theorem dL_law_724 : decode cL_law 724 = .ok (.invokevirtual 102, 3) := by decide +kernel
theorem dL_law_727 : decode cL_law 727 = .ok (.aload_n 2, 1) := by decide +kernel
theorem dL_law_728 : decode cL_law 728 = .ok (.invokevirtual 105, 3) := by decide +kernel
theorem dL_law_731 : decode cL_law 731 = .ok (.if_icmp .eq 339, 3) := by decide +kernel
theorem dL_law_734 : decode cL_law 734 = .ok (.iconst 0, 1) := by decide +kernel
theorem dL_law_735 : decode cL_law 735 = .ok (.ireturn, 1) := by decide +kernel
theorem dL_law_736 : decode cL_law 736 = .ok (.aload_n 1, 1) := by decide +kernel
theorem dL_law_737 : decode cL_law 737 = .ok (.aload_n 0, 1) := by decide +kernel
theorem dL_law_738 : decode cL_law 738 = .ok (.iload_n 3, 1) := by decide +kernel
theorem dL_law_739 : decode cL_law 739 = .ok (.iconst 1, 1) := by decide +kernel
theorem dL_law_740 : decode cL_law 740 = .ok (.iadd, 1) := by decide +kernel
theorem dL_law_741 : decode cL_law 741 = .ok (.iaload, 1) := by decide +kernel
theorem dL_law_742 : decode cL_law 742 = .ok (.aload_n 0, 1) := by decide +kernel
theorem dL_law_743 : decode cL_law 743 = .ok (.iload_n 3, 1) := by decide +kernel
theorem dL_law_744 : decode cL_law 744 = .ok (.iconst 2, 1) := by decide +kernel
theorem dL_law_745 : decode cL_law 745 = .ok (.iadd, 1) := by decide +kernel
theorem dL_law_746 : decode cL_law 746 = .ok (.iaload, 1) := by decide +kernel
theorem dL_law_747 : decode cL_law 747 = .ok (.aload_n 0, 1) := by decide +kernel
theorem dL_law_748 : decode cL_law 748 = .ok (.iload_n 3, 1) := by decide +kernel
theorem dL_law_749 : decode cL_law 749 = .ok (.iconst 3, 1) := by decide +kernel
theorem dL_law_750 : decode cL_law 750 = .ok (.iadd, 1) := by decide +kernel
theorem dL_law_751 : decode cL_law 751 = .ok (.iaload, 1) := by decide +kernel
theorem dL_law_752 : decode cL_law 752 = .ok (.aload_n 0, 1) := by decide +kernel
theorem dL_law_753 : decode cL_law 753 = .ok (.iload_n 3, 1) := by decide +kernel
theorem dL_law_754 : decode cL_law 754 = .ok (.iconst 4, 1) := by decide +kernel
theorem dL_law_755 : decode cL_law 755 = .ok (.iadd, 1) := by decide +kernel
theorem dL_law_756 : decode cL_law 756 = .ok (.iaload, 1) := by decide +kernel
theorem dL_law_757 : decode cL_law 757 = .ok (.aload_n 0, 1) := by decide +kernel
theorem dL_law_758 : decode cL_law 758 = .ok (.iload_n 3, 1) := by decide +kernel
theorem dL_law_759 : decode cL_law 759 = .ok (.iconst 5, 1) := by decide +kernel
theorem dL_law_760 : decode cL_law 760 = .ok (.iadd, 1) := by decide +kernel
theorem dL_law_761 : decode cL_law 761 = .ok (.iaload, 1) := by decide +kernel
theorem dL_law_762 : decode cL_law 762 = .ok (.invokevirtual 106, 3) := by decide +kernel
theorem dL_law_765 : decode cL_law 765 = .ok (.aload_n 2, 1) := by decide +kernel
theorem dL_law_766 : decode cL_law 766 = .ok (.aload_n 0, 1) := by decide +kernel
theorem dL_law_767 : decode cL_law 767 = .ok (.iload_n 3, 1) := by decide +kernel
theorem dL_law_768 : decode cL_law 768 = .ok (.iconst 1, 1) := by decide +kernel
theorem dL_law_769 : decode cL_law 769 = .ok (.iadd, 1) := by decide +kernel
theorem dL_law_770 : decode cL_law 770 = .ok (.iaload, 1) := by decide +kernel
theorem dL_law_771 : decode cL_law 771 = .ok (.aload_n 0, 1) := by decide +kernel
theorem dL_law_772 : decode cL_law 772 = .ok (.iload_n 3, 1) := by decide +kernel
theorem dL_law_773 : decode cL_law 773 = .ok (.iconst 2, 1) := by decide +kernel
theorem dL_law_774 : decode cL_law 774 = .ok (.iadd, 1) := by decide +kernel
theorem dL_law_775 : decode cL_law 775 = .ok (.iaload, 1) := by decide +kernel
theorem dL_law_776 : decode cL_law 776 = .ok (.aload_n 0, 1) := by decide +kernel
theorem dL_law_777 : decode cL_law 777 = .ok (.iload_n 3, 1) := by decide +kernel
theorem dL_law_778 : decode cL_law 778 = .ok (.iconst 3, 1) := by decide +kernel
theorem dL_law_779 : decode cL_law 779 = .ok (.iadd, 1) := by decide +kernel
theorem dL_law_780 : decode cL_law 780 = .ok (.iaload, 1) := by decide +kernel
theorem dL_law_781 : decode cL_law 781 = .ok (.aload_n 0, 1) := by decide +kernel
theorem dL_law_782 : decode cL_law 782 = .ok (.iload_n 3, 1) := by decide +kernel
theorem dL_law_783 : decode cL_law 783 = .ok (.iconst 4, 1) := by decide +kernel
theorem dL_law_784 : decode cL_law 784 = .ok (.iadd, 1) := by decide +kernel
theorem dL_law_785 : decode cL_law 785 = .ok (.iaload, 1) := by decide +kernel
theorem dL_law_786 : decode cL_law 786 = .ok (.aload_n 0, 1) := by decide +kernel
theorem dL_law_787 : decode cL_law 787 = .ok (.iload_n 3, 1) := by decide +kernel
theorem dL_law_788 : decode cL_law 788 = .ok (.iconst 5, 1) := by decide +kernel
theorem dL_law_789 : decode cL_law 789 = .ok (.iadd, 1) := by decide +kernel
theorem dL_law_790 : decode cL_law 790 = .ok (.iaload, 1) := by decide +kernel
theorem dL_law_791 : decode cL_law 791 = .ok (.invokevirtual 109, 3) := by decide +kernel
theorem dL_law_794 : decode cL_law 794 = .ok (.if_icmp .eq 276, 3) := by decide +kernel
theorem dL_law_797 : decode cL_law 797 = .ok (.iconst 0, 1) := by decide +kernel
theorem dL_law_798 : decode cL_law 798 = .ok (.ireturn, 1) := by decide +kernel
theorem dL_law_799 : decode cL_law 799 = .ok (.aload_n 1, 1) := by decide +kernel
theorem dL_law_800 : decode cL_law 800 = .ok (.aload_n 0, 1) := by decide +kernel
theorem dL_law_801 : decode cL_law 801 = .ok (.iload_n 3, 1) := by decide +kernel
theorem dL_law_802 : decode cL_law 802 = .ok (.iconst 1, 1) := by decide +kernel
theorem dL_law_803 : decode cL_law 803 = .ok (.iadd, 1) := by decide +kernel
theorem dL_law_804 : decode cL_law 804 = .ok (.iaload, 1) := by decide +kernel
theorem dL_law_805 : decode cL_law 805 = .ok (.aload_n 0, 1) := by decide +kernel
theorem dL_law_806 : decode cL_law 806 = .ok (.iload_n 3, 1) := by decide +kernel
theorem dL_law_807 : decode cL_law 807 = .ok (.iconst 2, 1) := by decide +kernel
theorem dL_law_808 : decode cL_law 808 = .ok (.iadd, 1) := by decide +kernel
theorem dL_law_809 : decode cL_law 809 = .ok (.iaload, 1) := by decide +kernel
theorem dL_law_810 : decode cL_law 810 = .ok (.invokevirtual 110, 3) := by decide +kernel
theorem dL_law_813 : decode cL_law 813 = .ok (.aload_n 2, 1) := by decide +kernel
theorem dL_law_814 : decode cL_law 814 = .ok (.aload_n 0, 1) := by decide +kernel
theorem dL_law_815 : decode cL_law 815 = .ok (.iload_n 3, 1) := by decide +kernel
theorem dL_law_816 : decode cL_law 816 = .ok (.iconst 1, 1) := by decide +kernel
theorem dL_law_817 : decode cL_law 817 = .ok (.iadd, 1) := by decide +kernel
theorem dL_law_818 : decode cL_law 818 = .ok (.iaload, 1) := by decide +kernel
theorem dL_law_819 : decode cL_law 819 = .ok (.aload_n 0, 1) := by decide +kernel
theorem dL_law_820 : decode cL_law 820 = .ok (.iload_n 3, 1) := by decide +kernel
theorem dL_law_821 : decode cL_law 821 = .ok (.iconst 2, 1) := by decide +kernel
theorem dL_law_822 : decode cL_law 822 = .ok (.iadd, 1) := by decide +kernel
theorem dL_law_823 : decode cL_law 823 = .ok (.iaload, 1) := by decide +kernel
theorem dL_law_824 : decode cL_law 824 = .ok (.invokevirtual 114, 3) := by decide +kernel
theorem dL_law_827 : decode cL_law 827 = .ok (.lcmp, 1) := by decide +kernel
theorem dL_law_828 : decode cL_law 828 = .ok (.ifCond .eq 242, 3) := by decide +kernel
theorem dL_law_831 : decode cL_law 831 = .ok (.iconst 0, 1) := by decide +kernel
theorem dL_law_832 : decode cL_law 832 = .ok (.ireturn, 1) := by decide +kernel
theorem dL_law_833 : decode cL_law 833 = .ok (.aload_n 1, 1) := by decide +kernel
theorem dL_law_834 : decode cL_law 834 = .ok (.aload_n 0, 1) := by decide +kernel
theorem dL_law_835 : decode cL_law 835 = .ok (.iload_n 3, 1) := by decide +kernel
theorem dL_law_836 : decode cL_law 836 = .ok (.iconst 1, 1) := by decide +kernel
theorem dL_law_837 : decode cL_law 837 = .ok (.iadd, 1) := by decide +kernel
theorem dL_law_838 : decode cL_law 838 = .ok (.iaload, 1) := by decide +kernel
theorem dL_law_839 : decode cL_law 839 = .ok (.aload_n 0, 1) := by decide +kernel
theorem dL_law_840 : decode cL_law 840 = .ok (.iload_n 3, 1) := by decide +kernel
theorem dL_law_841 : decode cL_law 841 = .ok (.iconst 2, 1) := by decide +kernel
theorem dL_law_842 : decode cL_law 842 = .ok (.iadd, 1) := by decide +kernel
theorem dL_law_843 : decode cL_law 843 = .ok (.iaload, 1) := by decide +kernel
theorem dL_law_844 : decode cL_law 844 = .ok (.aload_n 0, 1) := by decide +kernel
theorem dL_law_845 : decode cL_law 845 = .ok (.iload_n 3, 1) := by decide +kernel
theorem dL_law_846 : decode cL_law 846 = .ok (.iconst 3, 1) := by decide +kernel
theorem dL_law_847 : decode cL_law 847 = .ok (.iadd, 1) := by decide +kernel
theorem dL_law_848 : decode cL_law 848 = .ok (.iaload, 1) := by decide +kernel
theorem dL_law_849 : decode cL_law 849 = .ok (.invokevirtual 115, 3) := by decide +kernel
theorem dL_law_852 : decode cL_law 852 = .ok (.aload_n 2, 1) := by decide +kernel
theorem dL_law_853 : decode cL_law 853 = .ok (.aload_n 0, 1) := by decide +kernel
theorem dL_law_854 : decode cL_law 854 = .ok (.iload_n 3, 1) := by decide +kernel
theorem dL_law_855 : decode cL_law 855 = .ok (.iconst 1, 1) := by decide +kernel
theorem dL_law_856 : decode cL_law 856 = .ok (.iadd, 1) := by decide +kernel
theorem dL_law_857 : decode cL_law 857 = .ok (.iaload, 1) := by decide +kernel
theorem dL_law_858 : decode cL_law 858 = .ok (.aload_n 0, 1) := by decide +kernel
theorem dL_law_859 : decode cL_law 859 = .ok (.iload_n 3, 1) := by decide +kernel
theorem dL_law_860 : decode cL_law 860 = .ok (.iconst 2, 1) := by decide +kernel
theorem dL_law_861 : decode cL_law 861 = .ok (.iadd, 1) := by decide +kernel
theorem dL_law_862 : decode cL_law 862 = .ok (.iaload, 1) := by decide +kernel
theorem dL_law_863 : decode cL_law 863 = .ok (.aload_n 0, 1) := by decide +kernel
theorem dL_law_864 : decode cL_law 864 = .ok (.iload_n 3, 1) := by decide +kernel
theorem dL_law_865 : decode cL_law 865 = .ok (.iconst 3, 1) := by decide +kernel
theorem dL_law_866 : decode cL_law 866 = .ok (.iadd, 1) := by decide +kernel
theorem dL_law_867 : decode cL_law 867 = .ok (.iaload, 1) := by decide +kernel
theorem dL_law_868 : decode cL_law 868 = .ok (.invokevirtual 118, 3) := by decide +kernel
theorem dL_law_871 : decode cL_law 871 = .ok (.if_icmp .eq 199, 3) := by decide +kernel
theorem dL_law_874 : decode cL_law 874 = .ok (.iconst 0, 1) := by decide +kernel
theorem dL_law_875 : decode cL_law 875 = .ok (.ireturn, 1) := by decide +kernel
theorem dL_law_876 : decode cL_law 876 = .ok (.aload_n 1, 1) := by decide +kernel
theorem dL_law_877 : decode cL_law 877 = .ok (.aload_n 0, 1) := by decide +kernel
theorem dL_law_878 : decode cL_law 878 = .ok (.iload_n 3, 1) := by decide +kernel
theorem dL_law_879 : decode cL_law 879 = .ok (.iconst 1, 1) := by decide +kernel
theorem dL_law_880 : decode cL_law 880 = .ok (.iadd, 1) := by decide +kernel
theorem dL_law_881 : decode cL_law 881 = .ok (.iaload, 1) := by decide +kernel
theorem dL_law_882 : decode cL_law 882 = .ok (.invokevirtual 119, 3) := by decide +kernel
theorem dL_law_885 : decode cL_law 885 = .ok (.aload_n 2, 1) := by decide +kernel
theorem dL_law_886 : decode cL_law 886 = .ok (.aload_n 0, 1) := by decide +kernel
theorem dL_law_887 : decode cL_law 887 = .ok (.iload_n 3, 1) := by decide +kernel
theorem dL_law_888 : decode cL_law 888 = .ok (.iconst 1, 1) := by decide +kernel
theorem dL_law_889 : decode cL_law 889 = .ok (.iadd, 1) := by decide +kernel
theorem dL_law_890 : decode cL_law 890 = .ok (.iaload, 1) := by decide +kernel
theorem dL_law_891 : decode cL_law 891 = .ok (.invokevirtual 122, 3) := by decide +kernel
theorem dL_law_894 : decode cL_law 894 = .ok (.if_icmp .eq 176, 3) := by decide +kernel
theorem dL_law_897 : decode cL_law 897 = .ok (.iconst 0, 1) := by decide +kernel
theorem dL_law_898 : decode cL_law 898 = .ok (.ireturn, 1) := by decide +kernel
theorem dL_law_899 : decode cL_law 899 = .ok (.aload_n 1, 1) := by decide +kernel
theorem dL_law_900 : decode cL_law 900 = .ok (.aload_n 0, 1) := by decide +kernel
theorem dL_law_901 : decode cL_law 901 = .ok (.iload_n 3, 1) := by decide +kernel
theorem dL_law_902 : decode cL_law 902 = .ok (.iconst 1, 1) := by decide +kernel
theorem dL_law_903 : decode cL_law 903 = .ok (.iadd, 1) := by decide +kernel
theorem dL_law_904 : decode cL_law 904 = .ok (.iaload, 1) := by decide +kernel
theorem dL_law_905 : decode cL_law 905 = .ok (.invokevirtual 123, 3) := by decide +kernel
theorem dL_law_908 : decode cL_law 908 = .ok (.aload_n 2, 1) := by decide +kernel
theorem dL_law_909 : decode cL_law 909 = .ok (.aload_n 0, 1) := by decide +kernel
theorem dL_law_910 : decode cL_law 910 = .ok (.iload_n 3, 1) := by decide +kernel
theorem dL_law_911 : decode cL_law 911 = .ok (.iconst 1, 1) := by decide +kernel
theorem dL_law_912 : decode cL_law 912 = .ok (.iadd, 1) := by decide +kernel
theorem dL_law_913 : decode cL_law 913 = .ok (.iaload, 1) := by decide +kernel
theorem dL_law_914 : decode cL_law 914 = .ok (.invokevirtual 126, 3) := by decide +kernel
theorem dL_law_917 : decode cL_law 917 = .ok (.if_icmp .eq 153, 3) := by decide +kernel
theorem dL_law_920 : decode cL_law 920 = .ok (.iconst 0, 1) := by decide +kernel
theorem dL_law_921 : decode cL_law 921 = .ok (.ireturn, 1) := by decide +kernel
theorem dL_law_922 : decode cL_law 922 = .ok (.aload_n 1, 1) := by decide +kernel
theorem dL_law_923 : decode cL_law 923 = .ok (.aload_n 0, 1) := by decide +kernel
theorem dL_law_924 : decode cL_law 924 = .ok (.iload_n 3, 1) := by decide +kernel
theorem dL_law_925 : decode cL_law 925 = .ok (.iconst 1, 1) := by decide +kernel
theorem dL_law_926 : decode cL_law 926 = .ok (.iadd, 1) := by decide +kernel
theorem dL_law_927 : decode cL_law 927 = .ok (.iaload, 1) := by decide +kernel
theorem dL_law_928 : decode cL_law 928 = .ok (.invokevirtual 127, 3) := by decide +kernel
theorem dL_law_931 : decode cL_law 931 = .ok (.aload_n 2, 1) := by decide +kernel
theorem dL_law_932 : decode cL_law 932 = .ok (.aload_n 0, 1) := by decide +kernel
theorem dL_law_933 : decode cL_law 933 = .ok (.iload_n 3, 1) := by decide +kernel
theorem dL_law_934 : decode cL_law 934 = .ok (.iconst 1, 1) := by decide +kernel
theorem dL_law_935 : decode cL_law 935 = .ok (.iadd, 1) := by decide +kernel
theorem dL_law_936 : decode cL_law 936 = .ok (.iaload, 1) := by decide +kernel
theorem dL_law_937 : decode cL_law 937 = .ok (.invokevirtual 130, 3) := by decide +kernel
theorem dL_law_940 : decode cL_law 940 = .ok (.if_icmp .eq 130, 3) := by decide +kernel
theorem dL_law_943 : decode cL_law 943 = .ok (.iconst 0, 1) := by decide +kernel
theorem dL_law_944 : decode cL_law 944 = .ok (.ireturn, 1) := by decide +kernel
theorem dL_law_945 : decode cL_law 945 = .ok (.aload_n 1, 1) := by decide +kernel
theorem dL_law_946 : decode cL_law 946 = .ok (.aload_n 0, 1) := by decide +kernel
theorem dL_law_947 : decode cL_law 947 = .ok (.iload_n 3, 1) := by decide +kernel
theorem dL_law_948 : decode cL_law 948 = .ok (.iconst 1, 1) := by decide +kernel
theorem dL_law_949 : decode cL_law 949 = .ok (.iadd, 1) := by decide +kernel
theorem dL_law_950 : decode cL_law 950 = .ok (.iaload, 1) := by decide +kernel
theorem dL_law_951 : decode cL_law 951 = .ok (.aload_n 0, 1) := by decide +kernel
theorem dL_law_952 : decode cL_law 952 = .ok (.iload_n 3, 1) := by decide +kernel
theorem dL_law_953 : decode cL_law 953 = .ok (.iconst 2, 1) := by decide +kernel
theorem dL_law_954 : decode cL_law 954 = .ok (.iadd, 1) := by decide +kernel
theorem dL_law_955 : decode cL_law 955 = .ok (.iaload, 1) := by decide +kernel
theorem dL_law_956 : decode cL_law 956 = .ok (.invokevirtual 131, 3) := by decide +kernel
theorem dL_law_959 : decode cL_law 959 = .ok (.aload_n 2, 1) := by decide +kernel
theorem dL_law_960 : decode cL_law 960 = .ok (.aload_n 0, 1) := by decide +kernel
theorem dL_law_961 : decode cL_law 961 = .ok (.iload_n 3, 1) := by decide +kernel
theorem dL_law_962 : decode cL_law 962 = .ok (.iconst 1, 1) := by decide +kernel
theorem dL_law_963 : decode cL_law 963 = .ok (.iadd, 1) := by decide +kernel
theorem dL_law_964 : decode cL_law 964 = .ok (.iaload, 1) := by decide +kernel
theorem dL_law_965 : decode cL_law 965 = .ok (.aload_n 0, 1) := by decide +kernel
theorem dL_law_966 : decode cL_law 966 = .ok (.iload_n 3, 1) := by decide +kernel
theorem dL_law_967 : decode cL_law 967 = .ok (.iconst 2, 1) := by decide +kernel
theorem dL_law_968 : decode cL_law 968 = .ok (.iadd, 1) := by decide +kernel
theorem dL_law_969 : decode cL_law 969 = .ok (.iaload, 1) := by decide +kernel
theorem dL_law_970 : decode cL_law 970 = .ok (.invokevirtual 134, 3) := by decide +kernel
theorem dL_law_973 : decode cL_law 973 = .ok (.if_icmp .eq 97, 3) := by decide +kernel
theorem dL_law_976 : decode cL_law 976 = .ok (.iconst 0, 1) := by decide +kernel
theorem dL_law_977 : decode cL_law 977 = .ok (.ireturn, 1) := by decide +kernel
theorem dL_law_978 : decode cL_law 978 = .ok (.aload_n 1, 1) := by decide +kernel
theorem dL_law_979 : decode cL_law 979 = .ok (.aload_n 0, 1) := by decide +kernel
theorem dL_law_980 : decode cL_law 980 = .ok (.iload_n 3, 1) := by decide +kernel
theorem dL_law_981 : decode cL_law 981 = .ok (.iconst 1, 1) := by decide +kernel
theorem dL_law_982 : decode cL_law 982 = .ok (.iadd, 1) := by decide +kernel
theorem dL_law_983 : decode cL_law 983 = .ok (.iaload, 1) := by decide +kernel
theorem dL_law_984 : decode cL_law 984 = .ok (.aload_n 0, 1) := by decide +kernel
theorem dL_law_985 : decode cL_law 985 = .ok (.iload_n 3, 1) := by decide +kernel
theorem dL_law_986 : decode cL_law 986 = .ok (.iconst 2, 1) := by decide +kernel
theorem dL_law_987 : decode cL_law 987 = .ok (.iadd, 1) := by decide +kernel
theorem dL_law_988 : decode cL_law 988 = .ok (.iaload, 1) := by decide +kernel
theorem dL_law_989 : decode cL_law 989 = .ok (.invokevirtual 135, 3) := by decide +kernel
theorem dL_law_992 : decode cL_law 992 = .ok (.aload_n 2, 1) := by decide +kernel
theorem dL_law_993 : decode cL_law 993 = .ok (.aload_n 0, 1) := by decide +kernel
theorem dL_law_994 : decode cL_law 994 = .ok (.iload_n 3, 1) := by decide +kernel
theorem dL_law_995 : decode cL_law 995 = .ok (.iconst 1, 1) := by decide +kernel
theorem dL_law_996 : decode cL_law 996 = .ok (.iadd, 1) := by decide +kernel
theorem dL_law_997 : decode cL_law 997 = .ok (.iaload, 1) := by decide +kernel
theorem dL_law_998 : decode cL_law 998 = .ok (.aload_n 0, 1) := by decide +kernel
theorem dL_law_999 : decode cL_law 999 = .ok (.iload_n 3, 1) := by decide +kernel
theorem dL_law_1000 : decode cL_law 1000 = .ok (.iconst 2, 1) := by decide +kernel
theorem dL_law_1001 : decode cL_law 1001 = .ok (.iadd, 1) := by decide +kernel
theorem dL_law_1002 : decode cL_law 1002 = .ok (.iaload, 1) := by decide +kernel
theorem dL_law_1003 : decode cL_law 1003 = .ok (.invokevirtual 138, 3) := by decide +kernel
theorem dL_law_1006 : decode cL_law 1006 = .ok (.if_icmp .eq 64, 3) := by decide +kernel
theorem dL_law_1009 : decode cL_law 1009 = .ok (.iconst 0, 1) := by decide +kernel
theorem dL_law_1010 : decode cL_law 1010 = .ok (.ireturn, 1) := by decide +kernel
theorem dL_law_1011 : decode cL_law 1011 = .ok (.aload_n 1, 1) := by decide +kernel
theorem dL_law_1012 : decode cL_law 1012 = .ok (.aload_n 0, 1) := by decide +kernel
theorem dL_law_1013 : decode cL_law 1013 = .ok (.iload_n 3, 1) := by decide +kernel
theorem dL_law_1014 : decode cL_law 1014 = .ok (.iconst 1, 1) := by decide +kernel
theorem dL_law_1015 : decode cL_law 1015 = .ok (.iadd, 1) := by decide +kernel
theorem dL_law_1016 : decode cL_law 1016 = .ok (.iaload, 1) := by decide +kernel
theorem dL_law_1017 : decode cL_law 1017 = .ok (.invokevirtual 139, 3) := by decide +kernel
theorem dL_law_1020 : decode cL_law 1020 = .ok (.aload_n 2, 1) := by decide +kernel
theorem dL_law_1021 : decode cL_law 1021 = .ok (.aload_n 0, 1) := by decide +kernel
theorem dL_law_1022 : decode cL_law 1022 = .ok (.iload_n 3, 1) := by decide +kernel
theorem dL_law_1023 : decode cL_law 1023 = .ok (.iconst 1, 1) := by decide +kernel
theorem dL_law_1024 : decode cL_law 1024 = .ok (.iadd, 1) := by decide +kernel
theorem dL_law_1025 : decode cL_law 1025 = .ok (.iaload, 1) := by decide +kernel
theorem dL_law_1026 : decode cL_law 1026 = .ok (.invokevirtual 142, 3) := by decide +kernel
theorem dL_law_1029 : decode cL_law 1029 = .ok (.if_icmp .eq 41, 3) := by decide +kernel
theorem dL_law_1032 : decode cL_law 1032 = .ok (.iconst 0, 1) := by decide +kernel
theorem dL_law_1033 : decode cL_law 1033 = .ok (.ireturn, 1) := by decide +kernel
theorem dL_law_1034 : decode cL_law 1034 = .ok (.aload_n 1, 1) := by decide +kernel
theorem dL_law_1035 : decode cL_law 1035 = .ok (.aload_n 0, 1) := by decide +kernel
theorem dL_law_1036 : decode cL_law 1036 = .ok (.iload_n 3, 1) := by decide +kernel
theorem dL_law_1037 : decode cL_law 1037 = .ok (.iconst 1, 1) := by decide +kernel
theorem dL_law_1038 : decode cL_law 1038 = .ok (.iadd, 1) := by decide +kernel
theorem dL_law_1039 : decode cL_law 1039 = .ok (.iaload, 1) := by decide +kernel
theorem dL_law_1040 : decode cL_law 1040 = .ok (.invokevirtual 143, 3) := by decide +kernel
theorem dL_law_1043 : decode cL_law 1043 = .ok (.aload_n 2, 1) := by decide +kernel
theorem dL_law_1044 : decode cL_law 1044 = .ok (.aload_n 0, 1) := by decide +kernel
theorem dL_law_1045 : decode cL_law 1045 = .ok (.iload_n 3, 1) := by decide +kernel
theorem dL_law_1046 : decode cL_law 1046 = .ok (.iconst 1, 1) := by decide +kernel
theorem dL_law_1047 : decode cL_law 1047 = .ok (.iadd, 1) := by decide +kernel
theorem dL_law_1048 : decode cL_law 1048 = .ok (.iaload, 1) := by decide +kernel
theorem dL_law_1049 : decode cL_law 1049 = .ok (.invokevirtual 146, 3) := by decide +kernel
theorem dL_law_1052 : decode cL_law 1052 = .ok (.if_icmp .eq 18, 3) := by decide +kernel
theorem dL_law_1055 : decode cL_law 1055 = .ok (.iconst 0, 1) := by decide +kernel
theorem dL_law_1056 : decode cL_law 1056 = .ok (.ireturn, 1) := by decide +kernel
theorem dL_law_1057 : decode cL_law 1057 = .ok (.aload_n 1, 1) := by decide +kernel
theorem dL_law_1058 : decode cL_law 1058 = .ok (.invokevirtual 147, 3) := by decide +kernel
theorem dL_law_1061 : decode cL_law 1061 = .ok (.aload_n 2, 1) := by decide +kernel
theorem dL_law_1062 : decode cL_law 1062 = .ok (.invokevirtual 150, 3) := by decide +kernel
theorem dL_law_1065 : decode cL_law 1065 = .ok (.if_icmp .eq 5, 3) := by decide +kernel
theorem dL_law_1068 : decode cL_law 1068 = .ok (.iconst 0, 1) := by decide +kernel
theorem dL_law_1069 : decode cL_law 1069 = .ok (.ireturn, 1) := by decide +kernel
theorem dL_law_1070 : decode cL_law 1070 = .ok (.iinc 3 6, 3) := by decide +kernel
theorem dL_law_1073 : decode cL_law 1073 = .ok (.goto (-1055), 3) := by decide +kernel
theorem dL_law_1076 : decode cL_law 1076 = .ok (.iconst 1, 1) := by decide +kernel
theorem dL_law_1077 : decode cL_law 1077 = .ok (.ireturn, 1) := by decide +kernel
end
section
/-! The plain machine: values are whole numbers and places of cells; a state is a memory of numbers (cell, place), and what shapes and references the cells have. A judgement AW over it gives the kit's W. -/
abbrev AV : Type := (Bool × Int) ⊕ Option Nat
abbrev vI (i : Int) : AV := .inl (false, i)
abbrev vL (i : Int) : AV := .inl (true, i)
abbrev vQ (r : Option Nat) : AV := .inr r
abbrev vR (a : Nat) : AV := .inr (some a)
/-- how many cells there are, each one's kind and size, the references -/
abbrev Tp : Type := Nat × (Nat → Nat × Nat) × (Nat → Int → Option Nat)
abbrev Mem : Type := Nat → Int → Int
/-- the heap at the law's start; numbers of kinds and slots; array kinds; the four given rows: where, shape, contents -/
abbrev GX : Type := Heap × va_G × (Nat → ClassId) × (Nat → Nat) × (Nat → Nat × Nat) × (Nat → Int → Int)
/-- a method: name, code, locals, answer, its owner, frames, words -/
abbrev MI : Type := MethodName × ByteArray × Nat × Option FieldType × String × Nat × Nat
def WS : List Cond := lw_tbl.filter goodWord
def rho (G : GX) (a : Nat) : Nat := if a < 1000000 then G.1.size + a else G.2.2.2.1 a
def am_cls (G : GX) (k : Nat) : ClassId := if k < 20 then G.2.1.1 k else G.2.2.1 k
def am_pos (G : GX) (k j : Nat) : Nat := if k < 20 then G.2.1.2 k j else j
/-- which fields are references -/
def am_isR (k : Nat) (j : Nat) : Bool := match k with
  | 0 => j == 0
  | 1 => decide (j < 2)
  | 2 => decide (j < 5) || j == 6
  | 3 => true
  | 4 => j == 0
  | 5 => j == 0
  | 6 => true
  | 7 => decide (j < 2)
  | 8 => decide (4 < j)
  | 9 => decide (j < 2) || (decide (2 < j) && decide (j < 11))
  | 10 => decide (j < 4) || j == 5 || (decide (12 < j) && decide (j < 16)) || j == 16 || j == 18 || j == 19 || j == 20 || j == 21 || j == 22 || j == 26
  | 23 => true
  | 24 => true
  | _ => false
def cvr (G : GX) (v : AV) (c : Value) : Prop := match v with
  | .inl (false, i) => ∃ x : Int32, c = .int x ∧ x.toInt = i
  | .inl (true, i) => ∃ x : Int64, c = .long x ∧ x.toInt = i
  | .inr r => c = va_rf (r.map (rho G))
def SR (G : GX) : List AV → List Value → Prop
  | [], [] => True
  | v :: vs, c :: cs => cvr G v c ∧ SR G vs cs
  | _, _ => False
def LR (G : GX) (n : Nat) (ls : List (Option AV)) (lsC : Array Slot) : Prop := lsC.size = n ∧ lv_wf lsC ∧ ∀ (i : Nat) (v : AV), ls[i]? = some (some v) → ∃ c, lsC[i]? = some (.val c) ∧ cvr G v c
/-- one slot of a cell -/
def am_sl (G : GX) (t : Tp) (h : Mem) (a : Nat) (j : Nat) (v : Value) : Prop :=
  (am_isR (t.2.1 a).1 j = true → v = va_rf ((t.2.2 a (j : Int)).map (rho G))) ∧ (am_isR (t.2.1 a).1 j = false → ∃ x : Int32, v = .int x ∧ x.toInt = h a (j : Int))
def cok (G : GX) (t : Tp) (h : Mem) (a : Nat) (H : Heap) : Prop :=
  ∃ cell : Cell, H[G.1.size + a]? = some cell ∧ cell.vm = .none ∧ cell.cls = am_cls G (t.2.1 a).1 ∧ (20 ≤ (t.2.1 a).1 → ∃ f, cell = arrV (am_cls G (t.2.1 a).1) (t.2.1 a).2 f) ∧
    ∀ j : Nat, j < (t.2.1 a).2 → ∃ v, cell.slots[am_pos G (t.2.1 a).1 j]? = some v ∧ am_sl G t h a j v
def Rp (G : GX) (t : Tp) (h : Mem) (H : Heap) : Prop :=
  H.size = G.1.size + t.1 ∧ t.1 ≤ 1000000 ∧ (∀ q, q < G.1.size → H[q]? = G.1[q]?) ∧ (∀ a, a < t.1 → cok G t h a H) ∧ (∀ a, t.1 ≤ a → a < 1000000 → (t.2.1 a).1 = 99) ∧ ∀ a, 1000000 ≤ a → h a = G.2.2.2.2.2 a ∧ t.2.1 a = G.2.2.2.2.1 a
/-- the given rows: arrays of numbers below the law's own cells -/
def am_st (G : GX) (U : State) : Prop := ∀ a, 1000000 ≤ a → (G.2.2.2.2.1 a).1 = 99 ∨ ∃ cell : Cell, G.1[G.2.2.2.1 a]? = some cell ∧ cell.vm ≠ .unknown ∧ cell.slots.size = (G.2.2.2.2.1 a).2 ∧
  ((G.2.2.2.2.1 a).1 = 20 ∧ U.isArrayOf cell .int ∨ (G.2.2.2.2.1 a).1 = 21 ∧ U.isArrayOf cell .byte) ∧ ∀ j : Nat, j < (G.2.2.2.2.1 a).2 → ∃ x : Int32, cell.slots[j]? = some (.int x) ∧ x.toInt = G.2.2.2.2.2 a (j : Int)
abbrev am_tys (G : GX) : List (ClassId × FieldType) := [(G.2.2.1 20, .int), (G.2.2.1 21, .byte), (G.2.2.1 22, .boolean), (G.2.2.1 23, .object "RefsSettle$Sheet"), (G.2.2.1 24, .array .int)]
abbrev am_up1 (G : GX) : Nat → Prop := fun q => G.1.size ≤ q
def GW (G : GX) (U : State) : Prop := va_K G.2.1 vwCl (am_tys G) U ∧ am_st G U ∧ va_Z "RefsSettle$Sheet" "ROMAN_SIGNS" "[I" (.ref (G.2.2.2.1 1000001)) (am_up1 G) U G.1 ∧ va_Z "java/lang/String" "COMPACT_STRINGS" "Z" (.int 1) (am_up1 G) U G.1
  ∧ va_Z "java/lang/Integer" "DigitTens" "[B" (.ref (G.2.2.2.1 1000003)) (am_up1 G) U G.1 ∧ va_Z "java/lang/Integer" "DigitOnes" "[B" (.ref (G.2.2.2.1 1000002)) (am_up1 G) U G.1
def CX (M : MI) (G : GX) (mc ms : Nat) (p : Program) (R : Room) (s : State) (m : MethodId) (args : Array Value) (meth : Method) (c : Code) : Prop :=
  p.tables.exec = Jvm.exec ∧ c.code = M.2.1 ∧ meth.sig.returnType = M.2.2.2.1 ∧ c.maxLocals = M.2.2.1 ∧ s.vm.findClass M.2.2.2.2.1 = some m.cls ∧ (∀ w ∈ WS, w.before args s = true) ∧ meth.locks = false ∧ M.2.2.2.2.2.1 ≤ R.frames ∧ M.2.2.2.2.2.2 ≤ R.locals ∧ mc ≤ R.cells ∧ ms ≤ R.slots ∧ GW G s ∧ meth.name = M.1.name
def QQ (G : GX) (Q : Option AV → Tp → Mem → Prop) : Array Value → State → Outcome → State → Prop := fun _ _ o t => ∃ (v : Option AV) (tt : Tp) (hh : Mem) (vC : Option Value), Q v tt hh ∧ o = .returned vC ∧ SR G v.toList vC.toList ∧ Rp G tt hh t.heap
def AW (M : MI) (mc ms : Nat) (Q : Option AV → Tp → Mem → Prop) (pc : Nat) (ls : List (Option AV)) (st : List AV) (t : Tp) (h : Mem) (ck sk : Nat) : Prop :=
  ∀ (G : GX) (p : Program) (l : Launch) (e : Env) (R : Room) (s : State) (m : MethodId) (args : Array Value) (below : List Frame) (meth : Method) (c : Code) (H : Heap) (locs : List Loc) (lsC : Array Slot) (stC : List Value),
    CX M G mc ms p R s m args meth c → Rp G t h H → LR G M.2.2.1 ls lsC → SR G st stC → (∀ q ∈ locs, G.1.size ≤ q.base) →
    W p l e R s m args below meth c H locs ck sk (MQ below (QQ G Q) args s mc ms (am_up1 G)) (F0 m pc lsC stC)
def PP (G : GX) (as : List AV) (t : Tp) (h : Mem) : Array Value → State → Prop := fun a U => SR G as a.toList ∧ Rp G t h U.heap ∧ GW G U
/-- a method's contract over the plain machine -/
def Sem (M : MI) (as : List AV) (t : Tp) (h : Mem) (mc ms : Nat) (Q : Option AV → Tp → Mem → Prop) : Prop :=
  ∀ (l : Launch) (G : GX), Met l M.1 (Cond.code M.1 M.2.1 M.2.2.1 M.2.2.2.1 :: WS) { frames := M.2.2.2.2.2.1, cells := mc, slots := ms, locals := M.2.2.2.2.2.2 } (PP G as t h) (QQ G Q) mc ms (am_up1 G)
/-! numbers -/
def wr (z : Int) : Int := (Int32.ofInt z).toInt
theorem wr_of {z : Int} (h1 : -2147483648 ≤ z) (h2 : z ≤ 2147483647) : wr z = z := Int32.toInt_ofInt_of_le (by omega) (by omega)
theorem wr_toInt (x : Int32) : wr x.toInt = x.toInt := by unfold wr; rw [Int32.ofInt_toInt]
theorem i32_lo (x : Int32) : -2147483648 ≤ x.toInt := by have := Int32.le_toInt x; simpa using this
theorem i32_hi (x : Int32) : x.toInt ≤ 2147483647 := by
  have h1 := Int32.toInt_lt x
  have h2 : x.toInt < 2147483648 := by simpa using h1
  omega
theorem i32_clamp (x : Int32) : x.toNatClampNeg = x.toInt.toNat := rfl
theorem SR.i {G : GX} {x : Int} {st : List AV} {c : List Value} (h : SR G (vI x :: st) c) : ∃ (y : Int32) (r : List Value), c = .int y :: r ∧ y.toInt = x ∧ SR G st r := by
  cases c with
  | nil => exact h.elim
  | cons a r =>
    obtain ⟨⟨y, e1, e2⟩, h2⟩ := h
    exact ⟨y, r, by rw [e1], e2, h2⟩
theorem SR.l {G : GX} {x : Int} {st : List AV} {c : List Value} (h : SR G (vL x :: st) c) : ∃ (y : Int64) (r : List Value), c = .long y :: r ∧ y.toInt = x ∧ SR G st r := by
  cases c with
  | nil => exact h.elim
  | cons a r =>
    obtain ⟨⟨y, e1, e2⟩, h2⟩ := h
    exact ⟨y, r, by rw [e1], e2, h2⟩
theorem SR.q {G : GX} {x : Option Nat} {st : List AV} {c : List Value} (h : SR G (vQ x :: st) c) : ∃ r : List Value, c = va_rf (x.map (rho G)) :: r ∧ SR G st r := by
  cases c with
  | nil => exact h.elim
  | cons a r => exact ⟨r, by rw [show a = _ from h.1], h.2⟩
theorem SR.r {G : GX} {x : Nat} {st : List AV} {c : List Value} (h : SR G (vR x :: st) c) : ∃ r : List Value, c = .ref (rho G x) :: r ∧ SR G st r := SR.q h
theorem SR.cons {G : GX} {v : AV} {st : List AV} {c : List Value} (h : SR G (v :: st) c) : ∃ (y : Value) (r : List Value), c = y :: r ∧ cvr G v y ∧ SR G st r := by
  cases c with
  | nil => exact h.elim
  | cons a r => exact ⟨a, r, rfl, h.1, h.2⟩
theorem SR.nil {G : GX} {c : List Value} (h : SR G [] c) : c = [] := by
  cases c with
  | nil => rfl
  | cons a r => exact h.elim
theorem SR.app {G : GX} : ∀ {a b : List AV} {x y : List Value}, SR G a x → SR G b y → SR G (a ++ b) (x ++ y)
  | [], b, x, y, h1, h2 => by rw [SR.nil h1]; exact h2
  | v :: a, b, x, y, h1, h2 => by
    obtain ⟨c, r, rfl, h3, h4⟩ := SR.cons h1
    exact ⟨h3, SR.app h4 h2⟩
theorem SR.len {G : GX} : ∀ {a : List AV} {x : List Value}, SR G a x → x.length = a.length
  | [], x, h1 => by rw [SR.nil h1]; rfl
  | v :: a, x, h1 => by
    obtain ⟨c, r, rfl, h3, h4⟩ := SR.cons h1
    simp [SR.len h4]
/-- one number's place is another -/
def am_up (h : Mem) (a : Nat) (k : Int) (v : Int) : Mem := fun b j => if b = a ∧ j = k then v else h b j
def am_upR (r : Nat → Int → Option Nat) (a : Nat) (k : Int) (v : Option Nat) : Nat → Int → Option Nat := fun b j => if b = a ∧ j = k then v else r b j
theorem LR.at {G : GX} {n : Nat} {ls : List (Option AV)} {lsC : Array Slot} (h : LR G n ls lsC) {i : Nat} {v : AV} (hi : ls[i]? = some (some v)) : ∃ c, lsC[i]? = some (.val c) ∧ cvr G v c := h.2.2 i v hi
/-- the locals behind a store: a long at the place ahead is gone -/
def am_is2 (v : Option (Option AV)) : Bool := match v with
  | some (some (.inl (true, _))) => true
  | _ => false
def am_st1 (ls : List (Option AV)) (i : Nat) (v : AV) : List (Option AV) := (if 0 < i ∧ am_is2 ls[i - 1]? = true then ls.set (i - 1) none else ls).set i (some v)
def am_st2 (ls : List (Option AV)) (i : Nat) (v : AV) : List (Option AV) := ((if 0 < i ∧ am_is2 ls[i - 1]? = true then ls.set (i - 1) none else ls).set i (some v)).set (i + 1) none
end
section
theorem am_eq {a b : Int32} : a = b ↔ a.toInt = b.toInt := Int32.toInt_inj.symm
theorem am_ne {a b : Int32} : (¬ a = b) ↔ a.toInt ≠ b.toInt := not_congr am_eq
theorem am_lt {a b : Int32} : a < b ↔ a.toInt < b.toInt := Int32.lt_iff_toInt_lt
theorem am_le {a b : Int32} : a ≤ b ↔ a.toInt ≤ b.toInt := Int32.le_iff_toInt_le
theorem am_ge {a b : Int32} : b ≤ a ↔ b.toInt ≤ a.toInt := Int32.le_iff_toInt_le
theorem am_gt {a b : Int32} : b < a ↔ b.toInt < a.toInt := Int32.lt_iff_toInt_lt
theorem am0_eq {a : Int32} : a = 0 ↔ a.toInt = 0 := am_eq
theorem am0_ne {a : Int32} : (¬ a = 0) ↔ a.toInt ≠ 0 := am_ne
theorem am0_lt {a : Int32} : a < 0 ↔ a.toInt < 0 := am_lt
theorem am0_le {a : Int32} : a ≤ 0 ↔ a.toInt ≤ 0 := am_le
theorem am0_ge {a : Int32} : 0 ≤ a ↔ 0 ≤ a.toInt := am_ge
theorem am0_gt {a : Int32} : 0 < a ↔ 0 < a.toInt := am_gt
section AMR
variable {M : MI} {mc ms : Nat} {Q : Option AV → Tp → Mem → Prop} {pc : Nat} {ls : List (Option AV)} {st : List AV} {t : Tp} {h : Mem} {ck sk : Nat}
theorem aw_iconst {n : Int} (hd : decode M.2.1 pc = .ok (.iconst n, 1)) (h1 : -2147483648 ≤ n) (h2 : n ≤ 2147483647) (k : AW M mc ms Q (pc + 1) ls (vI n :: st) t h ck sk) : AW M mc ms Q pc ls st t h ck sk := by
  intro G p l e R s m args below meth c H locs lsC stC C hR hL hS hq
  exact lv_iconst C.1 C.2.1 hd rfl (k G p l e R s m args below meth c H locs lsC _ C hR hL ⟨⟨_, rfl, wr_of h1 h2⟩, hS⟩ hq)
theorem aw_bipush {n : Int} (hd : decode M.2.1 pc = .ok (.bipush n, 2)) (h1 : -128 ≤ n) (h2 : n ≤ 127) (k : AW M mc ms Q (pc + 2) ls (vI n :: st) t h ck sk) : AW M mc ms Q pc ls st t h ck sk := by
  intro G p l e R s m args below meth c H locs lsC stC C hR hL hS hq
  exact lv_bipush C.1 C.2.1 hd rfl (k G p l e R s m args below meth c H locs lsC _ C hR hL ⟨⟨_, rfl, by rw [Int8.toInt_toInt32]; exact Int8.toInt_ofInt_of_le (by omega) (by omega)⟩, hS⟩ hq)
theorem aw_sipush {n : Int} (hd : decode M.2.1 pc = .ok (.sipush n, 3)) (h1 : -32768 ≤ n) (h2 : n ≤ 32767) (k : AW M mc ms Q (pc + 3) ls (vI n :: st) t h ck sk) : AW M mc ms Q pc ls st t h ck sk := by
  intro G p l e R s m args below meth c H locs lsC stC C hR hL hS hq
  exact lv_sipush C.1 C.2.1 hd rfl (k G p l e R s m args below meth c H locs lsC _ C hR hL ⟨⟨_, rfl, by rw [Int16.toInt_toInt32]; exact Int16.toInt_ofInt_of_le (by omega) (by omega)⟩, hS⟩ hq)
theorem aw_ldc {i : Nat} {v : Int32} {n : Int} (hd : decode M.2.1 pc = .ok (.ldc i, 2)) (hw : Cond.constant M.2.2.2.2.1 i v ∈ WS) (hn : v.toInt = n) (k : AW M mc ms Q (pc + 2) ls (vI n :: st) t h ck sk) : AW M mc ms Q pc ls st t h ck sk := by
  intro G p l e R s m args below meth c H locs lsC stC C hR hL hS hq
  exact W.ldc C.1 C.2.1 C.2.2.2.2.1 (C.2.2.2.2.2.1 _ hw) rfl hd (k G p l e R s m args below meth c H locs lsC _ C hR hL ⟨⟨_, rfl, hn⟩, hS⟩ hq)
theorem aw_lconst {n : Fin 2} {z : Int} (hd : decode M.2.1 pc = .ok (.lconst n, 1)) (hn : (Int64.ofNat (n : Nat)).toInt = z) (k : AW M mc ms Q (pc + 1) ls (vL z :: st) t h ck sk) : AW M mc ms Q pc ls st t h ck sk := by
  intro G p l e R s m args below meth c H locs lsC stC C hR hL hS hq
  exact lv_lconst C.1 C.2.1 hd rfl (k G p l e R s m args below meth c H locs lsC _ C hR hL ⟨⟨_, rfl, hn⟩, hS⟩ hq)
theorem aw_ldc2 {i : Nat} {v : Int64} {n : Int} (hd : decode M.2.1 pc = .ok (.ldc2_w i, 3)) (hw : Cond.constantLong M.2.2.2.2.1 i v ∈ WS) (hn : v.toInt = n) (k : AW M mc ms Q (pc + 3) ls (vL n :: st) t h ck sk) : AW M mc ms Q pc ls st t h ck sk := by
  intro G p l e R s m args below meth c H locs lsC stC C hR hL hS hq
  exact W.ldc2 C.1 C.2.1 C.2.2.2.2.1 (C.2.2.2.2.2.1 _ hw) rfl hd (k G p l e R s m args below meth c H locs lsC _ C hR hL ⟨⟨_, rfl, hn⟩, hS⟩ hq)
theorem aw_iload {i : Nat} {x : Int} (hd : decode M.2.1 pc = .ok (.iload i, 2)) (hl : ls[i]? = some (some (vI x))) (k : AW M mc ms Q (pc + 2) ls (vI x :: st) t h ck sk) : AW M mc ms Q pc ls st t h ck sk := by
  intro G p l e R s m args below meth c H locs lsC stC C hR hL hS hq
  obtain ⟨_, e1, y, rfl, e2⟩ := hL.at hl
  exact lv_iload C.1 C.2.1 hd e1 (k G p l e R s m args below meth c H locs lsC _ C hR hL ⟨⟨_, rfl, e2⟩, hS⟩ hq)
theorem aw_iload_n {f : Fin 4} {x : Int} (hd : decode M.2.1 pc = .ok (.iload_n f, 1)) (hl : ls[(f : Nat)]? = some (some (vI x))) (k : AW M mc ms Q (pc + 1) ls (vI x :: st) t h ck sk) : AW M mc ms Q pc ls st t h ck sk := by
  intro G p l e R s m args below meth c H locs lsC stC C hR hL hS hq
  obtain ⟨_, e1, y, rfl, e2⟩ := hL.at hl
  exact lv_iload_n C.1 C.2.1 hd rfl e1 (k G p l e R s m args below meth c H locs lsC _ C hR hL ⟨⟨_, rfl, e2⟩, hS⟩ hq)
theorem aw_lload {i : Nat} {x : Int} (hd : decode M.2.1 pc = .ok (.lload i, 2)) (hl : ls[i]? = some (some (vL x))) (k : AW M mc ms Q (pc + 2) ls (vL x :: st) t h ck sk) : AW M mc ms Q pc ls st t h ck sk := by
  intro G p l e R s m args below meth c H locs lsC stC C hR hL hS hq
  obtain ⟨_, e1, y, rfl, e2⟩ := hL.at hl
  exact lv_lload C.1 C.2.1 hd e1 (k G p l e R s m args below meth c H locs lsC _ C hR hL ⟨⟨_, rfl, e2⟩, hS⟩ hq)
theorem aw_lload_n {f : Fin 4} {x : Int} (hd : decode M.2.1 pc = .ok (.lload_n f, 1)) (hl : ls[(f : Nat)]? = some (some (vL x))) (k : AW M mc ms Q (pc + 1) ls (vL x :: st) t h ck sk) : AW M mc ms Q pc ls st t h ck sk := by
  intro G p l e R s m args below meth c H locs lsC stC C hR hL hS hq
  obtain ⟨_, e1, y, rfl, e2⟩ := hL.at hl
  exact lv_lload_n C.1 C.2.1 hd rfl e1 (k G p l e R s m args below meth c H locs lsC _ C hR hL ⟨⟨_, rfl, e2⟩, hS⟩ hq)
theorem aw_aload {i : Nat} {x : Nat} (hd : decode M.2.1 pc = .ok (.aload i, 2)) (hl : ls[i]? = some (some (vR x))) (k : AW M mc ms Q (pc + 2) ls (vR x :: st) t h ck sk) : AW M mc ms Q pc ls st t h ck sk := by
  intro G p l e R s m args below meth c H locs lsC stC C hR hL hS hq
  obtain ⟨_, e1, rfl⟩ := hL.at hl
  exact lv_aload C.1 C.2.1 hd e1 (k G p l e R s m args below meth c H locs lsC _ C hR hL ⟨rfl, hS⟩ hq)
theorem aw_aload_n {f : Fin 4} {x : Nat} (hd : decode M.2.1 pc = .ok (.aload_n f, 1)) (hl : ls[(f : Nat)]? = some (some (vR x))) (k : AW M mc ms Q (pc + 1) ls (vR x :: st) t h ck sk) : AW M mc ms Q pc ls st t h ck sk := by
  intro G p l e R s m args below meth c H locs lsC stC C hR hL hS hq
  obtain ⟨_, e1, rfl⟩ := hL.at hl
  exact lv_aload_n C.1 C.2.1 hd rfl e1 (k G p l e R s m args below meth c H locs lsC _ C hR hL ⟨rfl, hS⟩ hq)
theorem aw_iaddw {x y : Int} (hd : decode M.2.1 pc = .ok (.iadd, 1)) (k : AW M mc ms Q (pc + 1) ls (vI (wr (x + y)) :: st) t h ck sk) : AW M mc ms Q pc ls (vI y :: vI x :: st) t h ck sk := by
  intro G p l e R s m args below meth c H locs lsC stC C hR hL hS hq
  obtain ⟨b, r1, rfl, rfl, hS1⟩ := SR.i hS
  obtain ⟨a, r2, rfl, rfl, hS2⟩ := SR.i hS1
  exact lv_iadd C.1 C.2.1 hd (k G p l e R s m args below meth c H locs lsC _ C hR hL ⟨⟨_, rfl, by rw [Int32.toInt_add]; exact Int32.toInt_ofInt.symm⟩, hS2⟩ hq)
theorem aw_isubw {x y : Int} (hd : decode M.2.1 pc = .ok (.isub, 1)) (k : AW M mc ms Q (pc + 1) ls (vI (wr (x - y)) :: st) t h ck sk) : AW M mc ms Q pc ls (vI y :: vI x :: st) t h ck sk := by
  intro G p l e R s m args below meth c H locs lsC stC C hR hL hS hq
  obtain ⟨b, r1, rfl, rfl, hS1⟩ := SR.i hS
  obtain ⟨a, r2, rfl, rfl, hS2⟩ := SR.i hS1
  exact lv_isub C.1 C.2.1 hd (k G p l e R s m args below meth c H locs lsC _ C hR hL ⟨⟨_, rfl, by rw [Int32.toInt_sub]; exact Int32.toInt_ofInt.symm⟩, hS2⟩ hq)
theorem aw_imulw {x y : Int} (hd : decode M.2.1 pc = .ok (.imul, 1)) (k : AW M mc ms Q (pc + 1) ls (vI (wr (x * y)) :: st) t h ck sk) : AW M mc ms Q pc ls (vI y :: vI x :: st) t h ck sk := by
  intro G p l e R s m args below meth c H locs lsC stC C hR hL hS hq
  obtain ⟨b, r1, rfl, rfl, hS1⟩ := SR.i hS
  obtain ⟨a, r2, rfl, rfl, hS2⟩ := SR.i hS1
  exact lv_imul C.1 C.2.1 hd (k G p l e R s m args below meth c H locs lsC _ C hR hL ⟨⟨_, rfl, by rw [Int32.toInt_mul]; exact Int32.toInt_ofInt.symm⟩, hS2⟩ hq)
theorem aw_iandw {x y : Int} (hd : decode M.2.1 pc = .ok (.iand, 1)) (k : AW M mc ms Q (pc + 1) ls (vI ((Int32.ofInt x &&& Int32.ofInt y).toInt) :: st) t h ck sk) : AW M mc ms Q pc ls (vI y :: vI x :: st) t h ck sk := by
  intro G p l e R s m args below meth c H locs lsC stC C hR hL hS hq
  obtain ⟨b, r1, rfl, rfl, hS1⟩ := SR.i hS
  obtain ⟨a, r2, rfl, rfl, hS2⟩ := SR.i hS1
  exact lv_iand C.1 C.2.1 hd (k G p l e R s m args below meth c H locs lsC _ C hR hL ⟨⟨_, rfl, by rw [Int32.ofInt_toInt, Int32.ofInt_toInt]⟩, hS2⟩ hq)
theorem aw_iorw {x y : Int} (hd : decode M.2.1 pc = .ok (.ior, 1)) (k : AW M mc ms Q (pc + 1) ls (vI ((Int32.ofInt x ||| Int32.ofInt y).toInt) :: st) t h ck sk) : AW M mc ms Q pc ls (vI y :: vI x :: st) t h ck sk := by
  intro G p l e R s m args below meth c H locs lsC stC C hR hL hS hq
  obtain ⟨b, r1, rfl, rfl, hS1⟩ := SR.i hS
  obtain ⟨a, r2, rfl, rfl, hS2⟩ := SR.i hS1
  exact lv_ior C.1 C.2.1 hd (k G p l e R s m args below meth c H locs lsC _ C hR hL ⟨⟨_, rfl, by rw [Int32.ofInt_toInt, Int32.ofInt_toInt]⟩, hS2⟩ hq)
theorem aw_ixorw {x y : Int} (hd : decode M.2.1 pc = .ok (.ixor, 1)) (k : AW M mc ms Q (pc + 1) ls (vI ((Int32.ofInt x ^^^ Int32.ofInt y).toInt) :: st) t h ck sk) : AW M mc ms Q pc ls (vI y :: vI x :: st) t h ck sk := by
  intro G p l e R s m args below meth c H locs lsC stC C hR hL hS hq
  obtain ⟨b, r1, rfl, rfl, hS1⟩ := SR.i hS
  obtain ⟨a, r2, rfl, rfl, hS2⟩ := SR.i hS1
  exact lv_ixor C.1 C.2.1 hd (k G p l e R s m args below meth c H locs lsC _ C hR hL ⟨⟨_, rfl, by rw [Int32.ofInt_toInt, Int32.ofInt_toInt]⟩, hS2⟩ hq)
theorem aw_ishlw {x y : Int} (hd : decode M.2.1 pc = .ok (.ishl, 1)) (k : AW M mc ms Q (pc + 1) ls (vI ((Int32.ofInt x <<< (Int32.ofInt y &&& 31)).toInt) :: st) t h ck sk) : AW M mc ms Q pc ls (vI y :: vI x :: st) t h ck sk := by
  intro G p l e R s m args below meth c H locs lsC stC C hR hL hS hq
  obtain ⟨b, r1, rfl, rfl, hS1⟩ := SR.i hS
  obtain ⟨a, r2, rfl, rfl, hS2⟩ := SR.i hS1
  exact lv_ishl C.1 C.2.1 hd (k G p l e R s m args below meth c H locs lsC _ C hR hL ⟨⟨_, rfl, by rw [Int32.ofInt_toInt, Int32.ofInt_toInt]⟩, hS2⟩ hq)
theorem aw_ishrw {x y : Int} (hd : decode M.2.1 pc = .ok (.ishr, 1)) (k : AW M mc ms Q (pc + 1) ls (vI ((Int32.ofInt x >>> (Int32.ofInt y &&& 31)).toInt) :: st) t h ck sk) : AW M mc ms Q pc ls (vI y :: vI x :: st) t h ck sk := by
  intro G p l e R s m args below meth c H locs lsC stC C hR hL hS hq
  obtain ⟨b, r1, rfl, rfl, hS1⟩ := SR.i hS
  obtain ⟨a, r2, rfl, rfl, hS2⟩ := SR.i hS1
  exact lv_ishr C.1 C.2.1 hd (k G p l e R s m args below meth c H locs lsC _ C hR hL ⟨⟨_, rfl, by rw [Int32.ofInt_toInt, Int32.ofInt_toInt]⟩, hS2⟩ hq)
theorem aw_iadd {x y : Int} (hd : decode M.2.1 pc = .ok (.iadd, 1)) (h1 : -2147483648 ≤ x + y) (h2 : x + y ≤ 2147483647) (k : AW M mc ms Q (pc + 1) ls (vI (x + y) :: st) t h ck sk) : AW M mc ms Q pc ls (vI y :: vI x :: st) t h ck sk :=
  aw_iaddw hd (by rw [wr_of h1 h2]; exact k)
theorem aw_isub {x y : Int} (hd : decode M.2.1 pc = .ok (.isub, 1)) (h1 : -2147483648 ≤ x - y) (h2 : x - y ≤ 2147483647) (k : AW M mc ms Q (pc + 1) ls (vI (x - y) :: st) t h ck sk) : AW M mc ms Q pc ls (vI y :: vI x :: st) t h ck sk :=
  aw_isubw hd (by rw [wr_of h1 h2]; exact k)
theorem aw_imul {x y : Int} (hd : decode M.2.1 pc = .ok (.imul, 1)) (h1 : -2147483648 ≤ x * y) (h2 : x * y ≤ 2147483647) (k : AW M mc ms Q (pc + 1) ls (vI (x * y) :: st) t h ck sk) : AW M mc ms Q pc ls (vI y :: vI x :: st) t h ck sk :=
  aw_imulw hd (by rw [wr_of h1 h2]; exact k)
theorem aw_inegw {x : Int} (hd : decode M.2.1 pc = .ok (.ineg, 1)) (k : AW M mc ms Q (pc + 1) ls (vI (wr (-x)) :: st) t h ck sk) : AW M mc ms Q pc ls (vI x :: st) t h ck sk := by
  intro G p l e R s m args below meth c H locs lsC stC C hR hL hS hq
  obtain ⟨a, r, rfl, rfl, hS1⟩ := SR.i hS
  exact lv_ineg C.1 C.2.1 hd (k G p l e R s m args below meth c H locs lsC _ C hR hL ⟨⟨_, rfl, by rw [Int32.toInt_neg]; exact Int32.toInt_ofInt.symm⟩, hS1⟩ hq)
theorem aw_ineg {x : Int} (hd : decode M.2.1 pc = .ok (.ineg, 1)) (h1 : -2147483648 ≤ -x) (h2 : -x ≤ 2147483647) (k : AW M mc ms Q (pc + 1) ls (vI (-x) :: st) t h ck sk) : AW M mc ms Q pc ls (vI x :: st) t h ck sk :=
  aw_inegw hd (by rw [wr_of h1 h2]; exact k)
theorem i32_div {a b : Int32} (ha : 0 ≤ a.toInt) (hb : 0 < b.toInt) : (a / b).toInt = a.toInt / b.toInt := by
  rw [Int32.toInt_div_of_ne_right _ _ (fun e => by rw [e] at hb; exact absurd hb (by decide)), Int.tdiv_eq_ediv_of_nonneg ha]
theorem i32_rem {a b : Int32} (ha : 0 ≤ a.toInt) (hb : 0 < b.toInt) : (a - a / b * b).toInt = a.toInt % b.toInt := by
  rw [Int32.toInt_sub, Int32.toInt_mul, i32_div ha hb]
  have h1 := i32_lo a
  have h2 := i32_hi a
  have h3 : a.toInt / b.toInt * b.toInt ≤ a.toInt := Int.ediv_mul_le _ (by omega)
  have h4 : 0 ≤ a.toInt / b.toInt * b.toInt := Int.mul_nonneg (Int.ediv_nonneg ha (by omega)) (by omega)
  rw [Int.bmod_eq_of_le (n := a.toInt / b.toInt * b.toInt) (by omega) (by omega)]
  have h5 : a.toInt % b.toInt = a.toInt - a.toInt / b.toInt * b.toInt := by
    have := Int.mul_ediv_add_emod a.toInt b.toInt
    rw [Int.mul_comm] at this
    omega
  rw [h5]
  exact Int.bmod_eq_of_le (by omega) (by omega)
theorem i32_ne0 {b : Int32} (hb : 0 < b.toInt) : ¬ b = 0 := fun e => by rw [e] at hb; exact absurd hb (by decide)
theorem aw_idiv {x y : Int} (hd : decode M.2.1 pc = .ok (.idiv, 1)) (hx : 0 ≤ x) (hy : 0 < y) (k : AW M mc ms Q (pc + 1) ls (vI (x / y) :: st) t h ck sk) : AW M mc ms Q pc ls (vI y :: vI x :: st) t h ck sk := by
  intro G p l e R s m args below meth c H locs lsC stC C hR hL hS hq
  obtain ⟨b, r1, rfl, rfl, hS1⟩ := SR.i hS
  obtain ⟨a, r2, rfl, rfl, hS2⟩ := SR.i hS1
  exact lv_idiv C.1 C.2.1 hd (i32_ne0 hy) (k G p l e R s m args below meth c H locs lsC _ C hR hL ⟨⟨_, rfl, i32_div hx hy⟩, hS2⟩ hq)
theorem aw_irem {x y : Int} (hd : decode M.2.1 pc = .ok (.irem, 1)) (hx : 0 ≤ x) (hy : 0 < y) (k : AW M mc ms Q (pc + 1) ls (vI (x % y) :: st) t h ck sk) : AW M mc ms Q pc ls (vI y :: vI x :: st) t h ck sk := by
  intro G p l e R s m args below meth c H locs lsC stC C hR hL hS hq
  obtain ⟨b, r1, rfl, rfl, hS1⟩ := SR.i hS
  obtain ⟨a, r2, rfl, rfl, hS2⟩ := SR.i hS1
  exact lv_irem C.1 C.2.1 hd (i32_ne0 hy) (k G p l e R s m args below meth c H locs lsC _ C hR hL ⟨⟨_, rfl, i32_rem hx hy⟩, hS2⟩ hq)
theorem aw_icmp_eq {x y : Int} {off : Int} (tgt : Nat) (hd : decode M.2.1 pc = .ok (.if_icmp .eq off, 3)) (ht : (pc : Int) + off = (tgt : Int)) (k1 : x = y → AW M mc ms Q tgt ls st t h ck sk) (k2 : ¬ x = y → AW M mc ms Q (pc + 3) ls st t h ck sk) : AW M mc ms Q pc ls (vI y :: vI x :: st) t h ck sk := by
  intro G p l e R s m args below meth c H locs lsC stC C hR hL hS hq
  obtain ⟨b, r1, rfl, rfl, hS1⟩ := SR.i hS
  obtain ⟨a, r2, rfl, rfl, hS2⟩ := SR.i hS1
  exact lv_icmp_eq C.1 C.2.1 hd ht (fun hc => k1 (am_eq.mp hc) G p l e R s m args below meth c H locs lsC _ C hR hL hS2 hq) (fun hc => k2 (fun z => hc (am_eq.mpr z)) G p l e R s m args below meth c H locs lsC _ C hR hL hS2 hq)
theorem aw_if_eq {x : Int} {off : Int} (tgt : Nat) (hd : decode M.2.1 pc = .ok (.ifCond .eq off, 3)) (ht : (pc : Int) + off = (tgt : Int)) (k1 : x = 0 → AW M mc ms Q tgt ls st t h ck sk) (k2 : ¬ x = 0 → AW M mc ms Q (pc + 3) ls st t h ck sk) : AW M mc ms Q pc ls (vI x :: st) t h ck sk := by
  intro G p l e R s m args below meth c H locs lsC stC C hR hL hS hq
  obtain ⟨a, r, rfl, rfl, hS1⟩ := SR.i hS
  exact lv_if_eq C.1 C.2.1 hd ht (fun hc => k1 (am0_eq.mp hc) G p l e R s m args below meth c H locs lsC _ C hR hL hS1 hq) (fun hc => k2 (fun z => hc (am0_eq.mpr z)) G p l e R s m args below meth c H locs lsC _ C hR hL hS1 hq)
theorem aw_icmp_ne {x y : Int} {off : Int} (tgt : Nat) (hd : decode M.2.1 pc = .ok (.if_icmp .ne off, 3)) (ht : (pc : Int) + off = (tgt : Int)) (k1 : x ≠ y → AW M mc ms Q tgt ls st t h ck sk) (k2 : x = y → AW M mc ms Q (pc + 3) ls st t h ck sk) : AW M mc ms Q pc ls (vI y :: vI x :: st) t h ck sk := by
  intro G p l e R s m args below meth c H locs lsC stC C hR hL hS hq
  obtain ⟨b, r1, rfl, rfl, hS1⟩ := SR.i hS
  obtain ⟨a, r2, rfl, rfl, hS2⟩ := SR.i hS1
  exact lv_icmp_ne C.1 C.2.1 hd ht (fun hc => k1 (am_ne.mp hc) G p l e R s m args below meth c H locs lsC _ C hR hL hS2 hq) (fun hc => k2 (am_eq.mp hc) G p l e R s m args below meth c H locs lsC _ C hR hL hS2 hq)
theorem aw_if_ne {x : Int} {off : Int} (tgt : Nat) (hd : decode M.2.1 pc = .ok (.ifCond .ne off, 3)) (ht : (pc : Int) + off = (tgt : Int)) (k1 : x ≠ 0 → AW M mc ms Q tgt ls st t h ck sk) (k2 : x = 0 → AW M mc ms Q (pc + 3) ls st t h ck sk) : AW M mc ms Q pc ls (vI x :: st) t h ck sk := by
  intro G p l e R s m args below meth c H locs lsC stC C hR hL hS hq
  obtain ⟨a, r, rfl, rfl, hS1⟩ := SR.i hS
  exact lv_if_ne C.1 C.2.1 hd ht (fun hc => k1 (am0_ne.mp hc) G p l e R s m args below meth c H locs lsC _ C hR hL hS1 hq) (fun hc => k2 (am0_eq.mp hc) G p l e R s m args below meth c H locs lsC _ C hR hL hS1 hq)
theorem aw_icmp_lt {x y : Int} {off : Int} (tgt : Nat) (hd : decode M.2.1 pc = .ok (.if_icmp .lt off, 3)) (ht : (pc : Int) + off = (tgt : Int)) (k1 : x < y → AW M mc ms Q tgt ls st t h ck sk) (k2 : ¬ x < y → AW M mc ms Q (pc + 3) ls st t h ck sk) : AW M mc ms Q pc ls (vI y :: vI x :: st) t h ck sk := by
  intro G p l e R s m args below meth c H locs lsC stC C hR hL hS hq
  obtain ⟨b, r1, rfl, rfl, hS1⟩ := SR.i hS
  obtain ⟨a, r2, rfl, rfl, hS2⟩ := SR.i hS1
  exact lv_icmp_lt C.1 C.2.1 hd ht (fun hc => k1 (am_lt.mp hc) G p l e R s m args below meth c H locs lsC _ C hR hL hS2 hq) (fun hc => k2 (fun z => hc (am_lt.mpr z)) G p l e R s m args below meth c H locs lsC _ C hR hL hS2 hq)
theorem aw_if_lt {x : Int} {off : Int} (tgt : Nat) (hd : decode M.2.1 pc = .ok (.ifCond .lt off, 3)) (ht : (pc : Int) + off = (tgt : Int)) (k1 : x < 0 → AW M mc ms Q tgt ls st t h ck sk) (k2 : ¬ x < 0 → AW M mc ms Q (pc + 3) ls st t h ck sk) : AW M mc ms Q pc ls (vI x :: st) t h ck sk := by
  intro G p l e R s m args below meth c H locs lsC stC C hR hL hS hq
  obtain ⟨a, r, rfl, rfl, hS1⟩ := SR.i hS
  exact lv_if_lt C.1 C.2.1 hd ht (fun hc => k1 (am0_lt.mp hc) G p l e R s m args below meth c H locs lsC _ C hR hL hS1 hq) (fun hc => k2 (fun z => hc (am0_lt.mpr z)) G p l e R s m args below meth c H locs lsC _ C hR hL hS1 hq)
theorem aw_icmp_ge {x y : Int} {off : Int} (tgt : Nat) (hd : decode M.2.1 pc = .ok (.if_icmp .ge off, 3)) (ht : (pc : Int) + off = (tgt : Int)) (k1 : y ≤ x → AW M mc ms Q tgt ls st t h ck sk) (k2 : ¬ y ≤ x → AW M mc ms Q (pc + 3) ls st t h ck sk) : AW M mc ms Q pc ls (vI y :: vI x :: st) t h ck sk := by
  intro G p l e R s m args below meth c H locs lsC stC C hR hL hS hq
  obtain ⟨b, r1, rfl, rfl, hS1⟩ := SR.i hS
  obtain ⟨a, r2, rfl, rfl, hS2⟩ := SR.i hS1
  exact lv_icmp_ge C.1 C.2.1 hd ht (fun hc => k1 (am_ge.mp hc) G p l e R s m args below meth c H locs lsC _ C hR hL hS2 hq) (fun hc => k2 (fun z => hc (am_ge.mpr z)) G p l e R s m args below meth c H locs lsC _ C hR hL hS2 hq)
theorem aw_if_ge {x : Int} {off : Int} (tgt : Nat) (hd : decode M.2.1 pc = .ok (.ifCond .ge off, 3)) (ht : (pc : Int) + off = (tgt : Int)) (k1 : 0 ≤ x → AW M mc ms Q tgt ls st t h ck sk) (k2 : ¬ 0 ≤ x → AW M mc ms Q (pc + 3) ls st t h ck sk) : AW M mc ms Q pc ls (vI x :: st) t h ck sk := by
  intro G p l e R s m args below meth c H locs lsC stC C hR hL hS hq
  obtain ⟨a, r, rfl, rfl, hS1⟩ := SR.i hS
  exact lv_if_ge C.1 C.2.1 hd ht (fun hc => k1 (am0_ge.mp hc) G p l e R s m args below meth c H locs lsC _ C hR hL hS1 hq) (fun hc => k2 (fun z => hc (am0_ge.mpr z)) G p l e R s m args below meth c H locs lsC _ C hR hL hS1 hq)
theorem aw_icmp_gt {x y : Int} {off : Int} (tgt : Nat) (hd : decode M.2.1 pc = .ok (.if_icmp .gt off, 3)) (ht : (pc : Int) + off = (tgt : Int)) (k1 : y < x → AW M mc ms Q tgt ls st t h ck sk) (k2 : ¬ y < x → AW M mc ms Q (pc + 3) ls st t h ck sk) : AW M mc ms Q pc ls (vI y :: vI x :: st) t h ck sk := by
  intro G p l e R s m args below meth c H locs lsC stC C hR hL hS hq
  obtain ⟨b, r1, rfl, rfl, hS1⟩ := SR.i hS
  obtain ⟨a, r2, rfl, rfl, hS2⟩ := SR.i hS1
  exact lv_icmp_gt C.1 C.2.1 hd ht (fun hc => k1 (am_gt.mp hc) G p l e R s m args below meth c H locs lsC _ C hR hL hS2 hq) (fun hc => k2 (fun z => hc (am_gt.mpr z)) G p l e R s m args below meth c H locs lsC _ C hR hL hS2 hq)
theorem aw_if_gt {x : Int} {off : Int} (tgt : Nat) (hd : decode M.2.1 pc = .ok (.ifCond .gt off, 3)) (ht : (pc : Int) + off = (tgt : Int)) (k1 : 0 < x → AW M mc ms Q tgt ls st t h ck sk) (k2 : ¬ 0 < x → AW M mc ms Q (pc + 3) ls st t h ck sk) : AW M mc ms Q pc ls (vI x :: st) t h ck sk := by
  intro G p l e R s m args below meth c H locs lsC stC C hR hL hS hq
  obtain ⟨a, r, rfl, rfl, hS1⟩ := SR.i hS
  exact lv_if_gt C.1 C.2.1 hd ht (fun hc => k1 (am0_gt.mp hc) G p l e R s m args below meth c H locs lsC _ C hR hL hS1 hq) (fun hc => k2 (fun z => hc (am0_gt.mpr z)) G p l e R s m args below meth c H locs lsC _ C hR hL hS1 hq)
theorem aw_icmp_le {x y : Int} {off : Int} (tgt : Nat) (hd : decode M.2.1 pc = .ok (.if_icmp .le off, 3)) (ht : (pc : Int) + off = (tgt : Int)) (k1 : x ≤ y → AW M mc ms Q tgt ls st t h ck sk) (k2 : ¬ x ≤ y → AW M mc ms Q (pc + 3) ls st t h ck sk) : AW M mc ms Q pc ls (vI y :: vI x :: st) t h ck sk := by
  intro G p l e R s m args below meth c H locs lsC stC C hR hL hS hq
  obtain ⟨b, r1, rfl, rfl, hS1⟩ := SR.i hS
  obtain ⟨a, r2, rfl, rfl, hS2⟩ := SR.i hS1
  exact lv_icmp_le C.1 C.2.1 hd ht (fun hc => k1 (am_le.mp hc) G p l e R s m args below meth c H locs lsC _ C hR hL hS2 hq) (fun hc => k2 (fun z => hc (am_le.mpr z)) G p l e R s m args below meth c H locs lsC _ C hR hL hS2 hq)
theorem aw_if_le {x : Int} {off : Int} (tgt : Nat) (hd : decode M.2.1 pc = .ok (.ifCond .le off, 3)) (ht : (pc : Int) + off = (tgt : Int)) (k1 : x ≤ 0 → AW M mc ms Q tgt ls st t h ck sk) (k2 : ¬ x ≤ 0 → AW M mc ms Q (pc + 3) ls st t h ck sk) : AW M mc ms Q pc ls (vI x :: st) t h ck sk := by
  intro G p l e R s m args below meth c H locs lsC stC C hR hL hS hq
  obtain ⟨a, r, rfl, rfl, hS1⟩ := SR.i hS
  exact lv_if_le C.1 C.2.1 hd ht (fun hc => k1 (am0_le.mp hc) G p l e R s m args below meth c H locs lsC _ C hR hL hS1 hq) (fun hc => k2 (fun z => hc (am0_le.mpr z)) G p l e R s m args below meth c H locs lsC _ C hR hL hS1 hq)
theorem aw_goto {off : Int} (tgt : Nat) (hd : decode M.2.1 pc = .ok (.goto off, 3)) (ht : (pc : Int) + off = (tgt : Int)) (k : AW M mc ms Q tgt ls st t h ck sk) : AW M mc ms Q pc ls st t h ck sk := by
  intro G p l e R s m args below meth c H locs lsC stC C hR hL hS hq
  exact lv_goto C.1 C.2.1 hd ht (k G p l e R s m args below meth c H locs lsC _ C hR hL hS hq)
end AMR
end
section
def am_all (lsC : Array Slot) : List (Nat × Value) := (List.range lsC.size).filterMap (fun j => match (lsC[j]? : Option Slot) with
  | some (Slot.val c) => some (j, c)
  | _ => none)
theorem am_all_mem {lsC : Array Slot} {j : Nat} {c : Value} : (j, c) ∈ am_all lsC ↔ lsC[j]? = some (.val c) := by
  unfold am_all
  rw [List.mem_filterMap]
  constructor
  · rintro ⟨i, hi, h⟩
    split at h
    · rename_i c' hc
      cases h
      exact hc
    · cases h
  · intro h
    refine ⟨j, List.mem_range.mpr (Array.getElem?_eq_some_iff.mp h).1, ?_⟩
    rw [h]
theorem LR.has {G : GX} {n : Nat} {ls : List (Option AV)} {lsC : Array Slot} (hL : LR G n ls lsC) : lv_has lsC n (am_all lsC) := ⟨hL.1, hL.2.1, fun q hq => am_all_mem.mp hq⟩
theorem cvr_cat {G : GX} {v : AV} {c : Value} (h : cvr G v c) (h2 : c.category = 2) : am_is2 (some (some v)) = true := by
  match v, h with
  | .inl (false, i), ⟨x, e, _⟩ => rw [e] at h2; exact absurd h2 (by simp [Value.category])
  | .inl (true, i), _ => rfl
  | .inr none, e => rw [show c = .null from e] at h2; exact absurd h2 (by decide)
  | .inr (some a), e => rw [show c = .ref _ from e] at h2; exact absurd h2 (by simp [Value.category])
theorem LR.st1 {G : GX} {n i : Nat} {ls : List (Option AV)} {lsC l' : Array Slot} {v : AV} {cv : Value} (hL : LR G n ls lsC) (hv : cvr G v cv)
    (h' : lv_has l' n ((i, cv) :: (am_all lsC).filter (fun q => !(q.1 == i) && !(q.1 + 1 == i && q.2.category == 2)))) : LR G n (am_st1 ls i v) l' := by
  refine ⟨h'.1, h'.2.1, fun j w hj => ?_⟩
  unfold am_st1 at hj
  by_cases e : j = i
  · subst e
    have hlt : j < ((if 0 < j ∧ am_is2 ls[j - 1]? = true then ls.set (j - 1) none else ls)).length := by
      have := (List.getElem?_eq_some_iff.mp hj).1
      rwa [List.length_set] at this
    rw [List.getElem?_set_self hlt] at hj
    cases hj
    exact ⟨cv, h'.2.2 (j, cv) List.mem_cons_self, hv⟩
  · rw [List.getElem?_set_ne (Ne.symm e)] at hj
    have hj2 : ls[j]? = some (some w) ∧ ¬ (j + 1 = i ∧ am_is2 (some (some w)) = true) := by
      split at hj
      · rename_i hc
        by_cases e2 : i - 1 = j
        · subst e2
          exfalso
          have hlt := (List.getElem?_eq_some_iff.mp hj).1
          rw [List.length_set] at hlt
          rw [List.getElem?_set_self hlt] at hj
          cases hj
        · rw [List.getElem?_set_ne e2] at hj
          exact ⟨hj, fun z => e2 (by omega)⟩
      · rename_i hc
        refine ⟨hj, fun z => hc ⟨by omega, ?_⟩⟩
        rw [show i - 1 = j by omega, hj]
        exact z.2
    obtain ⟨c, e1, e2⟩ := hL.at hj2.1
    refine ⟨c, h'.2.2 (j, c) (List.mem_cons_of_mem _ (List.mem_filter.mpr ⟨am_all_mem.mpr e1, ?_⟩)), e2⟩
    simp only [Bool.and_eq_true, Bool.not_eq_true', beq_eq_false_iff_ne, Bool.and_eq_false_iff]
    refine ⟨e, ?_⟩
    by_cases e3 : j + 1 = i
    · right
      intro e4
      exact hj2.2 ⟨e3, cvr_cat e2 e4⟩
    · left
      exact e3
theorem LR.st2 {G : GX} {n i : Nat} {ls : List (Option AV)} {lsC l' : Array Slot} {v : AV} {cv : Value} (hL : LR G n ls lsC) (hv : cvr G v cv)
    (h' : lv_has l' n ((i, cv) :: (am_all lsC).filter (fun q => !(q.1 == i) && (!(q.1 == i + 1) && !(q.1 + 1 == i && q.2.category == 2))))) : LR G n (am_st2 ls i v) l' := by
  refine ⟨h'.1, h'.2.1, fun j w hj => ?_⟩
  unfold am_st2 at hj
  by_cases e0 : j = i + 1
  · exfalso
    subst e0
    have hlt := (List.getElem?_eq_some_iff.mp hj).1
    rw [List.length_set] at hlt
    rw [List.getElem?_set_self hlt] at hj
    cases hj
  rw [List.getElem?_set_ne (Ne.symm e0)] at hj
  by_cases e : j = i
  · subst e
    have hlt : j < ((if 0 < j ∧ am_is2 ls[j - 1]? = true then ls.set (j - 1) none else ls)).length := by
      have := (List.getElem?_eq_some_iff.mp hj).1
      rwa [List.length_set] at this
    rw [List.getElem?_set_self hlt] at hj
    cases hj
    exact ⟨cv, h'.2.2 (j, cv) List.mem_cons_self, hv⟩
  · rw [List.getElem?_set_ne (Ne.symm e)] at hj
    have hj2 : ls[j]? = some (some w) ∧ ¬ (j + 1 = i ∧ am_is2 (some (some w)) = true) := by
      split at hj
      · rename_i hc
        by_cases e2 : i - 1 = j
        · subst e2
          exfalso
          have hlt := (List.getElem?_eq_some_iff.mp hj).1
          rw [List.length_set] at hlt
          rw [List.getElem?_set_self hlt] at hj
          cases hj
        · rw [List.getElem?_set_ne e2] at hj
          exact ⟨hj, fun z => e2 (by omega)⟩
      · rename_i hc
        refine ⟨hj, fun z => hc ⟨by omega, ?_⟩⟩
        rw [show i - 1 = j by omega, hj]
        exact z.2
    obtain ⟨c, e1, e2⟩ := hL.at hj2.1
    refine ⟨c, h'.2.2 (j, c) (List.mem_cons_of_mem _ (List.mem_filter.mpr ⟨am_all_mem.mpr e1, ?_⟩)), e2⟩
    simp only [Bool.and_eq_true, Bool.not_eq_true', beq_eq_false_iff_ne, Bool.and_eq_false_iff]
    refine ⟨e, e0, ?_⟩
    by_cases e3 : j + 1 = i
    · right
      intro e4
      exact hj2.2 ⟨e3, cvr_cat e2 e4⟩
    · left
      exact e3
theorem i64_div {a b : Int64} (ha : 0 ≤ a.toInt) (hb : 0 < b.toInt) : (a / b).toInt = a.toInt / b.toInt := by
  rw [Int64.toInt_div_of_ne_right _ _ (fun e => by rw [e] at hb; exact absurd hb (by decide)), Int.tdiv_eq_ediv_of_nonneg ha]
theorem i64_lo (x : Int64) : -9223372036854775808 ≤ x.toInt := by have := Int64.le_toInt x; simpa using this
theorem i64_hi (x : Int64) : x.toInt ≤ 9223372036854775807 := by
  have h1 := Int64.toInt_lt x
  have h2 : x.toInt < 9223372036854775808 := by simpa using h1
  omega
theorem i64_ne0 {b : Int64} (hb : 0 < b.toInt) : ¬ b = 0 := fun e => by rw [e] at hb; exact absurd hb (by decide)
theorem i64_rem {a b : Int64} (ha : 0 ≤ a.toInt) (hb : 0 < b.toInt) : (a - a / b * b).toInt = a.toInt % b.toInt := by
  rw [Int64.toInt_sub, Int64.toInt_mul, i64_div ha hb]
  have h1 := i64_lo a
  have h2 := i64_hi a
  have h3 : a.toInt / b.toInt * b.toInt ≤ a.toInt := Int.ediv_mul_le _ (by omega)
  have h4 : 0 ≤ a.toInt / b.toInt * b.toInt := Int.mul_nonneg (Int.ediv_nonneg ha (by omega)) (by omega)
  rw [Int.bmod_eq_of_le (n := a.toInt / b.toInt * b.toInt) (by omega) (by omega)]
  have h5 : a.toInt % b.toInt = a.toInt - a.toInt / b.toInt * b.toInt := by
    have := Int.mul_ediv_add_emod a.toInt b.toInt
    rw [Int.mul_comm] at this
    omega
  rw [h5]
  exact Int.bmod_eq_of_le (by omega) (by omega)
section AMS
variable {M : MI} {mc ms : Nat} {Q : Option AV → Tp → Mem → Prop} {pc : Nat} {ls ls' : List (Option AV)} {st : List AV} {t : Tp} {h : Mem} {ck sk : Nat}
theorem aw_istore {i : Nat} {x : Int} (hd : decode M.2.1 pc = .ok (.istore i, 2)) (hn : i < M.2.2.1) (hl : am_st1 ls i (vI x) = ls') (k : AW M mc ms Q (pc + 2) ls' st t h ck sk) : AW M mc ms Q pc ls (vI x :: st) t h ck sk := by
  intro G p l e R s m args below meth c H locs lsC stC C hR hL hS hq
  obtain ⟨a, r, rfl, rfl, hS1⟩ := SR.i hS
  exact lv_istore C.1 C.2.1 hd hL.has hn rfl (fun l2 h2 => k G p l e R s m args below meth c H locs l2 _ C hR (hl ▸ hL.st1 ⟨_, rfl, rfl⟩ h2) hS1 hq)
theorem aw_istore_n {f : Fin 4} {x : Int} (hd : decode M.2.1 pc = .ok (.istore_n f, 1)) (hn : (f : Nat) < M.2.2.1) (hl : am_st1 ls (f : Nat) (vI x) = ls') (k : AW M mc ms Q (pc + 1) ls' st t h ck sk) : AW M mc ms Q pc ls (vI x :: st) t h ck sk := by
  intro G p l e R s m args below meth c H locs lsC stC C hR hL hS hq
  obtain ⟨a, r, rfl, rfl, hS1⟩ := SR.i hS
  exact lv_istore_n C.1 C.2.1 hd rfl hL.has hn rfl (fun l2 h2 => k G p l e R s m args below meth c H locs l2 _ C hR (hl ▸ hL.st1 ⟨_, rfl, rfl⟩ h2) hS1 hq)
theorem aw_astore {i : Nat} {x : Nat} (hd : decode M.2.1 pc = .ok (.astore i, 2)) (hn : i < M.2.2.1) (hl : am_st1 ls i (vR x) = ls') (k : AW M mc ms Q (pc + 2) ls' st t h ck sk) : AW M mc ms Q pc ls (vR x :: st) t h ck sk := by
  intro G p l e R s m args below meth c H locs lsC stC C hR hL hS hq
  obtain ⟨r, rfl, hS1⟩ := SR.r hS
  exact lv_astore C.1 C.2.1 hd hL.has hn rfl (fun l2 h2 => k G p l e R s m args below meth c H locs l2 _ C hR (hl ▸ hL.st1 rfl h2) hS1 hq)
theorem aw_astore_n {f : Fin 4} {x : Nat} (hd : decode M.2.1 pc = .ok (.astore_n f, 1)) (hn : (f : Nat) < M.2.2.1) (hl : am_st1 ls (f : Nat) (vR x) = ls') (k : AW M mc ms Q (pc + 1) ls' st t h ck sk) : AW M mc ms Q pc ls (vR x :: st) t h ck sk := by
  intro G p l e R s m args below meth c H locs lsC stC C hR hL hS hq
  obtain ⟨r, rfl, hS1⟩ := SR.r hS
  exact lv_astore_n C.1 C.2.1 hd rfl hL.has hn rfl (fun l2 h2 => k G p l e R s m args below meth c H locs l2 _ C hR (hl ▸ hL.st1 rfl h2) hS1 hq)
theorem aw_lstore {i : Nat} {x : Int} (hd : decode M.2.1 pc = .ok (.lstore i, 2)) (hn : i + 1 < M.2.2.1) (hl : am_st2 ls i (vL x) = ls') (k : AW M mc ms Q (pc + 2) ls' st t h ck sk) : AW M mc ms Q pc ls (vL x :: st) t h ck sk := by
  intro G p l e R s m args below meth c H locs lsC stC C hR hL hS hq
  obtain ⟨a, r, rfl, rfl, hS1⟩ := SR.l hS
  exact lv_lstore C.1 C.2.1 hd hL.has hn rfl (fun l2 h2 => k G p l e R s m args below meth c H locs l2 _ C hR (hl ▸ hL.st2 ⟨_, rfl, rfl⟩ h2) hS1 hq)
theorem aw_lstore_n {f : Fin 4} {x : Int} (hd : decode M.2.1 pc = .ok (.lstore_n f, 1)) (hn : (f : Nat) + 1 < M.2.2.1) (hl : am_st2 ls (f : Nat) (vL x) = ls') (k : AW M mc ms Q (pc + 1) ls' st t h ck sk) : AW M mc ms Q pc ls (vL x :: st) t h ck sk := by
  intro G p l e R s m args below meth c H locs lsC stC C hR hL hS hq
  obtain ⟨a, r, rfl, rfl, hS1⟩ := SR.l hS
  exact lv_lstore_n C.1 C.2.1 hd rfl hL.has hn rfl (fun l2 h2 => k G p l e R s m args below meth c H locs l2 _ C hR (hl ▸ hL.st2 ⟨_, rfl, rfl⟩ h2) hS1 hq)
theorem aw_iincw {i : Nat} {n x : Int} (hd : decode M.2.1 pc = .ok (.iinc i n, 3)) (hn : i < M.2.2.1) (hx : ls[i]? = some (some (vI x))) (hl : am_st1 ls i (vI (wr (x + n))) = ls') (k : AW M mc ms Q (pc + 3) ls' st t h ck sk) : AW M mc ms Q pc ls st t h ck sk := by
  intro G p l e R s m args below meth c H locs lsC stC C hR hL hS hq
  obtain ⟨_, e1, y, rfl, rfl⟩ := hL.at hx
  obtain ⟨kk, hk⟩ := List.getElem?_of_mem (am_all_mem.mpr e1)
  refine lv_iinc C.1 C.2.1 hd hL.has hk rfl hn rfl (fun l2 h2 => k G p l e R s m args below meth c H locs l2 _ C hR (hl ▸ hL.st1 ⟨_, rfl, ?_⟩ h2) hS hq)
  rw [Int32.toInt_add, Int32.toInt_ofInt]
  unfold wr
  rw [Int32.toInt_ofInt]
  exact Int.add_bmod_bmod
theorem aw_iinc {i : Nat} {n x : Int} (hd : decode M.2.1 pc = .ok (.iinc i n, 3)) (hn : i < M.2.2.1) (hx : ls[i]? = some (some (vI x))) (h1 : -2147483648 ≤ x + n) (h2 : x + n ≤ 2147483647) (hl : am_st1 ls i (vI (x + n)) = ls') (k : AW M mc ms Q (pc + 3) ls' st t h ck sk) : AW M mc ms Q pc ls st t h ck sk :=
  aw_iincw hd hn hx (by rw [wr_of h1 h2]; exact hl) k
theorem cvr_c1 {G : GX} {v : AV} {c : Value} (h : cvr G v c) (h2 : am_is2 (some (some v)) = false) : c.category = 1 := by
  match v, h with
  | .inl (false, i), ⟨x, e, _⟩ => rw [e]; rfl
  | .inl (true, i), _ => exact absurd h2 (by simp [am_is2])
  | .inr none, e => rw [show c = .null from e]; rfl
  | .inr (some a), e => rw [show c = .ref _ from e]; rfl
theorem aw_dup {v : AV} (hd : decode M.2.1 pc = .ok (.dup, 1)) (h2 : am_is2 (some (some v)) = false) (k : AW M mc ms Q (pc + 1) ls (v :: v :: st) t h ck sk) : AW M mc ms Q pc ls (v :: st) t h ck sk := by
  intro G p l e R s m args below meth c H locs lsC stC C hR hL hS hq
  obtain ⟨a, r, rfl, hv, hS1⟩ := SR.cons hS
  exact lv_dup C.1 C.2.1 hd (cvr_c1 hv h2) (k G p l e R s m args below meth c H locs lsC _ C hR hL ⟨hv, hv, hS1⟩ hq)
theorem aw_dup_x1 {v w : AV} (hd : decode M.2.1 pc = .ok (.dup_x1, 1)) (h2 : am_is2 (some (some v)) = false) (h3 : am_is2 (some (some w)) = false) (k : AW M mc ms Q (pc + 1) ls (v :: w :: v :: st) t h ck sk) : AW M mc ms Q pc ls (v :: w :: st) t h ck sk := by
  intro G p l e R s m args below meth c H locs lsC stC C hR hL hS hq
  obtain ⟨a, r, rfl, hv, hS1⟩ := SR.cons hS
  obtain ⟨b, r, rfl, hw, hS2⟩ := SR.cons hS1
  exact lv_dup_x1 C.1 C.2.1 hd (cvr_c1 hv h2) (cvr_c1 hw h3) (k G p l e R s m args below meth c H locs lsC _ C hR hL ⟨hv, hw, hv, hS2⟩ hq)
theorem aw_dup2 {v w : AV} (hd : decode M.2.1 pc = .ok (.dup2, 1)) (h2 : am_is2 (some (some v)) = false) (h3 : am_is2 (some (some w)) = false) (k : AW M mc ms Q (pc + 1) ls (v :: w :: v :: w :: st) t h ck sk) : AW M mc ms Q pc ls (v :: w :: st) t h ck sk := by
  intro G p l e R s m args below meth c H locs lsC stC C hR hL hS hq
  obtain ⟨a, r, rfl, hv, hS1⟩ := SR.cons hS
  obtain ⟨b, r, rfl, hw, hS2⟩ := SR.cons hS1
  exact lv_dup2_11 C.1 C.2.1 hd (cvr_c1 hv h2) (cvr_c1 hw h3) (k G p l e R s m args below meth c H locs lsC _ C hR hL ⟨hv, hw, hv, hw, hS2⟩ hq)
theorem aw_pop {v : AV} (hd : decode M.2.1 pc = .ok (.pop, 1)) (h2 : am_is2 (some (some v)) = false) (k : AW M mc ms Q (pc + 1) ls st t h ck sk) : AW M mc ms Q pc ls (v :: st) t h ck sk := by
  intro G p l e R s m args below meth c H locs lsC stC C hR hL hS hq
  obtain ⟨a, r, rfl, hv, hS1⟩ := SR.cons hS
  exact lv_pop C.1 C.2.1 hd (cvr_c1 hv h2) (k G p l e R s m args below meth c H locs lsC _ C hR hL hS1 hq)
theorem aw_i2l {x : Int} (hd : decode M.2.1 pc = .ok (.i2l, 1)) (k : AW M mc ms Q (pc + 1) ls (vL x :: st) t h ck sk) : AW M mc ms Q pc ls (vI x :: st) t h ck sk := by
  intro G p l e R s m args below meth c H locs lsC stC C hR hL hS hq
  obtain ⟨a, r, rfl, rfl, hS1⟩ := SR.i hS
  exact lv_i2l C.1 C.2.1 hd rfl (k G p l e R s m args below meth c H locs lsC _ C hR hL ⟨⟨_, rfl, Int32.toInt_toInt64 a⟩, hS1⟩ hq)
theorem aw_l2i {x : Int} (hd : decode M.2.1 pc = .ok (.l2i, 1)) (h1 : -2147483648 ≤ x) (h2 : x ≤ 2147483647) (k : AW M mc ms Q (pc + 1) ls (vI x :: st) t h ck sk) : AW M mc ms Q pc ls (vL x :: st) t h ck sk := by
  intro G p l e R s m args below meth c H locs lsC stC C hR hL hS hq
  obtain ⟨a, r, rfl, rfl, hS1⟩ := SR.l hS
  exact lv_l2i C.1 C.2.1 hd rfl (k G p l e R s m args below meth c H locs lsC _ C hR hL ⟨⟨_, rfl, by rw [Int64.toInt_toInt32]; exact Int.bmod_eq_of_le (by omega) (by omega)⟩, hS1⟩ hq)
theorem aw_i2b {x : Int} (hd : decode M.2.1 pc = .ok (.i2b, 1)) (k : AW M mc ms Q (pc + 1) ls (vI (x.bmod 256) :: st) t h ck sk) : AW M mc ms Q pc ls (vI x :: st) t h ck sk := by
  intro G p l e R s m args below meth c H locs lsC stC C hR hL hS hq
  obtain ⟨a, r, rfl, rfl, hS1⟩ := SR.i hS
  exact lv_i2b C.1 C.2.1 hd rfl (k G p l e R s m args below meth c H locs lsC _ C hR hL ⟨⟨_, rfl, by rw [Int8.toInt_toInt32, Int32.toInt_toInt8]⟩, hS1⟩ hq)
theorem aw_i2s {x : Int} (hd : decode M.2.1 pc = .ok (.i2s, 1)) (k : AW M mc ms Q (pc + 1) ls (vI (x.bmod 65536) :: st) t h ck sk) : AW M mc ms Q pc ls (vI x :: st) t h ck sk := by
  intro G p l e R s m args below meth c H locs lsC stC C hR hL hS hq
  obtain ⟨a, r, rfl, rfl, hS1⟩ := SR.i hS
  exact lv_i2s C.1 C.2.1 hd rfl (k G p l e R s m args below meth c H locs lsC _ C hR hL ⟨⟨_, rfl, by rw [Int16.toInt_toInt32, Int32.toInt_toInt16]⟩, hS1⟩ hq)
theorem aw_ladd {x y : Int} (hd : decode M.2.1 pc = .ok (.ladd, 1)) (h1 : -9223372036854775808 ≤ x + y) (h2 : x + y ≤ 9223372036854775807) (k : AW M mc ms Q (pc + 1) ls (vL (x + y) :: st) t h ck sk) : AW M mc ms Q pc ls (vL y :: vL x :: st) t h ck sk := by
  intro G p l e R s m args below meth c H locs lsC stC C hR hL hS hq
  obtain ⟨b, r1, rfl, rfl, hS1⟩ := SR.l hS
  obtain ⟨a, r2, rfl, rfl, hS2⟩ := SR.l hS1
  exact lv_ladd C.1 C.2.1 hd (k G p l e R s m args below meth c H locs lsC _ C hR hL ⟨⟨_, rfl, by rw [Int64.toInt_add]; exact Int.bmod_eq_of_le (by omega) (by omega)⟩, hS2⟩ hq)
theorem aw_lmul {x y : Int} (hd : decode M.2.1 pc = .ok (.lmul, 1)) (h1 : -9223372036854775808 ≤ x * y) (h2 : x * y ≤ 9223372036854775807) (k : AW M mc ms Q (pc + 1) ls (vL (x * y) :: st) t h ck sk) : AW M mc ms Q pc ls (vL y :: vL x :: st) t h ck sk := by
  intro G p l e R s m args below meth c H locs lsC stC C hR hL hS hq
  obtain ⟨b, r1, rfl, rfl, hS1⟩ := SR.l hS
  obtain ⟨a, r2, rfl, rfl, hS2⟩ := SR.l hS1
  exact lv_lmul C.1 C.2.1 hd (k G p l e R s m args below meth c H locs lsC _ C hR hL ⟨⟨_, rfl, by rw [Int64.toInt_mul]; exact Int.bmod_eq_of_le (by omega) (by omega)⟩, hS2⟩ hq)
theorem aw_ldiv {x y : Int} (hd : decode M.2.1 pc = .ok (.ldiv, 1)) (hx : 0 ≤ x) (hy : 0 < y) (k : AW M mc ms Q (pc + 1) ls (vL (x / y) :: st) t h ck sk) : AW M mc ms Q pc ls (vL y :: vL x :: st) t h ck sk := by
  intro G p l e R s m args below meth c H locs lsC stC C hR hL hS hq
  obtain ⟨b, r1, rfl, rfl, hS1⟩ := SR.l hS
  obtain ⟨a, r2, rfl, rfl, hS2⟩ := SR.l hS1
  exact lv_ldiv C.1 C.2.1 hd (i64_ne0 hy) (k G p l e R s m args below meth c H locs lsC _ C hR hL ⟨⟨_, rfl, i64_div hx hy⟩, hS2⟩ hq)
theorem aw_lrem {x y : Int} (hd : decode M.2.1 pc = .ok (.lrem, 1)) (hx : 0 ≤ x) (hy : 0 < y) (k : AW M mc ms Q (pc + 1) ls (vL (x % y) :: st) t h ck sk) : AW M mc ms Q pc ls (vL y :: vL x :: st) t h ck sk := by
  intro G p l e R s m args below meth c H locs lsC stC C hR hL hS hq
  obtain ⟨b, r1, rfl, rfl, hS1⟩ := SR.l hS
  obtain ⟨a, r2, rfl, rfl, hS2⟩ := SR.l hS1
  exact lv_lrem C.1 C.2.1 hd (i64_ne0 hy) (k G p l e R s m args below meth c H locs lsC _ C hR hL ⟨⟨_, rfl, i64_rem hx hy⟩, hS2⟩ hq)
theorem aw_lcmp {x y : Int} (hd : decode M.2.1 pc = .ok (.lcmp, 1)) (k : AW M mc ms Q (pc + 1) ls (vI (if y < x then 1 else if x = y then 0 else -1) :: st) t h ck sk) : AW M mc ms Q pc ls (vL y :: vL x :: st) t h ck sk := by
  intro G p l e R s m args below meth c H locs lsC stC C hR hL hS hq
  obtain ⟨b, r1, rfl, rfl, hS1⟩ := SR.l hS
  obtain ⟨a, r2, rfl, rfl, hS2⟩ := SR.l hS1
  refine W.lcmp C.1 C.2.1 hd (k G p l e R s m args below meth c H locs lsC _ C hR hL ⟨⟨_, rfl, ?_⟩, hS2⟩ hq)
  unfold lg_cmp
  by_cases h1 : b.toInt < a.toInt
  · rw [if_pos (show a > b from Int64.lt_iff_toInt_lt.mpr h1), if_pos h1]; rfl
  · rw [if_neg (show ¬ a > b from fun z => h1 (Int64.lt_iff_toInt_lt.mp z)), if_neg h1]
    by_cases h2 : a.toInt = b.toInt
    · rw [if_pos (Int64.toInt_inj.mp h2), if_pos h2]; rfl
    · rw [if_neg (fun z => h2 (by rw [z])), if_neg h2]; rfl
theorem aw_tableIn {dflt lo hi : Int} {offs : Array Int} {len : Nat} {x off : Int} (tgt : Nat) (hd : decode M.2.1 pc = .ok (.tableswitch dflt lo hi offs, len)) (h1 : ¬ x < lo) (h2 : ¬ hi < x) (ho : offs[(x - lo).toNat]? = some off) (ht : (pc : Int) + off = (tgt : Int)) (k : AW M mc ms Q tgt ls st t h ck sk) : AW M mc ms Q pc ls (vI x :: st) t h ck sk := by
  intro G p l e R s m args below meth c H locs lsC stC C hR hL hS hq
  obtain ⟨a, r, rfl, rfl, hS1⟩ := SR.i hS
  exact lv_tableIn C.1 C.2.1 hd h1 h2 ho ht (k G p l e R s m args below meth c H locs lsC _ C hR hL hS1 hq)
theorem aw_tableOut {dflt lo hi : Int} {offs : Array Int} {len : Nat} {x : Int} (tgt : Nat) (hd : decode M.2.1 pc = .ok (.tableswitch dflt lo hi offs, len)) (h1 : x < lo ∨ hi < x) (ht : (pc : Int) + dflt = (tgt : Int)) (k : AW M mc ms Q tgt ls st t h ck sk) : AW M mc ms Q pc ls (vI x :: st) t h ck sk := by
  intro G p l e R s m args below meth c H locs lsC stC C hR hL hS hq
  obtain ⟨a, r, rfl, rfl, hS1⟩ := SR.i hS
  exact lv_tableOut C.1 C.2.1 hd h1 ht (k G p l e R s m args below meth c H locs lsC _ C hR hL hS1 hq)
theorem aw_lookup {dflt : Int} {ps : Array (Int × Int)} {len : Nat} {x off : Int} (tgt : Nat) (hd : decode M.2.1 pc = .ok (.lookupswitch dflt ps, len)) (hp : (ps.toList.zip (ps.toList.drop 1)).all (fun (a, next) => a.1 < next.1) = true) (ho : Op.lookupswitch.offset ps.toList dflt x = off) (ht : (pc : Int) + off = (tgt : Int)) (k : AW M mc ms Q tgt ls st t h ck sk) : AW M mc ms Q pc ls (vI x :: st) t h ck sk := by
  intro G p l e R s m args below meth c H locs lsC stC C hR hL hS hq
  obtain ⟨a, r, rfl, rfl, hS1⟩ := SR.i hS
  exact lv_lookup C.1 C.2.1 hd hp ho ht (k G p l e R s m args below meth c H locs lsC _ C hR hL hS1 hq)
/-! returns -/
theorem aw_ireturn {x : Int} (hd : decode M.2.1 pc = .ok (.ireturn, 1)) (hr : M.2.2.2.1 = some .int) (hc : ck ≤ mc) (hs : sk ≤ ms) (hQ : Q (some (vI x)) t h) : AW M mc ms Q pc ls [vI x] t h ck sk := by
  intro G p l e R s m args below meth c H locs lsC stC C hR hL hS hq
  obtain ⟨a, r, rfl, rfl, hS1⟩ := SR.i hS
  cases SR.nil hS1
  exact W.widen hc hs (W.iret C.1 C.2.1 (C.2.2.1.trans hr) (fun t2 ht hW => ⟨_, _, _, _, hQ, rfl, ⟨⟨_, rfl, rfl⟩, trivial⟩, by rw [ht]; exact hR⟩) hq hd C.2.2.2.2.2.2.1)
theorem am_bool {x : Int32} (h1 : 0 ≤ x.toInt) (h2 : x.toInt ≤ 1) : narrow .boolean (.int x) = .int x := by
  have h : x = 0 ∨ x = 1 := by
    rcases (show x.toInt = 0 ∨ x.toInt = 1 by omega) with h | h
    · exact Or.inl (Int32.toInt_inj.mp (by rw [h]; rfl))
    · exact Or.inr (Int32.toInt_inj.mp (by rw [h]; rfl))
  rcases h with rfl | rfl <;> rfl
theorem aw_zreturn {x : Int} (hd : decode M.2.1 pc = .ok (.ireturn, 1)) (hr : M.2.2.2.1 = some .boolean) (hc : ck ≤ mc) (hs : sk ≤ ms) (h1 : 0 ≤ x) (h2 : x ≤ 1) (hQ : Q (some (vI x)) t h) : AW M mc ms Q pc ls [vI x] t h ck sk := by
  intro G p l e R s m args below meth c H locs lsC stC C hR hL hS hq
  obtain ⟨a, r, rfl, rfl, hS1⟩ := SR.i hS
  cases SR.nil hS1
  exact W.widen hc hs (W.zret C.1 C.2.1 (C.2.2.1.trans hr) (am_bool h1 h2) (fun t2 ht hW => ⟨_, _, _, _, hQ, rfl, ⟨⟨_, rfl, rfl⟩, trivial⟩, by rw [ht]; exact hR⟩) hq hd C.2.2.2.2.2.2.1)
theorem aw_lreturn {x : Int} (hd : decode M.2.1 pc = .ok (.lreturn, 1)) (hr : M.2.2.2.1 = some .long) (hc : ck ≤ mc) (hs : sk ≤ ms) (hQ : Q (some (vL x)) t h) : AW M mc ms Q pc ls [vL x] t h ck sk := by
  intro G p l e R s m args below meth c H locs lsC stC C hR hL hS hq
  obtain ⟨a, r, rfl, rfl, hS1⟩ := SR.l hS
  cases SR.nil hS1
  exact W.widen hc hs (W.lret C.1 C.2.1 (C.2.2.1.trans hr) (fun t2 ht hW => ⟨_, _, _, _, hQ, rfl, ⟨⟨_, rfl, rfl⟩, trivial⟩, by rw [ht]; exact hR⟩) hq hd C.2.2.2.2.2.2.1)
theorem aw_areturn {x : Nat} {rt : FieldType} (hd : decode M.2.1 pc = .ok (.areturn, 1)) (hr : M.2.2.2.1 = some rt) (hrt : (∃ n, rt = .object n) ∨ ∃ t, rt = .array t) (hc : ck ≤ mc) (hs : sk ≤ ms) (hQ : Q (some (vR x)) t h) : AW M mc ms Q pc ls [vR x] t h ck sk := by
  intro G p l e R s m args below meth c H locs lsC stC C hR hL hS hq
  obtain ⟨r, rfl, hS1⟩ := SR.r hS
  cases SR.nil hS1
  exact W.widen hc hs (W.aret C.1 C.2.1 (C.2.2.1.trans hr) hrt (Or.inr ⟨_, rfl⟩) (fun t2 ht hW => ⟨_, _, _, _, hQ, rfl, ⟨rfl, trivial⟩, by rw [ht]; exact hR⟩) hq hd C.2.2.2.2.2.2.1)
theorem aw_return (hd : decode M.2.1 pc = .ok (.return_, 1)) (hr : M.2.2.2.1 = none) (hc : ck ≤ mc) (hs : sk ≤ ms) (hQ : Q none t h) : AW M mc ms Q pc ls [] t h ck sk := by
  intro G p l e R s m args below meth c H locs lsC stC C hR hL hS hq
  cases SR.nil hS
  exact W.widen hc hs (W.vret C.1 C.2.1 (C.2.2.1.trans hr) (fun t2 ht hW => ⟨_, _, _, none, hQ, rfl, trivial, by rw [ht]; exact hR⟩) hq hd C.2.2.2.2.2.2.1)
end AMS
end
section
theorem ws_of {w : Cond} (i : Nat) (h : tables_1[i]? = some w) (hg : goodWord w = true) : w ∈ WS := List.mem_filter.mpr ⟨by unfold lw_tbl; exact List.mem_append_right _ (List.mem_of_getElem? h), hg⟩
def KF (C : String) (T : u_T) (N : Nat) : Prop := (∀ w ∈ u_ws C T N, w ∈ WS) ∧ (∃ ty : Nat → FieldType, ∀ k, k < N → parseFieldDescriptor (T k).2.2.1 = some (ty k)) ∧ ∀ a, a < N → ∀ b, b < N → a ≠ b → (T a).2.1 ≠ (T b).2.1
/-- a field by its pool number: of kind ci, place j; b: whether a reference -/
def FX (b : Bool) (own : String) (idx ci : Nat) (j : Int) (N : Nat) : Prop := ∃ (C : String) (T : u_T) (k : Nat), vwCl[ci]? = some (C, T, N) ∧ (k : Int) = j ∧ k < N ∧ ci < 20 ∧ am_isR ci k = b ∧ Cond.fieldLink own idx (T k).1 (T k).2.1 (T k).2.2.1 ∈ WS ∧ KF C T N
/-- the same, and what may be stored -/
def FP (b fin : Bool) (ty : FieldType) (own : String) (idx ci : Nat) (j : Int) (N : Nat) : Prop := ∃ (C : String) (T : u_T) (k : Nat), vwCl[ci]? = some (C, T, N) ∧ (k : Int) = j ∧ k < N ∧ ci < 20 ∧ am_isR ci k = b ∧ Cond.fieldLink own idx (T k).1 (T k).2.1 (T k).2.2.1 ∈ WS ∧ KF C T N ∧ parseFieldDescriptor (T k).2.2.1 = some ty ∧ (T k).2.2.2 = fin ∧ (fin = true → (T k).1 = own)
theorem Rp.lt {G : GX} {t : Tp} {h : Mem} {H : Heap} {U : State} (hR : Rp G t h H) (hG : am_st G U) {a k N : Nat} (hk : t.2.1 a = (k, N)) (h1 : k ≠ 99) (h2 : k ≠ 20) (h3 : k ≠ 21) : a < t.1 := by
  refine Decidable.byContradiction fun hn => ?_
  by_cases hs : a < 1000000
  · have := hR.2.2.2.2.1 a (by omega) hs
    rw [hk] at this
    exact h1 this
  · have e := (hR.2.2.2.2.2 a (by omega)).2
    rcases hG a (by omega) with h | ⟨_, _, _, _, h, _⟩
    · rw [← e, hk] at h
      exact h1 h
    · rw [← e, hk] at h
      rcases h with h | h
      · exact h2 h.1
      · exact h3 h.1
theorem Rp.lt2 {G : GX} {t : Tp} {h : Mem} {H : Heap} (hR : Rp G t h H) {a k N : Nat} (hk : t.2.1 a = (k, N)) (h1 : k ≠ 99) (h2 : a < 1000000) : a < t.1 := by
  refine Decidable.byContradiction fun hn => ?_
  have := hR.2.2.2.2.1 a (by omega) h2
  rw [hk] at this
  exact h1 this
theorem rho_lt {G : GX} {a : Nat} (h : a < 1000000) : rho G a = G.1.size + a := if_pos h
theorem Rp.at {G : GX} {t : Tp} {h : Mem} {H : Heap} (hR : Rp G t h H) {a : Nat} (ha : a < t.1) : rho G a = G.1.size + a := rho_lt (Nat.lt_of_lt_of_le ha hR.2.1)
/-- one cell is another -/
theorem Rp.upd {G : GX} {t t' : Tp} {h h' : Mem} {H H' : Heap} {a : Nat} (hR : Rp G t h H) (ha : a < t.1) (e1 : t'.1 = t.1) (e2 : t'.2.1 = t.2.1) (e3 : ∀ b, b ≠ a → h' b = h b ∧ t'.2.2 b = t.2.2 b)
    (hc : cok G t' h' a H') (hz : H'.size = H.size) (ho : ∀ q, q ≠ G.1.size + a → H'[q]? = H[q]?) : Rp G t' h' H' := by
  obtain ⟨r1, r2, r3, r4, r5, r6⟩ := hR
  refine ⟨by rw [hz, r1, e1], by rw [e1]; exact r2, fun q hq => ?_, fun b hb => ?_, fun b h1 h2 => ?_, fun b hb => ?_⟩
  · rw [ho q (by omega)]; exact r3 q hq
  · by_cases e : b = a
    · rw [e]; exact hc
    · obtain ⟨cell, q1, q2, q3, q4, q5⟩ := r4 b (by rw [← e1]; exact hb)
      obtain ⟨e4, e5⟩ := e3 b e
      refine ⟨cell, by rw [ho _ (by omega)]; exact q1, q2, by rw [e2]; exact q3, by rw [e2]; exact q4, fun j hj => ?_⟩
      rw [e2] at hj ⊢
      obtain ⟨v, q6, q7⟩ := q5 j hj
      refine ⟨v, q6, ?_⟩
      unfold am_sl at q7 ⊢
      rw [e2, e4, e5]
      exact q7
  · rw [e2]; exact r5 b (by rw [← e1]; exact h1) h2
  · have hne : b ≠ a := by omega
    rw [(e3 b hne).1, e2]
    exact r6 b hb
theorem setSlot_self {cell : Cell} {i : Nat} {v : Value} (h : i < cell.slots.size) : (cell.setSlot i v).slots[i]? = some v := by simp [Cell.setSlot, h]
theorem setSlot_ne {cell : Cell} {i j : Nat} {v : Value} (h : i ≠ j) : (cell.setSlot i v).slots[j]? = cell.slots[j]? := by simp [Cell.setSlot, Array.getElem?_setIfInBounds, h]
theorem arrV_of {c : ClassId} {N : Nat} {f : Nat → Value} {cell : Cell} (e : cell = arrV c N f) : cell.slots.size = N := by rw [e]; exact arrV_size c N f
theorem am_nu : VmData.none ≠ VmData.unknown := fun h => by cases h
section AMH
variable {M : MI} {mc ms : Nat} {Q : Option AV → Tp → Mem → Prop} {pc : Nat} {ls ls' : List (Option AV)} {st : List AV} {t : Tp} {h : Mem} {ck sk : Nat}
theorem aw_getI {idx ci N a : Nat} {j : Int} (hd : decode M.2.1 pc = .ok (.getfield idx, 3)) (hl : FX false M.2.2.2.2.1 idx ci j N) (hk : t.2.1 a = (ci, N)) (k : AW M mc ms Q (pc + 3) ls (vI (h a j) :: st) t h ck sk) : AW M mc ms Q pc ls (vR a :: st) t h ck sk := by
  intro G p l e R s m args below meth c H locs lsC stC C hR hL hS hq
  obtain ⟨r, rfl, hS1⟩ := SR.r hS
  obtain ⟨CC, T, kk, h1, rfl, h3, h4, h5, h6, h7, -⟩ := hl
  have hG : GW G s := C.2.2.2.2.2.2.2.2.2.2.2.1
  have ha := hR.lt hG.2.1 hk (by omega) (by omega) (by omega)
  obtain ⟨cell, q1, q2, q3, q4, q5⟩ := hR.2.2.2.1 a ha
  rw [hk] at q3 q5
  obtain ⟨v, q6, q7⟩ := q5 kk h3
  obtain ⟨hS0, hfc, kC, hkC, hkind⟩ := hG.1.1 ci _ h1
  obtain ⟨cf, kf, fi, f, hi, hsl⟩ := hS0 kk h3
  obtain ⟨y, rfl, hy⟩ := q7.2 (by rw [hk]; exact h5)
  refine W.getf C.1 C.2.1 C.2.2.2.2.1 (C.2.2.2.2.2.1 _ h6) hi (u_facts hfc hkC (u_lays C.2.2.2.2.2.1 h7 h3) hi).1 (cell := cell) (by rw [hR.at ha]; exact q1) (by rw [q2]; exact am_nu) (v := .int y) ?_ rfl rfl hd (k G p l e R s m args below meth c H locs lsC _ C hR hL ⟨⟨_, rfl, hy⟩, hS1⟩ hq)
  rw [hsl]
  simpa [am_pos, h4] using q6
theorem aw_getR {idx ci N a : Nat} {j : Int} {r0 : Option Nat} (hd : decode M.2.1 pc = .ok (.getfield idx, 3)) (hl : FX true M.2.2.2.2.1 idx ci j N) (hk : t.2.1 a = (ci, N)) (hr : t.2.2 a j = r0) (k : AW M mc ms Q (pc + 3) ls (vQ r0 :: st) t h ck sk) : AW M mc ms Q pc ls (vR a :: st) t h ck sk := by
  intro G p l e R s m args below meth c H locs lsC stC C hR hL hS hq
  obtain ⟨r, rfl, hS1⟩ := SR.r hS
  obtain ⟨CC, T, kk, h1, rfl, h3, h4, h5, h6, h7, -⟩ := hl
  have hG : GW G s := C.2.2.2.2.2.2.2.2.2.2.2.1
  have ha := hR.lt hG.2.1 hk (by omega) (by omega) (by omega)
  obtain ⟨cell, q1, q2, q3, q4, q5⟩ := hR.2.2.2.1 a ha
  rw [hk] at q3 q5
  obtain ⟨v, q6, q7⟩ := q5 kk h3
  obtain ⟨hS0, hfc, kC, hkC, hkind⟩ := hG.1.1 ci _ h1
  obtain ⟨cf, kf, fi, f, hi, hsl⟩ := hS0 kk h3
  have hv := q7.1 (by rw [hk]; exact h5)
  rw [hr] at hv
  refine W.getf C.1 C.2.1 C.2.2.2.2.1 (C.2.2.2.2.2.1 _ h6) hi (u_facts hfc hkC (u_lays C.2.2.2.2.2.1 h7 h3) hi).1 (cell := cell) (by rw [hR.at ha]; exact q1) (by rw [q2]; exact am_nu) (v := v) ?_ rfl rfl hd (k G p l e R s m args below meth c H locs lsC _ C hR hL ⟨hv, hS1⟩ hq)
  rw [hsl]
  simpa [am_pos, h4] using q6
/-- a store into a field, as the kit has it -/
theorem am_put {G : GX} {idx ci N a : Nat} {j : Int} {b fin : Bool} {ty : FieldType} {v : Value} {t' : Tp} {h' : Mem} {p : Program} {l : Launch} {e : Env} {R : Room} {s : State} {m : MethodId} {args : Array Value} {below : List Frame} {meth : Method} {c : Code} {H : Heap} {locs : List Loc} {lsC : Array Slot} {rest : List Value} {QC : State → Prop}
    (C : CX M G mc ms p R s m args meth c) (hR : Rp G t h H) (hd : decode M.2.1 pc = .ok (.putfield idx, 3)) (hl : FP b fin ty M.2.2.2.2.1 idx ci j N) (hfi : fin = true → M.1.name = "<init>") (hk : t.2.1 a = (ci, N)) (hn : narrow ty v = v) (hf : fits ty v = true)
    (e1 : t'.1 = t.1) (e2 : t'.2.1 = t.2.1) (e3 : ∀ b, b ≠ a → h' b = h b ∧ t'.2.2 b = t.2.2 b) (e4 : ∀ i : Nat, (i : Int) ≠ j → h' a i = h a i ∧ t'.2.2 a i = t.2.2 a i) (e5 : ∀ i : Nat, (i : Int) = j → am_isR ci i = b → am_sl G t' h' a i v)
    (hq : ∀ q ∈ locs, G.1.size ≤ q.base) (kk : ∀ (H' : Heap) (locs' : List Loc), Rp G t' h' H' → (∀ q ∈ locs', G.1.size ≤ q.base) → W p l e R s m args below meth c H' locs' ck sk QC (F0 m (pc + 3) lsC rest)) :
    W p l e R s m args below meth c H locs ck sk QC (F0 m pc lsC (v :: .ref (rho G a) :: rest)) := by
  obtain ⟨CC, T, kf0, h1, h2, h3, h4, h5, h6, h7, h8, h9, h10⟩ := hl
  have hG : GW G s := C.2.2.2.2.2.2.2.2.2.2.2.1
  have hts := C.2.2.2.2.2.1
  have ha := hR.lt hG.2.1 hk (by omega) (by omega) (by omega)
  obtain ⟨cell, q1, q2, q3, q4, q5⟩ := hR.2.2.2.1 a ha
  rw [hk] at q3 q4 q5
  obtain ⟨v0, q6, q7⟩ := q5 kf0 h3
  obtain ⟨ty0, hty0⟩ := h7.2.1
  have hap := va_apart (own := M.2.2.2.2.1) hts h7.1 ty0 hty0 h7.2.2 hG.1 h1
  obtain ⟨hS0, hfc, kC, hkC, hkind⟩ := hG.1.1 ci _ h1
  obtain ⟨cf, kf, fi, f, hi, hsl⟩ := hS0 kf0 h3
  have hlay := hts _ (h7.1 _ (u_in_lay h3))
  have hst := (u_facts hfc hkC (u_lays hts h7.1 h3) hi).1
  have hps : ∀ i, am_pos G ci i = G.2.1.2 ci i := fun i => if_pos h4
  have hcl : cell.cls = G.2.1.1 ci := by rw [q3]; exact if_pos h4
  have hlt : f.slot < cell.slots.size := by rw [hsl, ← hps]; exact k2_hasslot q6
  have fin2 : ∀ H' : Heap, H'[rho G a]? = some (cell.setSlot f.slot v) → H'.size = H.size → (∀ q, q ≠ rho G a → H'[q]? = H[q]?) → Rp G t' h' H' := by
    intro H' g1 g2 g3
    rw [hR.at ha] at g1 g3
    refine hR.upd ha e1 e2 e3 ⟨_, g1, q2, by rw [e2, hk]; exact q3, by rw [e2, hk]; intro hc; omega, fun i hi2 => ?_⟩ g2 g3
    rw [e2, hk] at hi2 ⊢
    by_cases ei : (i : Int) = j
    · have ei2 : i = kf0 := by omega
      refine ⟨v, ?_, e5 i ei (by rw [ei2]; exact h5)⟩
      show (cell.setSlot f.slot v).slots[am_pos G ci i]? = _
      rw [hps, ei2, hsl]
      rw [hsl] at hlt
      exact setSlot_self hlt
    · obtain ⟨v1, q8, q9⟩ := q5 i hi2
      refine ⟨v1, ?_, ?_⟩
      · show (cell.setSlot f.slot v).slots[am_pos G ci i]? = _
        rw [setSlot_ne, q8]
        rw [hsl, hps]
        exact hap kf0 i h3 hi2 (by omega)
      · obtain ⟨e6, e7⟩ := e4 i ei
        unfold am_sl at q9 ⊢
        rw [e2, e6, e7]
        exact q9
  have hq2 : ∀ q ∈ locs ++ [⟨rho G a, f.slot⟩], G.1.size ≤ q.base := by
    intro q hq3
    rcases List.mem_append.mp hq3 with h | h
    · exact hq q h
    · rw [List.mem_singleton.mp h]
      show G.1.size ≤ rho G a
      rw [hR.at ha]
      omega
  cases fin with
  | false =>
    unfold u_lay at hlay
    rw [if_neg (by rw [h9]; decide)] at hlay
    have h6' := u_store hfc hkC hkind hlay hi h8 hn hf
    exact W.putK C.1 C.2.1 (f := f) ⟨C.2.2.2.2.1, hts _ h6, ⟨_, _, _, hi⟩, hst⟩ (by rw [hcl]; exact h6') (cell := cell) (by rw [hR.at ha]; exact q1) q2 hlt rfl rfl hd fun H' g1 g2 g3 => kk H' _ (fin2 H' g1 g2 g3) hq2
  | true =>
    unfold u_lay at hlay
    rw [if_pos h9] at hlay
    have hcf : m.cls = cf := by
      obtain ⟨_, _, c', _, _, _, -, -, hf', -, -, -, hown2, -⟩ := Cond.laysFinal_spec hlay
      have e1 : c' = cf := by have := hi.symm.trans hf'; simp at this; exact this.1.symm
      rw [h10 rfl] at hown2
      rw [← e1]; exact Option.some.inj (C.2.2.2.2.1.symm.trans hown2)
    have h6' := u_fits hfc hkC hkind (Or.inr hlay) hi h8 hn hf
    exact W.putFinK C.1 C.2.1 C.2.2.2.2.1 (hts _ h6) hi hst hcf (C.2.2.2.2.2.2.2.2.2.2.2.2.trans (hfi rfl)) (by rw [hcl]; exact h6') (cell := cell) (by rw [hR.at ha]; exact q1) q2 hlt rfl rfl hd fun H' g1 g2 g3 => kk H' _ (fin2 H' g1 g2 g3) hq2
theorem am_up_ne {h : Mem} {a b : Nat} {k v : Int} (e : b ≠ a) : am_up h a k v b = h b := by funext j; simp [am_up, e]
theorem am_upR_ne {h : Nat → Int → Option Nat} {a b : Nat} {k : Int} {v : Option Nat} (e : b ≠ a) : am_upR h a k v b = h b := by funext j; simp [am_upR, e]
theorem aw_putI {idx ci N a : Nat} {j x : Int} (hd : decode M.2.1 pc = .ok (.putfield idx, 3)) (hl : FP false false .int M.2.2.2.2.1 idx ci j N) (hk : t.2.1 a = (ci, N)) (k : AW M mc ms Q (pc + 3) ls st t (am_up h a j x) ck sk) : AW M mc ms Q pc ls (vI x :: vR a :: st) t h ck sk := by
  intro G p l e R s m args below meth c H locs lsC stC C hR hL hS hq
  obtain ⟨y, r, rfl, rfl, hS1⟩ := SR.i hS
  obtain ⟨r, rfl, hS2⟩ := SR.r hS1
  refine am_put C hR hd hl (fun z => by cases z) hk rfl rfl (t' := t) (h' := am_up h a j y.toInt) rfl rfl (fun b hb => ⟨am_up_ne hb, rfl⟩) (fun i hi => ⟨by simp [am_up, hi], rfl⟩) (fun i hi hr => ?_) hq (fun H' locs' g1 g2 => k G p l e R s m args below meth c H' locs' lsC _ C g1 hL hS2 g2)
  refine ⟨fun z => ?_, fun _ => ⟨y, rfl, by simp [am_up, hi]⟩⟩
  rw [hk, hr] at z
  cases z
theorem aw_putZ {idx ci N a : Nat} {j x : Int} (hd : decode M.2.1 pc = .ok (.putfield idx, 3)) (hl : FP false false .boolean M.2.2.2.2.1 idx ci j N) (hk : t.2.1 a = (ci, N)) (h1 : 0 ≤ x) (h2 : x ≤ 1) (k : AW M mc ms Q (pc + 3) ls st t (am_up h a j x) ck sk) : AW M mc ms Q pc ls (vI x :: vR a :: st) t h ck sk := by
  intro G p l e R s m args below meth c H locs lsC stC C hR hL hS hq
  obtain ⟨y, r, rfl, rfl, hS1⟩ := SR.i hS
  obtain ⟨r, rfl, hS2⟩ := SR.r hS1
  have hy : y = 0 ∨ y = 1 := by
    rcases (show y.toInt = 0 ∨ y.toInt = 1 by omega) with h | h
    · exact Or.inl (Int32.toInt_inj.mp (by rw [h]; rfl))
    · exact Or.inr (Int32.toInt_inj.mp (by rw [h]; rfl))
  refine am_put C hR hd hl (fun z => by cases z) hk (am_bool h1 h2) (by rcases hy with rfl | rfl <;> rfl) (t' := t) (h' := am_up h a j y.toInt) rfl rfl (fun b hb => ⟨am_up_ne hb, rfl⟩) (fun i hi => ⟨by simp [am_up, hi], rfl⟩) (fun i hi hr => ?_) hq (fun H' locs' g1 g2 => k G p l e R s m args below meth c H' locs' lsC _ C g1 hL hS2 g2)
  refine ⟨fun z => ?_, fun _ => ⟨y, rfl, by simp [am_up, hi]⟩⟩
  rw [hk, hr] at z
  cases z
theorem aw_putR {idx ci N a b : Nat} {j : Int} {fin : Bool} {ty : FieldType} (hd : decode M.2.1 pc = .ok (.putfield idx, 3)) (hl : FP true fin ty M.2.2.2.2.1 idx ci j N) (hfi : fin = true → M.1.name = "<init>") (hty : ∀ z : Nat, narrow ty (.ref z) = .ref z ∧ fits ty (.ref z) = true) (hk : t.2.1 a = (ci, N)) (k : AW M mc ms Q (pc + 3) ls st (t.1, t.2.1, am_upR t.2.2 a j (some b)) h ck sk) : AW M mc ms Q pc ls (vR b :: vR a :: st) t h ck sk := by
  intro G p l e R s m args below meth c H locs lsC stC C hR hL hS hq
  obtain ⟨r, rfl, hS1⟩ := SR.r hS
  obtain ⟨r, rfl, hS2⟩ := SR.r hS1
  refine am_put C hR hd hl hfi hk (hty _).1 (hty _).2 (t' := (t.1, t.2.1, am_upR t.2.2 a j (some b))) (h' := h) rfl rfl (fun b hb => ⟨rfl, am_upR_ne hb⟩) (fun i hi => ⟨rfl, by simp [am_upR, hi]⟩) (fun i hi hr => ?_) hq (fun H' locs' g1 g2 => k G p l e R s m args below meth c H' locs' lsC _ C g1 hL hS2 g2)
  refine ⟨fun _ => by simp [am_upR, hi, va_rf], fun z => ?_⟩
  change am_isR (t.2.1 a).1 i = false at z
  rw [hk, hr] at z
  cases z
theorem am_in {i : Int32} {N : Nat} (h0 : 0 ≤ i.toInt) (h1 : i.toInt < (N : Int)) : ¬ (i < 0 ∨ N ≤ i.toNatClampNeg) := by
  rintro (h | h)
  · exact absurd (am0_lt.mp h) (by omega)
  · rw [i32_clamp] at h
    omega
theorem am_nat {i : Int} (h0 : 0 ≤ i) : ((i.toNat : Nat) : Int) = i := Int.toNat_of_nonneg h0
/-- an array of numbers, wherever it lies -/
theorem Rp.arr {G : GX} {H : Heap} {U : State} (hR : Rp G t h H) (hG : GW G U) {a N : Nat} (hk : t.2.1 a = (20, N)) : ∃ cell : Cell, H[rho G a]? = some cell ∧ cell.vm ≠ .unknown ∧ U.isArrayOf cell .int ∧ cell.slots.size = N ∧ ∀ j : Nat, j < N → ∃ x : Int32, cell.slots[j]? = some (.int x) ∧ x.toInt = h a (j : Int) := by
  by_cases hs : a < 1000000
  · have ha := hR.lt2 hk (by omega) hs
    obtain ⟨cell, q1, q2, q3, q4, q5⟩ := hR.2.2.2.1 a ha
    rw [hk] at q4 q5
    obtain ⟨f, hf⟩ := q4 (Nat.le_refl 20)
    refine ⟨cell, by rw [hR.at ha]; exact q1, by rw [q2]; exact am_nu, ?_, arrV_of hf, fun j hj => ?_⟩
    · rw [hf]
      exact (hG.1.2 0 _ rfl).1 _ _
    · obtain ⟨v, q6, q7⟩ := q5 j hj
      obtain ⟨x, rfl, hx⟩ := q7.2 (by rw [hk]; rfl)
      exact ⟨x, q6, hx⟩
  · obtain ⟨e1, e2⟩ := hR.2.2.2.2.2 a (by omega)
    rcases hG.2.1 a (by omega) with h | ⟨cell, q1, q2, q3, q4, q5⟩
    · rw [← e2, hk] at h; cases h
    · rw [← e2, hk] at q3 q4 q5
      have hlt := (Array.getElem?_eq_some_iff.mp q1).1
      refine ⟨cell, ?_, q2, ?_, q3, fun j hj => ?_⟩
      · unfold rho
        rw [if_neg hs, hR.2.2.1 _ hlt]
        exact q1
      · rcases q4 with z | z
        · exact z.2
        · cases z.1
      · obtain ⟨x, z1, z2⟩ := q5 j hj
        exact ⟨x, z1, by rw [z2, e1]⟩
theorem aw_iaload {a N : Nat} {i : Int} (hd : decode M.2.1 pc = .ok (.iaload, 1)) (hk : t.2.1 a = (20, N)) (h0 : 0 ≤ i) (h1 : i < (N : Int)) (k : AW M mc ms Q (pc + 1) ls (vI (h a i) :: st) t h ck sk) : AW M mc ms Q pc ls (vI i :: vR a :: st) t h ck sk := by
  intro G p l e R s m args below meth c H locs lsC stC C hR hL hS hq
  obtain ⟨y, r, rfl, rfl, hS1⟩ := SR.i hS
  obtain ⟨r, rfl, hS2⟩ := SR.r hS1
  have hG : GW G s := C.2.2.2.2.2.2.2.2.2.2.2.1
  obtain ⟨cell, q1, q2, q3, q4, q5⟩ := hR.arr hG hk
  obtain ⟨x, q6, q7⟩ := q5 y.toInt.toNat (by omega)
  rw [am_nat h0] at q7
  exact W.iald C.1 C.2.1 q1 q3 q2 (by rw [q4]; exact am_in h0 h1) q6 rfl rfl hd (k G p l e R s m args below meth c H locs lsC _ C hR hL ⟨⟨_, rfl, q7⟩, hS2⟩ hq)
theorem aw_arraylength {a N : Nat} {n : Int} (hd : decode M.2.1 pc = .ok (.arraylength, 1)) (hk : t.2.1 a = (20, N)) (hN : (N : Int) = n) (hs : N < 2147483648) (k : AW M mc ms Q (pc + 1) ls (vI n :: st) t h ck sk) : AW M mc ms Q pc ls (vR a :: st) t h ck sk := by
  intro G p l e R s m args below meth c H locs lsC stC C hR hL hS hq
  obtain ⟨r, rfl, hS2⟩ := SR.r hS
  have hG : GW G s := C.2.2.2.2.2.2.2.2.2.2.2.1
  obtain ⟨cell, q1, q2, q3, q4, q5⟩ := hR.arr hG hk
  refine W.alen C.1 C.2.1 q1 q3 rfl rfl rfl hd (k G p l e R s m args below meth c H locs lsC _ C hR hL ⟨⟨_, rfl, ?_⟩, hS2⟩ hq)
  rw [q4, ← hN]
  exact toInt_of rfl hs
theorem aw_iastore {a N : Nat} {i x : Int} (hd : decode M.2.1 pc = .ok (.iastore, 1)) (hk : t.2.1 a = (20, N)) (ha : a < 1000000) (h0 : 0 ≤ i) (h1 : i < (N : Int)) (k : AW M mc ms Q (pc + 1) ls st t (am_up h a i x) ck sk) : AW M mc ms Q pc ls (vI x :: vI i :: vR a :: st) t h ck sk := by
  intro G p l e R s m args below meth c H locs lsC stC C hR hL hS hq
  obtain ⟨z, r, rfl, rfl, hS0⟩ := SR.i hS
  obtain ⟨y, r, rfl, rfl, hS1⟩ := SR.i hS0
  obtain ⟨r, rfl, hS2⟩ := SR.r hS1
  have hG : GW G s := C.2.2.2.2.2.2.2.2.2.2.2.1
  have ha2 := hR.lt2 hk (by omega) ha
  obtain ⟨cell, q1, q2, q3, q4, q5⟩ := hR.2.2.2.1 a ha2
  rw [hk] at q3 q4 q5
  obtain ⟨f, hf⟩ := q4 (Nat.le_refl 20)
  have hsz := arrV_of hf
  refine W.iast C.1 C.2.1 (cell := cell) (by rw [hR.at ha2]; exact q1) (by rw [hf]; exact (hG.1.2 0 _ rfl).1 _ _) (by rw [q2]; exact am_nu) (by rw [hsz]; exact am_in h0 h1) rfl rfl hd (fun H' g1 g2 g3 => k G p l e R s m args below meth c H' _ lsC _ C ?_ hL hS2 ?_)
  · rw [hR.at ha2] at g1 g3
    refine hR.upd ha2 rfl rfl (fun b hb => ⟨am_up_ne hb, rfl⟩) ⟨_, g1, q2, by rw [hk]; exact q3, fun _ => ?_, fun i hi => ?_⟩ g2 g3
    · rw [hk, hf, arrV_store]
      exact ⟨_, rfl⟩
    · rw [hk] at hi ⊢
      have e : am_pos G 20 i = i := if_neg (by decide)
      show ∃ v, (cell.setSlot y.toNatClampNeg (.int z)).slots[am_pos G 20 i]? = some v ∧ _
      rw [e]
      by_cases ei : y.toNatClampNeg = i
      · refine ⟨.int z, by rw [ei]; exact setSlot_self (by rw [hsz]; exact hi), ⟨fun hr => (by rw [hk] at hr; cases hr), fun _ => ⟨z, rfl, ?_⟩⟩⟩
        rw [i32_clamp] at ei
        have : (i : Int) = y.toInt := by omega
        simp [am_up, this]
      · obtain ⟨v, q6, q7⟩ := q5 i hi
        rw [show am_pos G (20, N).1 i = i from e] at q6
        refine ⟨v, by rw [setSlot_ne ei]; exact q6, ?_⟩
        have : ¬ (i : Int) = y.toInt := by rw [i32_clamp] at ei; omega
        unfold am_sl at q7 ⊢
        simpa [am_up, this] using q7
  · intro q hq3
    rcases List.mem_append.mp hq3 with h | h
    · exact hq q h
    · rw [List.mem_singleton.mp h]
      show G.1.size ≤ rho G a
      rw [hR.at ha2]
      omega
theorem aw_aaload {a N kd : Nat} {i : Int} {r0 : Option Nat} (hd : decode M.2.1 pc = .ok (.aaload, 1)) (hk : t.2.1 a = (kd, N)) (hkd : kd = 23 ∨ kd = 24) (h0 : 0 ≤ i) (h1 : i < (N : Int)) (hr : t.2.2 a i = r0) (k : AW M mc ms Q (pc + 1) ls (vQ r0 :: st) t h ck sk) : AW M mc ms Q pc ls (vI i :: vR a :: st) t h ck sk := by
  intro G p l e R s m args below meth c H locs lsC stC C hR hL hS hq
  obtain ⟨y, r, rfl, rfl, hS1⟩ := SR.i hS
  obtain ⟨r, rfl, hS2⟩ := SR.r hS1
  have hG : GW G s := C.2.2.2.2.2.2.2.2.2.2.2.1
  have ha2 := hR.lt hG.2.1 hk (by omega) (by omega) (by omega)
  obtain ⟨cell, q1, q2, q3, q4, q5⟩ := hR.2.2.2.1 a ha2
  rw [hk] at q3 q4 q5
  obtain ⟨f, hf⟩ := q4 (show 20 ≤ kd by omega)
  have hsz := arrV_of hf
  obtain ⟨v, q6, q7⟩ := q5 y.toInt.toNat (show _ < N by omega)
  have epos : am_pos G kd y.toInt.toNat = y.toInt.toNat := if_neg (by omega)
  rw [show am_pos G (kd, N).1 y.toInt.toNat = _ from epos] at q6
  have hv := q7.1 (by rw [hk]; rcases hkd with rfl | rfl <;> rfl)
  rw [am_nat h0, hr] at hv
  rcases hkd with rfl | rfl
  · exact W.aald C.1 C.2.1 (cell := cell) (by rw [hR.at ha2]; exact q1) (by rw [hf]; exact (hG.1.2 3 _ rfl).1 _ _) rfl (by rw [q2]; exact am_nu) (by rw [hsz]; exact am_in h0 h1) q6 rfl rfl hd (k G p l e R s m args below meth c H locs lsC _ C hR hL ⟨hv, hS2⟩ hq)
  · exact W.aald C.1 C.2.1 (cell := cell) (by rw [hR.at ha2]; exact q1) (by rw [hf]; exact (hG.1.2 4 _ rfl).1 _ _) rfl (by rw [q2]; exact am_nu) (by rw [hsz]; exact am_in h0 h1) q6 rfl rfl hd (k G p l e R s m args below meth c H locs lsC _ C hR hL ⟨hv, hS2⟩ hq)
end AMH
end
section
def am_ent : List AV → List (Option AV)
  | [] => []
  | .inl (true, i) :: vs => some (.inl (true, i)) :: none :: am_ent vs
  | .inl (false, i) :: vs => some (.inl (false, i)) :: am_ent vs
  | .inr r :: vs => some (.inr r) :: am_ent vs
def am_loc (n : Nat) (as : List AV) : List (Option AV) := am_ent as ++ List.replicate (n - (am_ent as).length) none
theorem am_ent_at {G : GX} : ∀ {as : List AV} {vs : List Value}, SR G as vs → (lg_sl vs).length = (am_ent as).length ∧ ∀ (i : Nat) (v : AV), (am_ent as)[i]? = some (some v) → ∃ c, (lg_sl vs)[i]? = some (.val c) ∧ cvr G v c
  | [], vs, h => by
    cases SR.nil h
    exact ⟨rfl, fun i v hi => by simp [am_ent] at hi⟩
  | .inl (true, i0) :: as, vs, h => by
    obtain ⟨y, r, rfl, e, h2⟩ := SR.l h
    obtain ⟨g1, g2⟩ := am_ent_at h2
    have e0 : lg_sl (.long y :: r) = .val (.long y) :: .second :: lg_sl r := rfl
    refine ⟨by rw [e0]; simp [am_ent, g1], fun i v hi => ?_⟩
    rw [e0]
    match i, hi with
    | 0, hi => cases hi; exact ⟨_, rfl, y, rfl, e⟩
    | 1, hi => cases hi
    | i + 2, hi => exact g2 i v hi
  | .inl (false, i0) :: as, vs, h => by
    obtain ⟨y, r, rfl, e, h2⟩ := SR.i h
    obtain ⟨g1, g2⟩ := am_ent_at h2
    have e0 : lg_sl (.int y :: r) = .val (.int y) :: lg_sl r := rfl
    refine ⟨by rw [e0]; simp [am_ent, g1], fun i v hi => ?_⟩
    rw [e0]
    match i, hi with
    | 0, hi => cases hi; exact ⟨_, rfl, y, rfl, e⟩
    | i + 1, hi => exact g2 i v hi
  | .inr none :: as, vs, h => by
    obtain ⟨r, rfl, h2⟩ := SR.q h
    obtain ⟨g1, g2⟩ := am_ent_at h2
    have e0 : lg_sl (.null :: r) = .val .null :: lg_sl r := rfl
    refine ⟨by show (lg_sl (.null :: r)).length = _; rw [e0]; simp [am_ent, g1], fun i v hi => ?_⟩
    show ∃ c, (lg_sl (.null :: r))[i]? = _ ∧ _
    rw [e0]
    match i, hi with
    | 0, hi => cases hi; exact ⟨_, rfl, rfl⟩
    | i + 1, hi => exact g2 i v hi
  | .inr (some a) :: as, vs, h => by
    obtain ⟨r, rfl, h2⟩ := SR.r h
    obtain ⟨g1, g2⟩ := am_ent_at h2
    have e0 : lg_sl (.ref (rho G a) :: r) = .val (.ref (rho G a)) :: lg_sl r := rfl
    refine ⟨by rw [e0]; simp [am_ent, g1], fun i v hi => ?_⟩
    rw [e0]
    match i, hi with
    | 0, hi => cases hi; exact ⟨_, rfl, rfl⟩
    | i + 1, hi => exact g2 i v hi
theorem LR.entry {G : GX} {as : List AV} {vs : List Value} {n : Nat} (h : SR G as vs) (hn : (am_ent as).length ≤ n) : LR G n (am_loc n as) ((lg_sl vs ++ List.replicate (n - (lg_sl vs).length) Slot.unset).toArray) := by
  obtain ⟨g1, g2⟩ := am_ent_at h
  have hv := lv_entry vs (n := n) (by omega)
  refine ⟨hv.1, hv.2.1, fun i v hi => ?_⟩
  unfold am_loc at hi
  by_cases hl : i < (am_ent as).length
  · rw [List.getElem?_append_left hl] at hi
    obtain ⟨c, e1, e2⟩ := g2 i v hi
    exact ⟨c, by rw [List.getElem?_toArray, List.getElem?_append_left (by omega)]; exact e1, e2⟩
  · rw [List.getElem?_append_right (by omega)] at hi
    have h3 := List.mem_of_getElem? hi
    have := List.eq_of_mem_replicate h3
    cases this
theorem GW.moved {G : GX} {u U : State} (hvm : u.vm.Alike U.vm) (h : GW G u) : GW G U := by
  obtain ⟨h1, h2, h3, h4, h5, h6⟩ := h
  refine ⟨h1.moved hvm, fun a ha => ?_, h3.moved hvm, h4.moved hvm, h5.moved hvm, h6.moved hvm⟩
  rcases h2 a ha with z | ⟨cell, z1, z2, z3, z4, z5⟩
  · exact Or.inl z
  · refine Or.inr ⟨cell, z1, z2, z3, ?_, z5⟩
    rcases z4 with z | z
    · exact Or.inl ⟨z.1, State.isArrayOf_alike hvm z.2⟩
    · exact Or.inr ⟨z.1, State.isArrayOf_alike hvm z.2⟩
theorem sem_intro {M : MI} {as : List AV} {t : Tp} {h : Mem} {mc ms : Nat} {Q : Option AV → Tp → Mem → Prop} {ls : List (Option AV)} (hy : plainName M.1.cls = true) (ho : M.2.2.2.2.1 = M.1.cls) (hn : (am_ent as).length ≤ M.2.2.1) (hl : am_loc M.2.2.1 as = ls)
    (k : AW M mc ms Q 0 ls [] t h 0 0) : Sem M as t h mc ms Q := by
  intro l G
  refine Met.ofW (cc := M.2.1) (maxL := M.2.2.1) (ret := M.2.2.2.1) hy rfl ?_
  intro p e s m args below meth c s₁ B hml hv
  obtain ⟨hs, hR, hG⟩ := hv
  have hts := atoms_spec (ws := Cond.code M.1 M.2.1 M.2.2.1 M.2.2.2.1 :: WS) B.pre
  have hown : s.vm.findClass M.1.cls = some m.cls := findClass_of_methodNamed B.named
  have hin : meth.name = M.1.name := (name_of_methodNamed B.named B.method).1
  have e0 : args = args.toList.toArray := rfl
  rw [show entryFrame m args M.2.2.1 = _ from lg_entry_eq m args.toList M.2.2.1]
  exact k G p l e _ s m args below meth c s.heap [] _ [] ⟨B.exec, B.bytes, B.returns, hml, by rw [ho]; exact hown, fun w hw => hts w (List.mem_cons_of_mem _ hw), B.notSynchronized, Nat.le_refl _, Nat.le_refl _, Nat.le_refl _, Nat.le_refl _, hG, hin⟩ hR (hl ▸ LR.entry hs hn) trivial (fun q hq => by cases hq)
/-! calls -/
def am_w : List AV → Nat
  | [] => 0
  | .inl (true, _) :: vs => 2 + am_w vs
  | .inl (false, _) :: vs => 1 + am_w vs
  | .inr _ :: vs => 1 + am_w vs
theorem am_w_eq {G : GX} : ∀ {st : List AV} {r : List Value}, SR G st r → (r.map fun v => v.category).sum = am_w st
  | [], r, h => by cases SR.nil h; rfl
  | .inl (true, i) :: st, r, h => by
    obtain ⟨y, r, rfl, -, h2⟩ := SR.l h
    rw [List.map_cons, List.sum_cons, am_w_eq h2]
    rfl
  | .inl (false, i) :: st, r, h => by
    obtain ⟨y, r, rfl, -, h2⟩ := SR.i h
    rw [List.map_cons, List.sum_cons, am_w_eq h2]
    rfl
  | .inr none :: st, r, h => by
    obtain ⟨r, rfl, h2⟩ := SR.q h
    rw [List.map_cons, List.sum_cons, am_w_eq h2]
    rfl
  | .inr (some a) :: st, r, h => by
    obtain ⟨r, rfl, h2⟩ := SR.r h
    rw [List.map_cons, List.sum_cons, am_w_eq h2]
    rfl
theorem SR.split {G : GX} : ∀ {a b : List AV} {x : List Value}, SR G (a ++ b) x → ∃ y z, x = y ++ z ∧ SR G a y ∧ SR G b z
  | [], b, x, h => ⟨[], x, rfl, trivial, h⟩
  | v :: a, b, x, h => by
    obtain ⟨c, r, rfl, h3, h4⟩ := SR.cons h
    obtain ⟨y, z, rfl, h5, h6⟩ := SR.split h4
    exact ⟨c :: y, z, rfl, ⟨h3, h5⟩, h6⟩
theorem SR.rev {G : GX} : ∀ {a : List AV} {x : List Value}, SR G a x → SR G a.reverse x.reverse
  | [], x, h => by cases SR.nil h; exact trivial
  | v :: a, x, h => by
    obtain ⟨c, r, rfl, h3, h4⟩ := SR.cons h
    rw [List.reverse_cons, List.reverse_cons]
    exact SR.app (SR.rev h4) ⟨h3, trivial⟩
theorem PP.blind {G : GX} {as : List AV} {t : Tp} {h : Mem} : FrameBlind (PP G as t h) := fun _ U _ _ q => ⟨q.1, q.2.1, q.2.2.moved (U := U.calling _ _ _) (Vm.Alike.refl U.vm)⟩
def am_plain (y : MethodName) (n : Nat) : Prop := y.cls ≠ "java/lang/invoke/MethodHandle" ∧ y.cls ≠ "java/lang/invoke/VarHandle" ∧ (parseMethodDescriptor y.desc).map (fun d => d.parameters.length) = some n
/-- a call by its pool number: on an object of kind ci -/
def VL (own : String) (idx : Nat) (M' : MI) (ci n : Nat) : Prop := Cond.methodLink own idx M'.1 ∈ WS ∧ Cond.instanceMethod M'.1 ∈ WS ∧ Cond.selects M'.1.cls M'.1 M'.1 ∈ WS ∧ Cond.initialized M'.1.cls ∈ WS ∧ Cond.code M'.1 M'.2.1 M'.2.2.1 M'.2.2.2.1 ∈ WS ∧ am_plain M'.1 n ∧ ci < 20 ∧ ∃ T N, vwCl[ci]? = some (M'.1.cls, T, N)
/-- a static one -/
def SL (own : String) (idx : Nat) (M' : MI) (n : Nat) : Prop := Cond.methodLink own idx M'.1 ∈ WS ∧ Cond.static M'.1 ∈ WS ∧ Cond.initialized M'.1.cls ∈ WS ∧ Cond.code M'.1 M'.2.1 M'.2.2.1 M'.2.2.2.1 ∈ WS ∧ am_plain M'.1 n
/-- a constructor or another by invokespecial -/
def IL (own : String) (idx : Nat) (M' : MI) (n : Nat) : Prop := Cond.methodLink own idx M'.1 ∈ WS ∧ Cond.instanceMethod M'.1 ∈ WS ∧ M'.1.name = "<init>" ∧ M'.2.2.2.1 = none ∧ Cond.initialized M'.1.cls ∈ WS ∧ Cond.code M'.1 M'.2.1 M'.2.2.1 M'.2.2.2.1 ∈ WS ∧ am_plain M'.1 n
theorem WS_good {M : MI} (h : Cond.code M.1 M.2.1 M.2.2.1 M.2.2.2.1 ∈ WS) : GoodIn WS (Cond.code M.1 M.2.1 M.2.2.1 M.2.2.2.1 :: WS) := by
  intro w hw
  have hw2 : w ∈ WS := by
    rcases List.mem_cons.mp hw with rfl | h2
    · exact h
    · exact h2
  exact ⟨hw2, good_of_word (List.mem_filter.mp hw2).2⟩
section AMC
variable {M M' : MI} {mc ms : Nat} {Q : Option AV → Tp → Mem → Prop} {pc : Nat} {ls ls' : List (Option AV)} {st : List AV} {t : Tp} {h : Mem} {ck sk mc' ms' : Nat} {Q' : Option AV → Tp → Mem → Prop}
theorem am_after {G : GX} {p : Program} {l : Launch} {e : Env} {R : Room} {s : State} {m : MethodId} {args a : Array Value} {below : List Frame} {meth : Method} {c : Code} {H : Heap} {locs : List Loc} {lsC : Array Slot} {st0 rest : List Value}
    (C : CX M G mc ms p R s m args meth c) (hL : LR G M.2.2.1 ls lsC) (hS : SR G st rest) (hq : ∀ q ∈ locs, G.1.size ≤ q.base)
    (hr : va_Run p l e R s m args below meth c H locs ck sk mc' ms' (F0 m pc lsC st0) rest (QQ G Q' a) (am_up1 G))
    (k : ∀ v t' h', Q' v t' h' → AW M mc ms Q (pc + 3) ls (v.toList ++ st) t' h' (ck + mc') (sk + ms')) :
    W p l e R s m args below meth c H locs ck sk (MQ below (QQ G Q) args s mc ms (am_up1 G)) (F0 m pc lsC st0) := by
  intro T hT X
  obtain ⟨v, st₀, t2, T', L, h0, X', hL2, e1, e2, ⟨va, tt, hh, vC, hQ, ho, hsr, hrp⟩, stp⟩ := hr T hT X
  cases ho
  obtain ⟨t3, a1, b1⟩ := k va tt hh hQ G p l e R s m args below meth c T'.heap (locs ++ L) lsC (v.toList ++ rest) C (by rw [e1]; exact hrp) hL (SR.app hsr hS) (fun q hq3 => by
    rcases List.mem_append.mp hq3 with h | h
    · exact hq q h
    · exact hL2 q h) T' rfl X'
  exact ⟨t3, stp t3 a1, b1⟩
theorem aw_callV {idx ci N n a : Nat} {as st0 : List AV} (hd : decode M.2.1 pc = .ok (.invokevirtual idx, 3)) (hl : VL M.2.2.2.2.1 idx M' ci n) (hS' : Sem M' (vR a :: as) t h mc' ms' Q') (hk : t.2.1 a = (ci, N)) (hst : as.reverse ++ vR a :: st = st0) (hn : as.length = n) (hw : am_w st ≤ 8)
    (hF : M'.2.2.2.2.2.1 + 1 ≤ M.2.2.2.2.2.1) (hLo : 8 + (M'.2.2.1 + 11) + M'.2.2.2.2.2.2 ≤ M.2.2.2.2.2.2) (hc : ck + mc' ≤ mc) (hs : sk + ms' ≤ ms)
    (k : ∀ v t' h', Q' v t' h' → AW M mc ms Q (pc + 3) ls (v.toList ++ st) t' h' (ck + mc') (sk + ms')) : AW M mc ms Q pc ls st0 t h ck sk := by
  intro G p l e R s m args below meth c H locs lsC stC C hR hL hS hq
  subst hst
  obtain ⟨ys, zs, rfl, g1, g2⟩ := SR.split hS
  obtain ⟨r, rfl, g3⟩ := SR.r g2
  obtain ⟨l1, l2, l3, l4, l5, l6, l7, T0, N0, l8⟩ := hl
  have hts := C.2.2.2.2.2.1
  have hG : GW G s := C.2.2.2.2.2.2.2.2.2.2.2.1
  have g4 : SR G as ys.reverse := by have := SR.rev g1; rwa [List.reverse_reverse] at this
  have ha := hR.lt hG.2.1 hk (by omega) (by omega) (by omega)
  obtain ⟨cell, q1, q2, q3, -⟩ := hR.2.2.2.1 a ha
  rw [hk] at q3
  obtain ⟨-, hfc, -⟩ := hG.1.1 ci _ l8
  obtain ⟨k1, k2, -, -, -, -, -, kf, kl, kc, ks, -⟩ := id C
  refine am_after (a := (Value.ref (rho G a) :: ys.reverse).toArray) (st0 := ys ++ .ref (rho G a) :: r) (rest := r) C hL g3 hq (va_runV (As := ys.reverse) (C := M'.1.cls) (n := n) ⟨C.1, C.2.1, C.2.2.2.1, C.2.2.2.2.1, hts⟩ (hS' l G) ⟨callB_of n hts (WS_good l5) rfl rfl rfl (hts _ l4) (hts _ l1) l6 ⟨Nat.le_trans hF kf, Nat.le_trans hLo kl⟩, hts _ l2, hts _ l3⟩ ⟨PP.blind, ⟨cell, by rw [hR.at ha]; exact q1, by rw [q2]; rfl, by rw [q3]; show _ = some (am_cls G ci); unfold am_cls; rw [if_pos l7]; exact hfc⟩, fun U hU hW => ⟨⟨rfl, g4⟩, by rw [hU]; exact hR, hG.moved hW.alike⟩⟩ rfl (by rw [← hn, SR.len g4]) hL.1 (by rw [List.reverse_reverse]) (by rw [am_w_eq g3]; show 2 * 0 + _ ≤ 8; omega) hd ⟨Nat.le_trans hc kc, Nat.le_trans hs ks⟩) k
theorem aw_callS {idx n : Nat} {as st0 : List AV} (hd : decode M.2.1 pc = .ok (.invokestatic idx, 3)) (hl : SL M.2.2.2.2.1 idx M' n) (hS' : Sem M' as t h mc' ms' Q') (hst : as.reverse ++ st = st0) (hn : as.length = n) (hw : am_w st ≤ 8)
    (hF : M'.2.2.2.2.2.1 + 1 ≤ M.2.2.2.2.2.1) (hLo : 8 + (M'.2.2.1 + 11) + M'.2.2.2.2.2.2 ≤ M.2.2.2.2.2.2) (hc : ck + mc' ≤ mc) (hs : sk + ms' ≤ ms)
    (k : ∀ v t' h', Q' v t' h' → AW M mc ms Q (pc + 3) ls (v.toList ++ st) t' h' (ck + mc') (sk + ms')) : AW M mc ms Q pc ls st0 t h ck sk := by
  intro G p l e R s m args below meth c H locs lsC stC C hR hL hS hq
  subst hst
  obtain ⟨ys, zs, rfl, g1, g3⟩ := SR.split hS
  obtain ⟨l1, l2, l4, l5, l6⟩ := hl
  have hts := C.2.2.2.2.2.1
  have hG : GW G s := C.2.2.2.2.2.2.2.2.2.2.2.1
  have g4 : SR G as ys.reverse := by have := SR.rev g1; rwa [List.reverse_reverse] at this
  obtain ⟨k1, k2, -, -, -, -, -, kf, kl, kc, ks, -⟩ := id C
  refine am_after (a := ys.reverse.toArray) (st0 := ys ++ zs) (rest := zs) C hL g3 hq (va_runS (As := ys.reverse) (n := n) ⟨C.1, C.2.1, C.2.2.2.1, C.2.2.2.2.1, hts⟩ (hS' l G) ⟨callB_of n hts (WS_good l5) rfl rfl rfl (hts _ l4) (hts _ l1) l6 ⟨Nat.le_trans hF kf, Nat.le_trans hLo kl⟩, hts _ l2⟩ ⟨PP.blind, fun U hU hW => ⟨g4, by rw [hU]; exact hR, hG.moved hW.alike⟩⟩ rfl (by rw [← hn, SR.len g4]) hL.1 (by rw [List.reverse_reverse]) (by rw [am_w_eq g3]; show 2 * 0 + _ ≤ 8; omega) hd ⟨Nat.le_trans hc kc, Nat.le_trans hs ks⟩) k
theorem aw_callI {idx n a : Nat} {as st0 : List AV} (hd : decode M.2.1 pc = .ok (.invokespecial idx, 3)) (hl : IL M.2.2.2.2.1 idx M' n) (hS' : Sem M' (vR a :: as) t h mc' ms' Q') (hst : as.reverse ++ vR a :: st = st0) (hn : as.length = n) (hw : am_w st ≤ 8)
    (hF : M'.2.2.2.2.2.1 + 1 ≤ M.2.2.2.2.2.1) (hLo : 8 + (M'.2.2.1 + 11) + M'.2.2.2.2.2.2 ≤ M.2.2.2.2.2.2) (hc : ck + mc' ≤ mc) (hs : sk + ms' ≤ ms)
    (k : ∀ v t' h', Q' v t' h' → AW M mc ms Q (pc + 3) ls (v.toList ++ st) t' h' (ck + mc') (sk + ms')) : AW M mc ms Q pc ls st0 t h ck sk := by
  intro G p l e R s m args below meth c H locs lsC stC C hR hL hS hq
  subst hst
  obtain ⟨ys, zs, rfl, g1, g2⟩ := SR.split hS
  obtain ⟨r, rfl, g3⟩ := SR.r g2
  obtain ⟨l1, l2, l3, l7, l4, l5, l6⟩ := hl
  have hts := C.2.2.2.2.2.1
  have hG : GW G s := C.2.2.2.2.2.2.2.2.2.2.2.1
  have g4 : SR G as ys.reverse := by have := SR.rev g1; rwa [List.reverse_reverse] at this
  obtain ⟨k1, k2, -, -, -, -, -, kf, kl, kc, ks, -⟩ := id C
  refine am_after (a := (Value.ref (rho G a) :: ys.reverse).toArray) (st0 := ys ++ .ref (rho G a) :: r) (rest := r) C hL g3 hq (va_runI (As := ys.reverse) (n := n) ⟨C.1, C.2.1, C.2.2.2.1, C.2.2.2.2.1, hts⟩ (hS' l G) ⟨by have := callB_of (R := R) (own := M.2.2.2.2.1) (index := idx) n hts (WS_good l5) rfl (rm := { frames := M'.2.2.2.2.2.1, cells := mc', slots := ms', locals := M'.2.2.2.2.2.2 }) rfl rfl (hts _ l4) (hts _ l1) l6 ⟨Nat.le_trans hF kf, Nat.le_trans hLo kl⟩; rw [l7] at this ⊢; exact this, l3, hts _ l2⟩ ⟨PP.blind, fun U hU hW => ⟨⟨rfl, g4⟩, by rw [hU]; exact hR, hG.moved hW.alike⟩⟩ rfl (by rw [← hn, SR.len g4]) hL.1 (by rw [List.reverse_reverse]) (by rw [am_w_eq g3]; show 2 * 0 + _ ≤ 8; omega) hd ⟨Nat.le_trans hc kc, Nat.le_trans hs ks⟩) k
end AMC
end
section
/-- n numbers of a from i on come to b from j on -/
def am_cpy (h : Mem) (a : Nat) (i : Int) (b : Nat) (j n : Int) : Mem := fun c k => if c = b ∧ j ≤ k ∧ k < j + n then h a (i + (k - j)) else h c k
theorem am_cpy_ne {h : Mem} {a b c : Nat} {i j n : Int} (e : c ≠ b) : am_cpy h a i b j n c = h c := by funext k; simp [am_cpy, e]
theorem arrV_eq {c : ClassId} {N : Nat} {f g : Nat → Value} (h : ∀ j, j < N → f j = g j) : arrV c N f = arrV c N g := by
  unfold arrV
  congr 1
  apply congrArg
  funext j
  exact h j.val j.isLt
/-- an array of numbers of its own, as the kit's cell -/
theorem Rp.arrI {G : GX} {H : Heap} {t : Tp} {h : Mem} (hR : Rp G t h H) {a N : Nat} (hk : t.2.1 a = (20, N)) (ha : a < t.1) : ∃ f : Nat → Int32, H[G.1.size + a]? = some (arrV (G.2.2.1 20) N (fun j => .int (f j))) ∧ ∀ j, j < N → (f j).toInt = h a (j : Int) := by
  obtain ⟨cell, q1, q2, q3, q4, q5⟩ := hR.2.2.2.1 a ha
  rw [hk] at q4 q5
  obtain ⟨f, hf⟩ := q4 (Nat.le_refl 20)
  have e20 : am_cls G 20 = G.2.2.1 20 := if_neg (by decide)
  have hx : ∀ j, ∃ x : Int32, j < N → f j = .int x ∧ x.toInt = h a (j : Int) := by
    intro j
    by_cases hj : j < N
    · obtain ⟨v, q6, q7⟩ := q5 j hj
      obtain ⟨x, rfl, hx⟩ := q7.2 (by rw [hk]; rfl)
      refine ⟨x, fun _ => ⟨?_, hx⟩⟩
      rw [show am_pos G (20, N).1 j = j from if_neg (Nat.lt_irrefl 20), hf, show (20, N).2 = N from rfl, arrV_read _ _ hj] at q6
      exact Option.some.inj q6
    · exact ⟨0, fun z => absurd z hj⟩
  refine ⟨fun j => Classical.choose (hx j), ?_, fun j hj => (Classical.choose_spec (hx j) hj).2⟩
  rw [q1, hf]
  show some (arrV (am_cls G 20) N f) = _
  rw [e20]
  exact congrArg some (arrV_eq fun j hj => (Classical.choose_spec (hx j) hj).1)
theorem aw_copy {M : MI} {mc ms : Nat} {Q : Option AV → Tp → Mem → Prop} {pc : Nat} {ls : List (Option AV)} {st : List AV} {t : Tp} {h : Mem} {ck sk idx a b N0 N1 : Nat} {i j n : Int} (hd : decode M.2.1 pc = .ok (.invokestatic idx, 3))
    (hl : Cond.methodLink M.2.2.2.2.1 idx arraycopyName ∈ WS ∧ Cond.native arraycopyName ∈ WS ∧ Cond.static arraycopyName ∈ WS ∧ Cond.initialized "java/lang/System" ∈ WS) (ka : t.2.1 a = (20, N0)) (kb : t.2.1 b = (20, N1)) (ha : a < 1000000) (hb : b < 1000000)
    (h1 : 0 ≤ i) (h2 : 0 ≤ j) (h3 : 0 ≤ n) (h4 : i + n ≤ (N0 : Int)) (h5 : j + n ≤ (N1 : Int)) (hF : 1 ≤ M.2.2.2.2.2.1) (hLo : am_w st + 18 ≤ M.2.2.2.2.2.2)
    (k : AW M mc ms Q (pc + 3) ls st t (am_cpy h a i b j n) ck sk) : AW M mc ms Q pc ls (vI n :: vI j :: vR b :: vI i :: vR a :: st) t h ck sk := by
  intro G p l e R s m args below meth c H locs lsC stC C hR hL hS hq
  obtain ⟨nC, r, rfl, rfl, hS0⟩ := SR.i hS
  obtain ⟨jC, r, rfl, rfl, hS1⟩ := SR.i hS0
  obtain ⟨r, rfl, hS2⟩ := SR.r hS1
  obtain ⟨iC, r, rfl, rfl, hS3⟩ := SR.i hS2
  obtain ⟨r, rfl, hS4⟩ := SR.r hS3
  have hG : GW G s := C.2.2.2.2.2.2.2.2.2.2.2.1
  have hts := C.2.2.2.2.2.1
  have ha2 := hR.lt2 ka (by omega) ha
  have hb2 := hR.lt2 kb (by omega) hb
  obtain ⟨f, hc0, hf⟩ := hR.arrI ka ha2
  obtain ⟨g, hc1, hg⟩ := hR.arrI kb hb2
  rw [← hR.at ha2] at hc0
  rw [← hR.at hb2] at hc1
  intro T hT X
  obtain ⟨-, k0, hk0, cm0, hkk0⟩ := (hG.1.2 0 _ rfl).1 N0 (fun j => .int (f j))
  obtain ⟨kF, kL⟩ : 1 ≤ R.frames ∧ am_w st + 18 ≤ R.locals := by
    obtain ⟨-, -, -, -, -, -, -, kf, kl, -⟩ := id C
    exact ⟨Nat.le_trans hF kf, Nat.le_trans hLo kl⟩
  obtain ⟨vm', X', step⟩ := X.arraycopy C.1 C.2.2.2.2.1 (hts _ hl.1) (hts _ hl.2.1) (hts _ hl.2.2.1) (hts _ hl.2.2.2) (src := rho G a) (dst := rho G b) (cs := arrV (G.2.2.1 20) N0 (fun j => .int (f j))) (cd := arrV (G.2.2.1 20) N1 (fun j => .int (g j))) (srcPos := iC) (destPos := jC) (n := nC) (by rw [hT]; exact hc0) (by rw [hT]; exact hc1)
    (fun _ h => by cases h) (fun _ h => by cases h) (fun h => by cases h) (fun h => by cases h) hk0 hk0 hkk0 hkk0 rfl (fun z => absurd (am0_lt.mp z) (by omega)) (fun z => absurd (am0_lt.mp z) (by omega)) (fun z => absurd (am0_lt.mp z) (by omega))
    (by rw [arrV_size]; omega) (by rw [arrV_size]; omega)
    (fun vm₁ _ i0 hi0 => by
      have e : (arrV (G.2.2.1 20) N0 (fun j => Value.int (f j))).slots.getD (iC.toNatClampNeg + i0) .null = .int (f (iC.toNatClampNeg + i0)) := by
        rw [Array.getD_eq_getD_getElem?, arrV_read _ _ (by rw [i32_clamp] at hi0 ⊢; omega)]
        rfl
      refine ⟨?_, ?_⟩
      · rw [e]; rfl
      · rw [e]; exact trivial)
    (g := F0 m pc lsC (.int nC :: .int jC :: .ref (rho G b) :: .int iC :: .ref (rho G a) :: r)) rfl (by rw [C.2.2.2.1]; exact hL.1) (rest := r) rfl (by rw [C.2.1]; exact hd) kF (by rw [am_w_eq hS4]; show 2 * 0 + _ + (7 + 11) ≤ _; omega)
  have e1 : copied (arrV (G.2.2.1 20) N0 (fun j => .int (f j))) (arrV (G.2.2.1 20) N1 (fun j => .int (g j))) iC jC nC = arrV (G.2.2.1 20) N1 (fun k => .int (va_cpy f g iC.toNatClampNeg jC.toNatClampNeg nC.toNatClampNeg k)) := va_copied (fun z => .int z) _ _ f g (by simp only [i32_clamp]; omega)
  rw [e1] at X' step
  have hl3 : rho G b < H.size := (Array.getElem?_eq_some_iff.mp hc1).1
  have hheap : ((T.setVm vm').setCell (rho G b) (arrV (G.2.2.1 20) N1 (fun k => .int (va_cpy f g iC.toNatClampNeg jC.toNatClampNeg nC.toNatClampNeg k)))).heap = H.setIfInBounds (rho G b) (arrV (G.2.2.1 20) N1 (fun k => .int (va_cpy f g iC.toNatClampNeg jC.toNatClampNeg nC.toNatClampNeg k))) := by rw [← hT]; rfl
  have hR2 : Rp G t (am_cpy h a iC.toInt b jC.toInt nC.toInt) (H.setIfInBounds (rho G b) (arrV (G.2.2.1 20) N1 (fun k => .int (va_cpy f g iC.toNatClampNeg jC.toNatClampNeg nC.toNatClampNeg k)))) := by
    have g1 : (H.setIfInBounds (rho G b) (arrV (G.2.2.1 20) N1 (fun k => .int (va_cpy f g iC.toNatClampNeg jC.toNatClampNeg nC.toNatClampNeg k))))[rho G b]? = some (arrV (G.2.2.1 20) N1 (fun k => .int (va_cpy f g iC.toNatClampNeg jC.toNatClampNeg nC.toNatClampNeg k))) := by simp [Array.getElem?_setIfInBounds, hl3]
    have g3 : ∀ q : Nat, q ≠ rho G b → (H.setIfInBounds (rho G b) (arrV (G.2.2.1 20) N1 (fun k => .int (va_cpy f g iC.toNatClampNeg jC.toNatClampNeg nC.toNatClampNeg k))))[q]? = H[q]? := fun q hq => by simp [Array.getElem?_setIfInBounds, Ne.symm hq]
    rw [hR.at hb2] at g1 g3 ⊢
    have e20 : am_cls G 20 = G.2.2.1 20 := if_neg (by decide)
    refine hR.upd hb2 rfl rfl (fun c hc => ⟨am_cpy_ne hc, rfl⟩) ⟨_, g1, rfl, by rw [kb]; exact e20.symm, fun _ => ⟨_, by rw [kb]; show _ = arrV (am_cls G 20) N1 _; rw [e20]⟩, fun q hq => ?_⟩ (by simp) g3
    rw [kb] at hq ⊢
    have hq2 : q < N1 := hq
    refine ⟨.int (va_cpy f g iC.toNatClampNeg jC.toNatClampNeg nC.toNatClampNeg q), ?_, ⟨fun z => (by rw [kb] at z; cases z), fun _ => ⟨_, rfl, ?_⟩⟩⟩
    · rw [show am_pos G (20, N1).1 q = q from if_neg (Nat.lt_irrefl 20)]
      exact arrV_read _ _ hq2
    · unfold va_cpy am_cpy
      simp only [i32_clamp]
      by_cases hc : jC.toInt.toNat ≤ q ∧ q < jC.toInt.toNat + nC.toInt.toNat
      · rw [if_pos hc, if_pos ⟨trivial, by omega, by omega⟩, hf _ (by omega)]
        congr 1
        omega
      · rw [if_neg hc, if_neg (fun z => hc ⟨by omega, by omega⟩), hg _ hq2]
  obtain ⟨t3, a1, b1⟩ := k G p l e R s m args below meth c _ _ lsC r C hR2 hL hS4 (fun q hq3 => by
    rcases List.mem_append.mp hq3 with h | h
    · exact hq q h
    · obtain ⟨z, -, hz⟩ := List.mem_map.mp h
      rw [← hz]
      show G.1.size ≤ rho G b
      rw [hR.at hb2]
      omega) _ hheap X'
  exact ⟨t3, step t3 a1, b1⟩
end
