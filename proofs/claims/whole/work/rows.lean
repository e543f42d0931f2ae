section
-- ===== PART A: goes FIRST, ahead of the names: the tables' words, and 'selects' of the private methods out of them =====
/-- a private method of a class that the tables say can be made, by its rows of tables_1 -/
def lw_okq (q : MethodName × Nat) : Prop := (q.1.cls ≠ "java/lang/invoke/MethodHandle" ∧ q.1.cls ≠ "java/lang/invoke/VarHandle") ∧ Cond.instantiable q.1.cls q.2 ∈ tables_1 ∧ Cond.privateMethod q.1 ∈ tables_1 ∧ Cond.instanceMethod q.1 ∈ tables_1
theorem lw_p0 : lw_okq (⟨"PalmJury$Jury", "trusts", "(I)I"⟩, 16) := ⟨⟨by decide +kernel, by decide +kernel⟩, List.mem_of_getElem? (i := 96) (by decide +kernel), List.mem_of_getElem? (i := 271) (by decide +kernel), List.mem_of_getElem? (i := 272) (by decide +kernel)⟩
theorem lw_p1 : lw_okq (⟨"PalmJury$Jury", "draw", "()I"⟩, 16) := ⟨⟨by decide +kernel, by decide +kernel⟩, List.mem_of_getElem? (i := 96) (by decide +kernel), List.mem_of_getElem? (i := 400) (by decide +kernel), List.mem_of_getElem? (i := 401) (by decide +kernel)⟩
theorem lw_p2 : lw_okq (⟨"PalmJury$Jury", "palms", "(III)I"⟩, 16) := ⟨⟨by decide +kernel, by decide +kernel⟩, List.mem_of_getElem? (i := 96) (by decide +kernel), List.mem_of_getElem? (i := 431) (by decide +kernel), List.mem_of_getElem? (i := 432) (by decide +kernel)⟩
theorem lw_p3 : lw_okq (⟨"PalmJury", "think", "(II)V"⟩, 10) := ⟨⟨by decide +kernel, by decide +kernel⟩, List.mem_of_getElem? (i := 19) (by decide +kernel), List.mem_of_getElem? (i := 460) (by decide +kernel), List.mem_of_getElem? (i := 461) (by decide +kernel)⟩
theorem lw_p4 : lw_okq (⟨"PalmJury$Tape", "step", "()V"⟩, 7) := ⟨⟨by decide +kernel, by decide +kernel⟩, List.mem_of_getElem? (i := 64) (by decide +kernel), List.mem_of_getElem? (i := 545) (by decide +kernel), List.mem_of_getElem? (i := 546) (by decide +kernel)⟩
theorem lw_p5 : lw_okq (⟨"PalmJury$Tape", "byteAt", "(I)I"⟩, 7) := ⟨⟨by decide +kernel, by decide +kernel⟩, List.mem_of_getElem? (i := 64) (by decide +kernel), List.mem_of_getElem? (i := 549) (by decide +kernel), List.mem_of_getElem? (i := 550) (by decide +kernel)⟩
theorem lw_p6 : lw_okq (⟨"PalmJury$Tape", "keyAtHand", "()I"⟩, 7) := ⟨⟨by decide +kernel, by decide +kernel⟩, List.mem_of_getElem? (i := 64) (by decide +kernel), List.mem_of_getElem? (i := 556) (by decide +kernel), List.mem_of_getElem? (i := 557) (by decide +kernel)⟩
theorem lw_p7 : lw_okq (⟨"PalmJury$Tape", "isWord", "(Ljava/lang/String;)Z"⟩, 7) := ⟨⟨by decide +kernel, by decide +kernel⟩, List.mem_of_getElem? (i := 64) (by decide +kernel), List.mem_of_getElem? (i := 566) (by decide +kernel), List.mem_of_getElem? (i := 567) (by decide +kernel)⟩
theorem lw_p8 : lw_okq (⟨"PalmJury$Tape", "level", "(III)Z"⟩, 7) := ⟨⟨by decide +kernel, by decide +kernel⟩, List.mem_of_getElem? (i := 64) (by decide +kernel), List.mem_of_getElem? (i := 622) (by decide +kernel), List.mem_of_getElem? (i := 623) (by decide +kernel)⟩
theorem lw_p9 : lw_okq (⟨"PalmJury$Tape", "piece", "(II)Z"⟩, 7) := ⟨⟨by decide +kernel, by decide +kernel⟩, List.mem_of_getElem? (i := 64) (by decide +kernel), List.mem_of_getElem? (i := 626) (by decide +kernel), List.mem_of_getElem? (i := 627) (by decide +kernel)⟩
theorem lw_p10 : lw_okq (⟨"PalmJury$Tape", "number", "()Z"⟩, 7) := ⟨⟨by decide +kernel, by decide +kernel⟩, List.mem_of_getElem? (i := 64) (by decide +kernel), List.mem_of_getElem? (i := 630) (by decide +kernel), List.mem_of_getElem? (i := 631) (by decide +kernel)⟩
theorem lw_p11 : lw_okq (⟨"PalmJury$Law", "add", "(I)V"⟩, 4) := ⟨⟨by decide +kernel, by decide +kernel⟩, List.mem_of_getElem? (i := 34) (by decide +kernel), List.mem_of_getElem? (i := 638) (by decide +kernel), List.mem_of_getElem? (i := 639) (by decide +kernel)⟩
theorem lw_p12 : lw_okq (⟨"PalmJury$Tape", "name", "()Z"⟩, 7) := ⟨⟨by decide +kernel, by decide +kernel⟩, List.mem_of_getElem? (i := 64) (by decide +kernel), List.mem_of_getElem? (i := 642) (by decide +kernel), List.mem_of_getElem? (i := 643) (by decide +kernel)⟩
theorem lw_p13 : lw_okq (⟨"PalmJury$Tape", "isSignOf", "(Ljava/lang/String;)Z"⟩, 7) := ⟨⟨by decide +kernel, by decide +kernel⟩, List.mem_of_getElem? (i := 64) (by decide +kernel), List.mem_of_getElem? (i := 712) (by decide +kernel), List.mem_of_getElem? (i := 713) (by decide +kernel)⟩
theorem lw_p14 : lw_okq (⟨"PalmJury", "isSaid", "(III)Z"⟩, 10) := ⟨⟨by decide +kernel, by decide +kernel⟩, List.mem_of_getElem? (i := 19) (by decide +kernel), List.mem_of_getElem? (i := 814) (by decide +kernel), List.mem_of_getElem? (i := 815) (by decide +kernel)⟩
theorem lw_p15 : lw_okq (⟨"PalmJuryModel", "comes", "(IIII)I"⟩, 34) := ⟨⟨by decide +kernel, by decide +kernel⟩, List.mem_of_getElem? (i := 830) (by decide +kernel), List.mem_of_getElem? (i := 950) (by decide +kernel), List.mem_of_getElem? (i := 951) (by decide +kernel)⟩
def lw_privs_1 : List (MethodName × Nat) := [(⟨"PalmJury$Jury", "trusts", "(I)I"⟩, 16), (⟨"PalmJury$Jury", "draw", "()I"⟩, 16), (⟨"PalmJury$Jury", "palms", "(III)I"⟩, 16), (⟨"PalmJury", "think", "(II)V"⟩, 10), (⟨"PalmJury$Tape", "step", "()V"⟩, 7), (⟨"PalmJury$Tape", "byteAt", "(I)I"⟩, 7), (⟨"PalmJury$Tape", "keyAtHand", "()I"⟩, 7), (⟨"PalmJury$Tape", "isWord", "(Ljava/lang/String;)Z"⟩, 7), (⟨"PalmJury$Tape", "level", "(III)Z"⟩, 7), (⟨"PalmJury$Tape", "piece", "(II)Z"⟩, 7), (⟨"PalmJury$Tape", "number", "()Z"⟩, 7), (⟨"PalmJury$Law", "add", "(I)V"⟩, 4), (⟨"PalmJury$Tape", "name", "()Z"⟩, 7), (⟨"PalmJury$Tape", "isSignOf", "(Ljava/lang/String;)Z"⟩, 7), (⟨"PalmJury", "isSaid", "(III)Z"⟩, 10), (⟨"PalmJuryModel", "comes", "(IIII)I"⟩, 34)]
theorem lw_r1 : ∀ q ∈ lw_privs_1, lw_okq q := List.forall_mem_cons.mpr ⟨lw_p0, List.forall_mem_cons.mpr ⟨lw_p1, List.forall_mem_cons.mpr ⟨lw_p2, List.forall_mem_cons.mpr ⟨lw_p3, List.forall_mem_cons.mpr ⟨lw_p4, List.forall_mem_cons.mpr ⟨lw_p5, List.forall_mem_cons.mpr ⟨lw_p6, List.forall_mem_cons.mpr ⟨lw_p7, List.forall_mem_cons.mpr ⟨lw_p8, List.forall_mem_cons.mpr ⟨lw_p9, List.forall_mem_cons.mpr ⟨lw_p10, List.forall_mem_cons.mpr ⟨lw_p11, List.forall_mem_cons.mpr ⟨lw_p12, List.forall_mem_cons.mpr ⟨lw_p13, List.forall_mem_cons.mpr ⟨lw_p14, List.forall_mem_cons.mpr ⟨lw_p15, fun _ h => absurd h List.not_mem_nil⟩⟩⟩⟩⟩⟩⟩⟩⟩⟩⟩⟩⟩⟩⟩⟩
theorem lw_p16 : lw_okq (⟨"PalmJuryModel", "put", "(III)V"⟩, 34) := ⟨⟨by decide +kernel, by decide +kernel⟩, List.mem_of_getElem? (i := 830) (by decide +kernel), List.mem_of_getElem? (i := 954) (by decide +kernel), List.mem_of_getElem? (i := 955) (by decide +kernel)⟩
theorem lw_p17 : lw_okq (⟨"PalmJuryModel", "isJuror", "(I)Z"⟩, 34) := ⟨⟨by decide +kernel, by decide +kernel⟩, List.mem_of_getElem? (i := 830) (by decide +kernel), List.mem_of_getElem? (i := 962) (by decide +kernel), List.mem_of_getElem? (i := 963) (by decide +kernel)⟩
theorem lw_p18 : lw_okq (⟨"PalmJuryModel", "of", "(II)I"⟩, 34) := ⟨⟨by decide +kernel, by decide +kernel⟩, List.mem_of_getElem? (i := 830) (by decide +kernel), List.mem_of_getElem? (i := 966) (by decide +kernel), List.mem_of_getElem? (i := 967) (by decide +kernel)⟩
theorem lw_p19 : lw_okq (⟨"PalmJuryModel", "believesOf", "(I)I"⟩, 34) := ⟨⟨by decide +kernel, by decide +kernel⟩, List.mem_of_getElem? (i := 830) (by decide +kernel), List.mem_of_getElem? (i := 970) (by decide +kernel), List.mem_of_getElem? (i := 971) (by decide +kernel)⟩
theorem lw_p20 : lw_okq (⟨"PalmJuryModel", "weightOf", "(I)I"⟩, 34) := ⟨⟨by decide +kernel, by decide +kernel⟩, List.mem_of_getElem? (i := 830) (by decide +kernel), List.mem_of_getElem? (i := 974) (by decide +kernel), List.mem_of_getElem? (i := 975) (by decide +kernel)⟩
theorem lw_p21 : lw_okq (⟨"PalmJuryModel", "counts", "(I)I"⟩, 34) := ⟨⟨by decide +kernel, by decide +kernel⟩, List.mem_of_getElem? (i := 830) (by decide +kernel), List.mem_of_getElem? (i := 978) (by decide +kernel), List.mem_of_getElem? (i := 979) (by decide +kernel)⟩
theorem lw_p22 : lw_okq (⟨"PalmJuryModel", "worksOut", "(I)I"⟩, 34) := ⟨⟨by decide +kernel, by decide +kernel⟩, List.mem_of_getElem? (i := 830) (by decide +kernel), List.mem_of_getElem? (i := 985) (by decide +kernel), List.mem_of_getElem? (i := 986) (by decide +kernel)⟩
theorem lw_p23 : lw_okq (⟨"PalmJuryModel", "isGuilty", "(I)Z"⟩, 34) := ⟨⟨by decide +kernel, by decide +kernel⟩, List.mem_of_getElem? (i := 830) (by decide +kernel), List.mem_of_getElem? (i := 995) (by decide +kernel), List.mem_of_getElem? (i := 996) (by decide +kernel)⟩
theorem lw_p24 : lw_okq (⟨"PalmJuryModel", "partnerOf", "(I)I"⟩, 34) := ⟨⟨by decide +kernel, by decide +kernel⟩, List.mem_of_getElem? (i := 830) (by decide +kernel), List.mem_of_getElem? (i := 999) (by decide +kernel), List.mem_of_getElem? (i := 1000) (by decide +kernel)⟩
theorem lw_p25 : lw_okq (⟨"PalmJuryModel", "worthOf", "(I)I"⟩, 34) := ⟨⟨by decide +kernel, by decide +kernel⟩, List.mem_of_getElem? (i := 830) (by decide +kernel), List.mem_of_getElem? (i := 1003) (by decide +kernel), List.mem_of_getElem? (i := 1004) (by decide +kernel)⟩
theorem lw_p26 : lw_okq (⟨"PalmJuryModel", "tellsOf", "(II)I"⟩, 34) := ⟨⟨by decide +kernel, by decide +kernel⟩, List.mem_of_getElem? (i := 830) (by decide +kernel), List.mem_of_getElem? (i := 1011) (by decide +kernel), List.mem_of_getElem? (i := 1012) (by decide +kernel)⟩
theorem lw_p27 : lw_okq (⟨"PalmJuryModel", "becomes", "(II)I"⟩, 34) := ⟨⟨by decide +kernel, by decide +kernel⟩, List.mem_of_getElem? (i := 830) (by decide +kernel), List.mem_of_getElem? (i := 1031) (by decide +kernel), List.mem_of_getElem? (i := 1032) (by decide +kernel)⟩
theorem lw_p28 : lw_okq (⟨"PalmJuryModel", "draw", "()I"⟩, 34) := ⟨⟨by decide +kernel, by decide +kernel⟩, List.mem_of_getElem? (i := 830) (by decide +kernel), List.mem_of_getElem? (i := 1054) (by decide +kernel), List.mem_of_getElem? (i := 1055) (by decide +kernel)⟩
theorem lw_p29 : lw_okq (⟨"PalmJuryModel", "comesOut", "(II)I"⟩, 34) := ⟨⟨by decide +kernel, by decide +kernel⟩, List.mem_of_getElem? (i := 830) (by decide +kernel), List.mem_of_getElem? (i := 1067) (by decide +kernel), List.mem_of_getElem? (i := 1068) (by decide +kernel)⟩
theorem lw_p30 : lw_okq (⟨"PalmJuryModel", "goesOn", "(I)I"⟩, 34) := ⟨⟨by decide +kernel, by decide +kernel⟩, List.mem_of_getElem? (i := 830) (by decide +kernel), List.mem_of_getElem? (i := 1075) (by decide +kernel), List.mem_of_getElem? (i := 1076) (by decide +kernel)⟩
theorem lw_p31 : lw_okq (⟨"PalmJuryModel", "hour", "()I"⟩, 34) := ⟨⟨by decide +kernel, by decide +kernel⟩, List.mem_of_getElem? (i := 830) (by decide +kernel), List.mem_of_getElem? (i := 1079) (by decide +kernel), List.mem_of_getElem? (i := 1080) (by decide +kernel)⟩
def lw_privs_2 : List (MethodName × Nat) := [(⟨"PalmJuryModel", "put", "(III)V"⟩, 34), (⟨"PalmJuryModel", "isJuror", "(I)Z"⟩, 34), (⟨"PalmJuryModel", "of", "(II)I"⟩, 34), (⟨"PalmJuryModel", "believesOf", "(I)I"⟩, 34), (⟨"PalmJuryModel", "weightOf", "(I)I"⟩, 34), (⟨"PalmJuryModel", "counts", "(I)I"⟩, 34), (⟨"PalmJuryModel", "worksOut", "(I)I"⟩, 34), (⟨"PalmJuryModel", "isGuilty", "(I)Z"⟩, 34), (⟨"PalmJuryModel", "partnerOf", "(I)I"⟩, 34), (⟨"PalmJuryModel", "worthOf", "(I)I"⟩, 34), (⟨"PalmJuryModel", "tellsOf", "(II)I"⟩, 34), (⟨"PalmJuryModel", "becomes", "(II)I"⟩, 34), (⟨"PalmJuryModel", "draw", "()I"⟩, 34), (⟨"PalmJuryModel", "comesOut", "(II)I"⟩, 34), (⟨"PalmJuryModel", "goesOn", "(I)I"⟩, 34), (⟨"PalmJuryModel", "hour", "()I"⟩, 34)]
theorem lw_r2 : ∀ q ∈ lw_privs_2, lw_okq q := List.forall_mem_cons.mpr ⟨lw_p16, List.forall_mem_cons.mpr ⟨lw_p17, List.forall_mem_cons.mpr ⟨lw_p18, List.forall_mem_cons.mpr ⟨lw_p19, List.forall_mem_cons.mpr ⟨lw_p20, List.forall_mem_cons.mpr ⟨lw_p21, List.forall_mem_cons.mpr ⟨lw_p22, List.forall_mem_cons.mpr ⟨lw_p23, List.forall_mem_cons.mpr ⟨lw_p24, List.forall_mem_cons.mpr ⟨lw_p25, List.forall_mem_cons.mpr ⟨lw_p26, List.forall_mem_cons.mpr ⟨lw_p27, List.forall_mem_cons.mpr ⟨lw_p28, List.forall_mem_cons.mpr ⟨lw_p29, List.forall_mem_cons.mpr ⟨lw_p30, List.forall_mem_cons.mpr ⟨lw_p31, fun _ h => absurd h List.not_mem_nil⟩⟩⟩⟩⟩⟩⟩⟩⟩⟩⟩⟩⟩⟩⟩⟩
theorem lw_p32 : lw_okq (⟨"PalmJuryModel", "passes", "(III)I"⟩, 34) := ⟨⟨by decide +kernel, by decide +kernel⟩, List.mem_of_getElem? (i := 830) (by decide +kernel), List.mem_of_getElem? (i := 1083) (by decide +kernel), List.mem_of_getElem? (i := 1084) (by decide +kernel)⟩
theorem lw_p33 : lw_okq (⟨"PalmJuryModel", "common", "()I"⟩, 34) := ⟨⟨by decide +kernel, by decide +kernel⟩, List.mem_of_getElem? (i := 830) (by decide +kernel), List.mem_of_getElem? (i := 1091) (by decide +kernel), List.mem_of_getElem? (i := 1092) (by decide +kernel)⟩
theorem lw_p34 : lw_okq (⟨"PalmJuryModel", "votes", "()I"⟩, 34) := ⟨⟨by decide +kernel, by decide +kernel⟩, List.mem_of_getElem? (i := 830) (by decide +kernel), List.mem_of_getElem? (i := 1095) (by decide +kernel), List.mem_of_getElem? (i := 1096) (by decide +kernel)⟩
theorem lw_p35 : lw_okq (⟨"PalmJuryModel", "knownAll", "()I"⟩, 34) := ⟨⟨by decide +kernel, by decide +kernel⟩, List.mem_of_getElem? (i := 830) (by decide +kernel), List.mem_of_getElem? (i := 1099) (by decide +kernel), List.mem_of_getElem? (i := 1100) (by decide +kernel)⟩
theorem lw_p36 : lw_okq (⟨"PalmJuryModel", "any", "()I"⟩, 34) := ⟨⟨by decide +kernel, by decide +kernel⟩, List.mem_of_getElem? (i := 830) (by decide +kernel), List.mem_of_getElem? (i := 1103) (by decide +kernel), List.mem_of_getElem? (i := 1104) (by decide +kernel)⟩
theorem lw_p37 : lw_okq (⟨"PalmJuryModel", "thinks", "()V"⟩, 34) := ⟨⟨by decide +kernel, by decide +kernel⟩, List.mem_of_getElem? (i := 830) (by decide +kernel), List.mem_of_getElem? (i := 1111) (by decide +kernel), List.mem_of_getElem? (i := 1112) (by decide +kernel)⟩
theorem lw_p38 : lw_okq (⟨"PalmJuryModel", "putsBack", "()V"⟩, 34) := ⟨⟨by decide +kernel, by decide +kernel⟩, List.mem_of_getElem? (i := 830) (by decide +kernel), List.mem_of_getElem? (i := 1116) (by decide +kernel), List.mem_of_getElem? (i := 1117) (by decide +kernel)⟩
theorem lw_p39 : lw_okq (⟨"PalmJuryModel", "isKnown", "(I)Z"⟩, 34) := ⟨⟨by decide +kernel, by decide +kernel⟩, List.mem_of_getElem? (i := 830) (by decide +kernel), List.mem_of_getElem? (i := 1124) (by decide +kernel), List.mem_of_getElem? (i := 1125) (by decide +kernel)⟩
theorem lw_p40 : lw_okq (⟨"PalmJuryModel", "votesBehind", "(I)I"⟩, 34) := ⟨⟨by decide +kernel, by decide +kernel⟩, List.mem_of_getElem? (i := 830) (by decide +kernel), List.mem_of_getElem? (i := 1140) (by decide +kernel), List.mem_of_getElem? (i := 1141) (by decide +kernel)⟩
theorem lw_p41 : lw_okq (⟨"PalmJuryModel", "offBy", "(II)J"⟩, 34) := ⟨⟨by decide +kernel, by decide +kernel⟩, List.mem_of_getElem? (i := 830) (by decide +kernel), List.mem_of_getElem? (i := 1156) (by decide +kernel), List.mem_of_getElem? (i := 1157) (by decide +kernel)⟩
theorem lw_p42 : lw_okq (⟨"PalmJuryModel", "go", "()V"⟩, 34) := ⟨⟨by decide +kernel, by decide +kernel⟩, List.mem_of_getElem? (i := 830) (by decide +kernel), List.mem_of_getElem? (i := 1180) (by decide +kernel), List.mem_of_getElem? (i := 1181) (by decide +kernel)⟩
theorem lw_p43 : lw_okq (⟨"PalmJuryModel", "isLetter", "(I)Z"⟩, 34) := ⟨⟨by decide +kernel, by decide +kernel⟩, List.mem_of_getElem? (i := 830) (by decide +kernel), List.mem_of_getElem? (i := 1184) (by decide +kernel), List.mem_of_getElem? (i := 1185) (by decide +kernel)⟩
theorem lw_p44 : lw_okq (⟨"PalmJuryModel", "isFigure", "(I)Z"⟩, 34) := ⟨⟨by decide +kernel, by decide +kernel⟩, List.mem_of_getElem? (i := 830) (by decide +kernel), List.mem_of_getElem? (i := 1188) (by decide +kernel), List.mem_of_getElem? (i := 1189) (by decide +kernel)⟩
theorem lw_p45 : lw_okq (⟨"PalmJuryModel", "takesKey", "()Z"⟩, 34) := ⟨⟨by decide +kernel, by decide +kernel⟩, List.mem_of_getElem? (i := 830) (by decide +kernel), List.mem_of_getElem? (i := 1192) (by decide +kernel), List.mem_of_getElem? (i := 1193) (by decide +kernel)⟩
theorem lw_p46 : lw_okq (⟨"PalmJuryModel", "takesE", "()Z"⟩, 34) := ⟨⟨by decide +kernel, by decide +kernel⟩, List.mem_of_getElem? (i := 830) (by decide +kernel), List.mem_of_getElem? (i := 1196) (by decide +kernel), List.mem_of_getElem? (i := 1197) (by decide +kernel)⟩
theorem lw_p47 : lw_okq (⟨"PalmJuryModel", "takesPart", "()Z"⟩, 34) := ⟨⟨by decide +kernel, by decide +kernel⟩, List.mem_of_getElem? (i := 830) (by decide +kernel), List.mem_of_getElem? (i := 1200) (by decide +kernel), List.mem_of_getElem? (i := 1201) (by decide +kernel)⟩
def lw_privs_3 : List (MethodName × Nat) := [(⟨"PalmJuryModel", "passes", "(III)I"⟩, 34), (⟨"PalmJuryModel", "common", "()I"⟩, 34), (⟨"PalmJuryModel", "votes", "()I"⟩, 34), (⟨"PalmJuryModel", "knownAll", "()I"⟩, 34), (⟨"PalmJuryModel", "any", "()I"⟩, 34), (⟨"PalmJuryModel", "thinks", "()V"⟩, 34), (⟨"PalmJuryModel", "putsBack", "()V"⟩, 34), (⟨"PalmJuryModel", "isKnown", "(I)Z"⟩, 34), (⟨"PalmJuryModel", "votesBehind", "(I)I"⟩, 34), (⟨"PalmJuryModel", "offBy", "(II)J"⟩, 34), (⟨"PalmJuryModel", "go", "()V"⟩, 34), (⟨"PalmJuryModel", "isLetter", "(I)Z"⟩, 34), (⟨"PalmJuryModel", "isFigure", "(I)Z"⟩, 34), (⟨"PalmJuryModel", "takesKey", "()Z"⟩, 34), (⟨"PalmJuryModel", "takesE", "()Z"⟩, 34), (⟨"PalmJuryModel", "takesPart", "()Z"⟩, 34)]
theorem lw_r3 : ∀ q ∈ lw_privs_3, lw_okq q := List.forall_mem_cons.mpr ⟨lw_p32, List.forall_mem_cons.mpr ⟨lw_p33, List.forall_mem_cons.mpr ⟨lw_p34, List.forall_mem_cons.mpr ⟨lw_p35, List.forall_mem_cons.mpr ⟨lw_p36, List.forall_mem_cons.mpr ⟨lw_p37, List.forall_mem_cons.mpr ⟨lw_p38, List.forall_mem_cons.mpr ⟨lw_p39, List.forall_mem_cons.mpr ⟨lw_p40, List.forall_mem_cons.mpr ⟨lw_p41, List.forall_mem_cons.mpr ⟨lw_p42, List.forall_mem_cons.mpr ⟨lw_p43, List.forall_mem_cons.mpr ⟨lw_p44, List.forall_mem_cons.mpr ⟨lw_p45, List.forall_mem_cons.mpr ⟨lw_p46, List.forall_mem_cons.mpr ⟨lw_p47, fun _ h => absurd h List.not_mem_nil⟩⟩⟩⟩⟩⟩⟩⟩⟩⟩⟩⟩⟩⟩⟩⟩
theorem lw_p48 : lw_okq (⟨"PalmJuryModel", "nameOf", "(I)I"⟩, 34) := ⟨⟨by decide +kernel, by decide +kernel⟩, List.mem_of_getElem? (i := 830) (by decide +kernel), List.mem_of_getElem? (i := 1204) (by decide +kernel), List.mem_of_getElem? (i := 1205) (by decide +kernel)⟩
theorem lw_p49 : lw_okq (⟨"PalmJuryModel", "settle", "(I)V"⟩, 34) := ⟨⟨by decide +kernel, by decide +kernel⟩, List.mem_of_getElem? (i := 830) (by decide +kernel), List.mem_of_getElem? (i := 1208) (by decide +kernel), List.mem_of_getElem? (i := 1209) (by decide +kernel)⟩
theorem lw_p50 : lw_okq (⟨"PalmJuryModel", "notsOpen", "()I"⟩, 34) := ⟨⟨by decide +kernel, by decide +kernel⟩, List.mem_of_getElem? (i := 830) (by decide +kernel), List.mem_of_getElem? (i := 1215) (by decide +kernel), List.mem_of_getElem? (i := 1216) (by decide +kernel)⟩
theorem lw_p51 : lw_okq (⟨"PalmJuryModel", "signHere", "()I"⟩, 34) := ⟨⟨by decide +kernel, by decide +kernel⟩, List.mem_of_getElem? (i := 830) (by decide +kernel), List.mem_of_getElem? (i := 1219) (by decide +kernel), List.mem_of_getElem? (i := 1220) (by decide +kernel)⟩
def lw_privs_4 : List (MethodName × Nat) := [(⟨"PalmJuryModel", "nameOf", "(I)I"⟩, 34), (⟨"PalmJuryModel", "settle", "(I)V"⟩, 34), (⟨"PalmJuryModel", "notsOpen", "()I"⟩, 34), (⟨"PalmJuryModel", "signHere", "()I"⟩, 34)]
theorem lw_r4 : ∀ q ∈ lw_privs_4, lw_okq q := List.forall_mem_cons.mpr ⟨lw_p48, List.forall_mem_cons.mpr ⟨lw_p49, List.forall_mem_cons.mpr ⟨lw_p50, List.forall_mem_cons.mpr ⟨lw_p51, fun _ h => absurd h List.not_mem_nil⟩⟩⟩⟩
def lw_privs : List (MethodName × Nat) := lw_privs_1 ++ (lw_privs_2 ++ (lw_privs_3 ++ (lw_privs_4)))
def lw_tbl : List Cond := k2_sels lw_privs ++ tables_1
theorem lw_privs_ok : ∀ q ∈ lw_privs, lw_okq q := by
  show ∀ q ∈ lw_privs_1 ++ (lw_privs_2 ++ (lw_privs_3 ++ (lw_privs_4))), lw_okq q
  exact List.forall_mem_append.mpr ⟨lw_r1, List.forall_mem_append.mpr ⟨lw_r2, List.forall_mem_append.mpr ⟨lw_r3, lw_r4⟩⟩⟩
end
section
def RX0 : String := "PalmJury$Jury"
def TX0 : u_T := fun k => match k with
  | 0 => ("PalmJury$Jury", "laws", "LPalmJury$Laws;", true)
  | 1 => ("PalmJury$Jury", "kind", "[I", true)
  | 2 => ("PalmJury$Jury", "side", "[I", true)
  | 3 => ("PalmJury$Jury", "knows", "[I", true)
  | 4 => ("PalmJury$Jury", "doubt", "[I", true)
  | 5 => ("PalmJury$Jury", "passed", "[I", true)
  | 6 => ("PalmJury$Jury", "weight", "[I", true)
  | 7 => ("PalmJury$Jury", "counting", "[I", true)
  | 8 => ("PalmJury$Jury", "size", "I", false)
  | 9 => ("PalmJury$Jury", "bar", "I", false)
  | 10 => ("PalmJury$Jury", "slip", "I", false)
  | 11 => ("PalmJury$Jury", "turn", "I", false)
  | 12 => ("PalmJury$Jury", "slips", "I", false)
  | 13 => ("PalmJury$Jury", "hour", "I", false)
  | 14 => ("PalmJury$Jury", "z", "I", false)
  | _ => ("PalmJury$Jury", "texts", "I", false)
def tyX0 : Nat → FieldType := fun k => match k with
  | 0 => .object "PalmJury$Laws"
  | 1 => .array .int
  | 2 => .array .int
  | 3 => .array .int
  | 4 => .array .int
  | 5 => .array .int
  | 6 => .array .int
  | 7 => .array .int
  | 8 => .int
  | 9 => .int
  | 10 => .int
  | 11 => .int
  | 12 => .int
  | 13 => .int
  | 14 => .int
  | _ => .int
theorem nmX0 : ∀ a, a < 16 → ∀ b, b < 16 → a ≠ b → (TX0 a).2.1 ≠ (TX0 b).2.1 := by decide +kernel
theorem tyX0_ok : ∀ k, k < 16 → parseFieldDescriptor (TX0 k).2.2.1 = some (tyX0 k) := by decide +kernel
abbrev cX0_init : ByteArray := prog_2_method_1_code
def yX0_init : MethodName := ⟨RX0, "<init>", "(LPalmJury$Laws;)V"⟩
abbrev cX0_become : ByteArray := prog_2_method_2_code
def yX0_become : MethodName := ⟨RX0, "become", "(LPalmJury$Jury;)V"⟩
abbrev cX0_has : ByteArray := prog_2_method_3_code
def yX0_has : MethodName := ⟨RX0, "has", "(I)Z"⟩
abbrev cX0_add : ByteArray := prog_2_method_4_code
def yX0_add : MethodName := ⟨RX0, "add", "(IIII)V"⟩
abbrev cX0_addByLot : ByteArray := prog_2_method_5_code
def yX0_addByLot : MethodName := ⟨RX0, "addByLot", "()V"⟩
abbrev cX0_draw : ByteArray := prog_2_method_6_code
def yX0_draw : MethodName := ⟨RX0, "draw", "()I"⟩
abbrev cX0_comesOut : ByteArray := prog_2_method_7_code
def yX0_comesOut : MethodName := ⟨RX0, "comesOut", "(II)I"⟩
abbrev cX0_partner : ByteArray := prog_2_method_8_code
def yX0_partner : MethodName := ⟨RX0, "partner", "(I)I"⟩
abbrev cX0_swaying : ByteArray := prog_2_method_9_code
def yX0_swaying : MethodName := ⟨RX0, "swaying", "()I"⟩
abbrev cX0_pass : ByteArray := prog_2_method_10_code
def yX0_pass : MethodName := ⟨RX0, "pass", "(II)I"⟩
abbrev cX0_anHour : ByteArray := prog_2_method_11_code
def yX0_anHour : MethodName := ⟨RX0, "anHour", "(I)I"⟩
abbrev cX0_palms : ByteArray := prog_2_method_12_code
def yX0_palms : MethodName := ⟨RX0, "palms", "(III)I"⟩
abbrev cX0_believes : ByteArray := prog_2_method_13_code
def yX0_believes : MethodName := ⟨RX0, "believes", "(I)I"⟩
abbrev cX0_trusts : ByteArray := prog_2_method_14_code
def yX0_trusts : MethodName := ⟨RX0, "trusts", "(I)I"⟩
abbrev cX0_verdict : ByteArray := prog_2_method_15_code
def yX0_verdict : MethodName := ⟨RX0, "verdict", "(I)I"⟩
abbrev cX0_votes : ByteArray := prog_2_method_16_code
def yX0_votes : MethodName := ⟨RX0, "votes", "()I"⟩
abbrev cX0_common : ByteArray := prog_2_method_17_code
def yX0_common : MethodName := ⟨RX0, "common", "()I"⟩
abbrev cX0_any : ByteArray := prog_2_method_18_code
def yX0_any : MethodName := ⟨RX0, "any", "()I"⟩
abbrev cX0_known : ByteArray := prog_2_method_19_code
def yX0_known : MethodName := ⟨RX0, "known", "()I"⟩
def RX1 : String := "PalmJury$Kinds"
def TX1 : u_T := fun k => match k with
  | _ => ("", "", "", false)
def tyX1 : Nat → FieldType := fun k => match k with
  | _ => .int
theorem nmX1 : ∀ a, a < 0 → ∀ b, b < 0 → a ≠ b → (TX1 a).2.1 ≠ (TX1 b).2.1 := by decide +kernel
theorem tyX1_ok : ∀ k, k < 0 → parseFieldDescriptor (TX1 k).2.2.1 = some (tyX1 k) := by decide +kernel
abbrev cX1_above : ByteArray := prog_3_method_2_code
def yX1_above : MethodName := ⟨RX1, "above", "(I)I"⟩
abbrev cX1_isOf : ByteArray := prog_3_method_3_code
def yX1_isOf : MethodName := ⟨RX1, "isOf", "(II)Z"⟩
abbrev cX1_worth : ByteArray := prog_3_method_4_code
def yX1_worth : MethodName := ⟨RX1, "worth", "(II)I"⟩
abbrev cX1_doubtingWorth : ByteArray := prog_3_method_5_code
def yX1_doubtingWorth : MethodName := ⟨RX1, "doubtingWorth", "(I)I"⟩
abbrev cX1_swayedWorth : ByteArray := prog_3_method_6_code
def yX1_swayedWorth : MethodName := ⟨RX1, "swayedWorth", "(I)I"⟩
abbrev cX1_belief : ByteArray := prog_3_method_7_code
def yX1_belief : MethodName := ⟨RX1, "belief", "(III)I"⟩
abbrev cX1_doubtingBelief : ByteArray := prog_3_method_8_code
def yX1_doubtingBelief : MethodName := ⟨RX1, "doubtingBelief", "(II)I"⟩
abbrev cX1_swayedBelief : ByteArray := prog_3_method_9_code
def yX1_swayedBelief : MethodName := ⟨RX1, "swayedBelief", "(I)I"⟩
abbrev cX1_passes : ByteArray := prog_3_method_10_code
def yX1_passes : MethodName := ⟨RX1, "passes", "(LPalmJury$Jury;II)I"⟩
abbrev cX1_least : ByteArray := prog_3_method_11_code
def yX1_least : MethodName := ⟨RX1, "least", "(I)I"⟩
abbrev cX1_greatest : ByteArray := prog_3_method_12_code
def yX1_greatest : MethodName := ⟨RX1, "greatest", "(I)I"⟩
def RX2 : String := "PalmJury$Law"
def TX2 : u_T := fun k => match k with
  | 0 => ("PalmJury$Law", "key", "I", false)
  | 1 => ("PalmJury$Law", "leaves", "I", false)
  | 2 => ("PalmJury$Law", "code", "[I", true)
  | _ => ("PalmJury$Law", "length", "I", false)
def tyX2 : Nat → FieldType := fun k => match k with
  | 0 => .int
  | 1 => .int
  | 2 => .array .int
  | _ => .int
theorem nmX2 : ∀ a, a < 4 → ∀ b, b < 4 → a ≠ b → (TX2 a).2.1 ≠ (TX2 b).2.1 := by decide +kernel
theorem tyX2_ok : ∀ k, k < 4 → parseFieldDescriptor (TX2 k).2.2.1 = some (tyX2 k) := by decide +kernel
abbrev cX2_init : ByteArray := prog_4_method_1_code
def yX2_init : MethodName := ⟨RX2, "<init>", "()V"⟩
abbrev cX2_begin : ByteArray := prog_4_method_2_code
def yX2_begin : MethodName := ⟨RX2, "begin", "(I)V"⟩
abbrev cX2_become : ByteArray := prog_4_method_3_code
def yX2_become : MethodName := ⟨RX2, "become", "(LPalmJury$Law;)V"⟩
abbrev cX2_addNumber : ByteArray := prog_4_method_4_code
def yX2_addNumber : MethodName := ⟨RX2, "addNumber", "(I)V"⟩
abbrev cX2_addName : ByteArray := prog_4_method_5_code
def yX2_addName : MethodName := ⟨RX2, "addName", "(I)V"⟩
abbrev cX2_addSign : ByteArray := prog_4_method_6_code
def yX2_addSign : MethodName := ⟨RX2, "addSign", "(I)V"⟩
abbrev cX2_add : ByteArray := prog_4_method_7_code
def yX2_add : MethodName := ⟨RX2, "add", "(I)V"⟩
abbrev cX2_work : ByteArray := prog_4_method_8_code
def yX2_work : MethodName := ⟨RX2, "work", "([IIII)I"⟩
abbrev cX2_named : ByteArray := prog_4_method_9_code
def yX2_named : MethodName := ⟨RX2, "named", "(IIII)I"⟩
abbrev cX2_joined : ByteArray := prog_4_method_10_code
def yX2_joined : MethodName := ⟨RX2, "joined", "(III)I"⟩
def RX3 : String := "PalmJury$Laws"
def TX3 : u_T := fun k => match k with
  | 0 => ("PalmJury$Laws", "all", "[LPalmJury$Law;", true)
  | _ => ("PalmJury$Laws", "stack", "[I", true)
def tyX3 : Nat → FieldType := fun k => match k with
  | 0 => .array (.object "PalmJury$Law")
  | _ => .array .int
theorem nmX3 : ∀ a, a < 2 → ∀ b, b < 2 → a ≠ b → (TX3 a).2.1 ≠ (TX3 b).2.1 := by decide +kernel
theorem tyX3_ok : ∀ k, k < 2 → parseFieldDescriptor (TX3 k).2.2.1 = some (tyX3 k) := by decide +kernel
abbrev cX3_init : ByteArray := prog_5_method_1_code
def yX3_init : MethodName := ⟨RX3, "<init>", "()V"⟩
abbrev cX3_at : ByteArray := prog_5_method_2_code
def yX3_at : MethodName := ⟨RX3, "at", "(I)LPalmJury$Law;"⟩
abbrev cX3_gives : ByteArray := prog_5_method_3_code
def yX3_gives : MethodName := ⟨RX3, "gives", "(IIII)I"⟩
def RX4 : String := "PalmJury$Row"
def TX4 : u_T := fun k => match k with
  | 0 => ("PalmJury$Row", "sort", "I", false)
  | 1 => ("PalmJury$Row", "size", "I", false)
  | _ => ("PalmJury$Row", "places", "[I", true)
def tyX4 : Nat → FieldType := fun k => match k with
  | 0 => .int
  | 1 => .int
  | _ => .array .int
theorem nmX4 : ∀ a, a < 3 → ∀ b, b < 3 → a ≠ b → (TX4 a).2.1 ≠ (TX4 b).2.1 := by decide +kernel
theorem tyX4_ok : ∀ k, k < 3 → parseFieldDescriptor (TX4 k).2.2.1 = some (tyX4 k) := by decide +kernel
abbrev cX4_init : ByteArray := prog_6_method_1_code
def yX4_init : MethodName := ⟨RX4, "<init>", "()V"⟩
abbrev cX4_begin : ByteArray := prog_6_method_2_code
def yX4_begin : MethodName := ⟨RX4, "begin", "(II)V"⟩
abbrev cX4_become : ByteArray := prog_6_method_3_code
def yX4_become : MethodName := ⟨RX4, "become", "(LPalmJury$Row;)V"⟩
abbrev cX4_has : ByteArray := prog_6_method_4_code
def yX4_has : MethodName := ⟨RX4, "has", "(I)Z"⟩
abbrev cX4_hasNumber : ByteArray := prog_6_method_5_code
def yX4_hasNumber : MethodName := ⟨RX4, "hasNumber", "(I)Z"⟩
abbrev cX4_hasStretch : ByteArray := prog_6_method_6_code
def yX4_hasStretch : MethodName := ⟨RX4, "hasStretch", "(II)Z"⟩
def RX5 : String := "PalmJury$Slot"
def TX5 : u_T := fun k => match k with
  | 0 => ("PalmJury$Slot", "thing", "I", false)
  | 1 => ("PalmJury$Slot", "kind", "I", false)
  | 2 => ("PalmJury$Slot", "doubt", "I", false)
  | 3 => ("PalmJury$Slot", "number", "I", false)
  | _ => ("PalmJury$Slot", "row", "LPalmJury$Row;", true)
def tyX5 : Nat → FieldType := fun k => match k with
  | 0 => .int
  | 1 => .int
  | 2 => .int
  | 3 => .int
  | _ => .object "PalmJury$Row"
theorem nmX5 : ∀ a, a < 5 → ∀ b, b < 5 → a ≠ b → (TX5 a).2.1 ≠ (TX5 b).2.1 := by decide +kernel
theorem tyX5_ok : ∀ k, k < 5 → parseFieldDescriptor (TX5 k).2.2.1 = some (tyX5 k) := by decide +kernel
abbrev cX5_init : ByteArray := prog_7_method_1_code
def yX5_init : MethodName := ⟨RX5, "<init>", "()V"⟩
def RX6 : String := "PalmJury$Tape"
def TX6 : u_T := fun k => match k with
  | 0 => ("PalmJury$Tape", "length", "I", false)
  | 1 => ("PalmJury$Tape", "bytes", "[I", true)
  | 2 => ("PalmJury$Tape", "law", "LPalmJury$Law;", true)
  | 3 => ("PalmJury$Tape", "from", "I", false)
  | 4 => ("PalmJury$Tape", "to", "I", false)
  | 5 => ("PalmJury$Tape", "sort", "I", false)
  | _ => ("PalmJury$Tape", "stuck", "Z", false)
def tyX6 : Nat → FieldType := fun k => match k with
  | 0 => .int
  | 1 => .array .int
  | 2 => .object "PalmJury$Law"
  | 3 => .int
  | 4 => .int
  | 5 => .int
  | _ => .boolean
theorem nmX6 : ∀ a, a < 7 → ∀ b, b < 7 → a ≠ b → (TX6 a).2.1 ≠ (TX6 b).2.1 := by decide +kernel
theorem tyX6_ok : ∀ k, k < 7 → parseFieldDescriptor (TX6 k).2.2.1 = some (tyX6 k) := by decide +kernel
abbrev cX6_init : ByteArray := prog_8_method_1_code
def yX6_init : MethodName := ⟨RX6, "<init>", "()V"⟩
abbrev cX6_takes : ByteArray := prog_8_method_2_code
def yX6_takes : MethodName := ⟨RX6, "takes", "(I)V"⟩
abbrev cX6_faultOfText : ByteArray := prog_8_method_3_code
def yX6_faultOfText : MethodName := ⟨RX6, "faultOfText", "()I"⟩
abbrev cX6_byteAt : ByteArray := prog_8_method_4_code
def yX6_byteAt : MethodName := ⟨RX6, "byteAt", "(I)I"⟩
abbrev cX6_sortOf : ByteArray := prog_8_method_5_code
def yX6_sortOf : MethodName := ⟨RX6, "sortOf", "(I)I"⟩
abbrev cX6_step : ByteArray := prog_8_method_6_code
def yX6_step : MethodName := ⟨RX6, "step", "()V"⟩
abbrev cX6_keyAtHand : ByteArray := prog_8_method_7_code
def yX6_keyAtHand : MethodName := ⟨RX6, "keyAtHand", "()I"⟩
abbrev cX6_isWord : ByteArray := prog_8_method_8_code
def yX6_isWord : MethodName := ⟨RX6, "isWord", "(Ljava/lang/String;)Z"⟩
abbrev cX6_wordOf : ByteArray := prog_8_method_9_code
def yX6_wordOf : MethodName := ⟨RX6, "wordOf", "(I)Ljava/lang/String;"⟩
abbrev cX6_namesOf : ByteArray := prog_8_method_10_code
def yX6_namesOf : MethodName := ⟨RX6, "namesOf", "(I)Ljava/lang/String;"⟩
abbrev cX6_signsOf : ByteArray := prog_8_method_11_code
def yX6_signsOf : MethodName := ⟨RX6, "signsOf", "(I)Ljava/lang/String;"⟩
abbrev cX6_isSignOf : ByteArray := prog_8_method_12_code
def yX6_isSignOf : MethodName := ⟨RX6, "isSignOf", "(Ljava/lang/String;)Z"⟩
abbrev cX6_level : ByteArray := prog_8_method_13_code
def yX6_level : MethodName := ⟨RX6, "level", "(III)Z"⟩
abbrev cX6_piece : ByteArray := prog_8_method_14_code
def yX6_piece : MethodName := ⟨RX6, "piece", "(II)Z"⟩
abbrev cX6_number : ByteArray := prog_8_method_15_code
def yX6_number : MethodName := ⟨RX6, "number", "()Z"⟩
abbrev cX6_name : ByteArray := prog_8_method_16_code
def yX6_name : MethodName := ⟨RX6, "name", "()Z"⟩
def RX7 : String := "PalmJury"
def TX7 : u_T := fun k => match k with
  | 0 => ("PalmJury", "laws", "LPalmJury$Laws;", true)
  | 1 => ("PalmJury", "tape", "LPalmJury$Tape;", true)
  | 2 => ("PalmJury", "now", "LPalmJury$Jury;", true)
  | 3 => ("PalmJury", "image", "LPalmJury$Jury;", true)
  | 4 => ("PalmJury", "thought", "LPalmJury$Jury;", true)
  | 5 => ("PalmJury", "sheets", "[LPalmJury$Row;", true)
  | 6 => ("PalmJury", "slots", "[LPalmJury$Slot;", true)
  | 7 => ("PalmJury", "waiting", "[I", true)
  | 8 => ("PalmJury", "waits", "I", false)
  | _ => ("PalmJury", "kept", "Z", false)
def tyX7 : Nat → FieldType := fun k => match k with
  | 0 => .object "PalmJury$Laws"
  | 1 => .object "PalmJury$Tape"
  | 2 => .object "PalmJury$Jury"
  | 3 => .object "PalmJury$Jury"
  | 4 => .object "PalmJury$Jury"
  | 5 => .array (.object "PalmJury$Row")
  | 6 => .array (.object "PalmJury$Slot")
  | 7 => .array .int
  | 8 => .int
  | _ => .boolean
theorem nmX7 : ∀ a, a < 10 → ∀ b, b < 10 → a ≠ b → (TX7 a).2.1 ≠ (TX7 b).2.1 := by decide +kernel
theorem tyX7_ok : ∀ k, k < 10 → parseFieldDescriptor (TX7 k).2.2.1 = some (tyX7 k) := by decide +kernel
abbrev cX7_init : ByteArray := prog_1_method_1_code
def yX7_init : MethodName := ⟨RX7, "<init>", "()V"⟩
abbrev cX7_juror : ByteArray := prog_1_method_2_code
def yX7_juror : MethodName := ⟨RX7, "juror", "(III)I"⟩
abbrev cX7_told : ByteArray := prog_1_method_3_code
def yX7_told : MethodName := ⟨RX7, "told", "(II)I"⟩
abbrev cX7_tells : ByteArray := prog_1_method_4_code
def yX7_tells : MethodName := ⟨RX7, "tells", "(II)I"⟩
abbrev cX7_as : ByteArray := prog_1_method_5_code
def yX7_as : MethodName := ⟨RX7, "as", "(II)I"⟩
abbrev cX7_turns : ByteArray := prog_1_method_6_code
def yX7_turns : MethodName := ⟨RX7, "turns", "(II)I"⟩
abbrev cX7_set : ByteArray := prog_1_method_7_code
def yX7_set : MethodName := ⟨RX7, "set", "(III)I"⟩
abbrev cX7_weigh : ByteArray := prog_1_method_8_code
def yX7_weigh : MethodName := ⟨RX7, "weigh", "(II)I"⟩
abbrev cX7_rule : ByteArray := prog_1_method_9_code
def yX7_rule : MethodName := ⟨RX7, "rule", "(II)I"⟩
abbrev cX7_deal : ByteArray := prog_1_method_10_code
def yX7_deal : MethodName := ⟨RX7, "deal", "(I)I"⟩
abbrev cX7_seed : ByteArray := prog_1_method_11_code
def yX7_seed : MethodName := ⟨RX7, "seed", "(I)I"⟩
abbrev cX7_out : ByteArray := prog_1_method_12_code
def yX7_out : MethodName := ⟨RX7, "out", "(II)I"⟩
abbrev cX7_hours : ByteArray := prog_1_method_13_code
def yX7_hours : MethodName := ⟨RX7, "hours", "(I)I"⟩
abbrev cX7_jury : ByteArray := prog_1_method_14_code
def yX7_jury : MethodName := ⟨RX7, "jury", "(I)I"⟩
abbrev cX7_behind : ByteArray := prog_1_method_15_code
def yX7_behind : MethodName := ⟨RX7, "behind", "(II)I"⟩
abbrev cX7_allKnow : ByteArray := prog_1_method_16_code
def yX7_allKnow : MethodName := ⟨RX7, "allKnow", "()I"⟩
abbrev cX7_bestTurn : ByteArray := prog_1_method_17_code
def yX7_bestTurn : MethodName := ⟨RX7, "bestTurn", "(II)I"⟩
abbrev cX7_sure : ByteArray := prog_1_method_18_code
def yX7_sure : MethodName := ⟨RX7, "sure", "(I)I"⟩
abbrev cX7_advocate : ByteArray := prog_1_method_19_code
def yX7_advocate : MethodName := ⟨RX7, "advocate", "(II)I"⟩
abbrev cX7_tipped : ByteArray := prog_1_method_20_code
def yX7_tipped : MethodName := ⟨RX7, "tipped", "(I)I"⟩
abbrev cX7_weighed : ByteArray := prog_1_method_21_code
def yX7_weighed : MethodName := ⟨RX7, "weighed", "(II)I"⟩
abbrev cX7_fee : ByteArray := prog_1_method_22_code
def yX7_fee : MethodName := ⟨RX7, "fee", "()I"⟩
abbrev cX7_fine : ByteArray := prog_1_method_23_code
def yX7_fine : MethodName := ⟨RX7, "fine", "(I)I"⟩
abbrev cX7_feed : ByteArray := prog_1_method_24_code
def yX7_feed : MethodName := ⟨RX7, "feed", "(III)I"⟩
abbrev cX7_trim : ByteArray := prog_1_method_25_code
def yX7_trim : MethodName := ⟨RX7, "trim", "(I)I"⟩
abbrev cX7_text : ByteArray := prog_1_method_26_code
def yX7_text : MethodName := ⟨RX7, "text", "()I"⟩
abbrev cX7_textTold : ByteArray := prog_1_method_27_code
def yX7_textTold : MethodName := ⟨RX7, "textTold", "(II)I"⟩
abbrev cX7_why : ByteArray := prog_1_method_28_code
def yX7_why : MethodName := ⟨RX7, "why", "(I)I"⟩
abbrev cX7_sheet : ByteArray := prog_1_method_29_code
def yX7_sheet : MethodName := ⟨RX7, "sheet", "(III)I"⟩
abbrev cX7_mark : ByteArray := prog_1_method_30_code
def yX7_mark : MethodName := ⟨RX7, "mark", "(III)I"⟩
abbrev cX7_pour : ByteArray := prog_1_method_31_code
def yX7_pour : MethodName := ⟨RX7, "pour", "(I)I"⟩
abbrev cX7_reads : ByteArray := prog_1_method_32_code
def yX7_reads : MethodName := ⟨RX7, "reads", "(I)I"⟩
abbrev cX7_copy : ByteArray := prog_1_method_33_code
def yX7_copy : MethodName := ⟨RX7, "copy", "(IIIII)I"⟩
abbrev cX7_lay : ByteArray := prog_1_method_34_code
def yX7_lay : MethodName := ⟨RX7, "lay", "(III)I"⟩
abbrev cX7_ask : ByteArray := prog_1_method_35_code
def yX7_ask : MethodName := ⟨RX7, "ask", "(II)I"⟩
abbrev cX7_item : ByteArray := prog_1_method_36_code
def yX7_item : MethodName := ⟨RX7, "item", "(II)I"⟩
abbrev cX7_rest : ByteArray := prog_1_method_37_code
def yX7_rest : MethodName := ⟨RX7, "rest", "(II)I"⟩
abbrev cX7_tell : ByteArray := prog_1_method_38_code
def yX7_tell : MethodName := ⟨RX7, "tell", "(I)I"⟩
abbrev cX7_check : ByteArray := prog_1_method_39_code
def yX7_check : MethodName := ⟨RX7, "check", "(I)I"⟩
abbrev cX7_keep : ByteArray := prog_1_method_40_code
def yX7_keep : MethodName := ⟨RX7, "keep", "()I"⟩
abbrev cX7_back : ByteArray := prog_1_method_41_code
def yX7_back : MethodName := ⟨RX7, "back", "()I"⟩
abbrev cX7_count : ByteArray := prog_1_method_42_code
def yX7_count : MethodName := ⟨RX7, "count", "(I)I"⟩
abbrev cX7_think : ByteArray := prog_1_method_43_code
def yX7_think : MethodName := ⟨RX7, "think", "(II)V"⟩
abbrev cX7_isSaid : ByteArray := prog_1_method_44_code
def yX7_isSaid : MethodName := ⟨RX7, "isSaid", "(III)Z"⟩
abbrev cX7_apart : ByteArray := prog_1_method_45_code
def yX7_apart : MethodName := ⟨RX7, "apart", "(LPalmJury$Jury;LPalmJury$Row;)I"⟩
abbrev cX7_isFact : ByteArray := prog_1_method_46_code
def yX7_isFact : MethodName := ⟨RX7, "isFact", "(I)Z"⟩
abbrev cX7_isSheet : ByteArray := prog_1_method_47_code
def yX7_isSheet : MethodName := ⟨RX7, "isSheet", "(I)Z"⟩
abbrev cX7_isSlot : ByteArray := prog_1_method_48_code
def yX7_isSlot : MethodName := ⟨RX7, "isSlot", "(I)Z"⟩
abbrev cX7_within : ByteArray := prog_1_method_49_code
def yX7_within : MethodName := ⟨RX7, "within", "(III)Z"⟩
abbrev cX7_held : ByteArray := prog_1_method_50_code
def yX7_held : MethodName := ⟨RX7, "held", "(III)I"⟩
abbrev cX7_exchange : ByteArray := prog_1_method_51_code
def yX7_exchange : MethodName := ⟨RX7, "exchange", "([III)I"⟩
def RX8 : String := "PalmJuryModel"
def TX8 : u_T := fun k => match k with
  | 0 => ("PalmJuryModel", "now", "[I", true)
  | 1 => ("PalmJuryModel", "image", "[I", true)
  | 2 => ("PalmJuryModel", "aside", "[I", true)
  | 3 => ("PalmJuryModel", "hasImage", "Z", false)
  | 4 => ("PalmJuryModel", "silent", "I", false)
  | 5 => ("PalmJuryModel", "before", "[I", true)
  | 6 => ("PalmJuryModel", "tape", "[I", true)
  | 7 => ("PalmJuryModel", "taped", "I", false)
  | 8 => ("PalmJuryModel", "next", "I", false)
  | 9 => ("PalmJuryModel", "from", "I", false)
  | 10 => ("PalmJuryModel", "token", "I", false)
  | 11 => ("PalmJuryModel", "value", "I", false)
  | 12 => ("PalmJuryModel", "ended", "I", false)
  | 13 => ("PalmJuryModel", "key", "I", false)
  | 14 => ("PalmJuryModel", "keys", "[C", true)
  | 15 => ("PalmJuryModel", "keyAt", "[I", true)
  | 16 => ("PalmJuryModel", "code", "[I", true)
  | 17 => ("PalmJuryModel", "codes", "I", false)
  | 18 => ("PalmJuryModel", "atoms", "I", false)
  | 19 => ("PalmJuryModel", "waits", "[I", true)
  | 20 => ("PalmJuryModel", "held", "I", false)
  | 21 => ("PalmJuryModel", "tested", "[Z", true)
  | 22 => ("PalmJuryModel", "stack", "[I", true)
  | 23 => ("PalmJuryModel", "facts", "[I", true)
  | 24 => ("PalmJuryModel", "sorts", "[I", true)
  | 25 => ("PalmJuryModel", "sizes", "[I", true)
  | 26 => ("PalmJuryModel", "cells", "[I", true)
  | 27 => ("PalmJuryModel", "holds", "[I", true)
  | 28 => ("PalmJuryModel", "holdsA", "[I", true)
  | 29 => ("PalmJuryModel", "holdsB", "[I", true)
  | 30 => ("PalmJuryModel", "heldCells", "[I", true)
  | 31 => ("PalmJuryModel", "moved", "[I", true)
  | 32 => ("PalmJuryModel", "heard", "[I", true)
  | _ => ("PalmJuryModel", "waiting", "I", false)
def tyX8 : Nat → FieldType := fun k => match k with
  | 0 => .array .int
  | 1 => .array .int
  | 2 => .array .int
  | 3 => .boolean
  | 4 => .int
  | 5 => .array .int
  | 6 => .array .int
  | 7 => .int
  | 8 => .int
  | 9 => .int
  | 10 => .int
  | 11 => .int
  | 12 => .int
  | 13 => .int
  | 14 => .array .char
  | 15 => .array .int
  | 16 => .array .int
  | 17 => .int
  | 18 => .int
  | 19 => .array .int
  | 20 => .int
  | 21 => .array .boolean
  | 22 => .array .int
  | 23 => .array .int
  | 24 => .array .int
  | 25 => .array .int
  | 26 => .array .int
  | 27 => .array .int
  | 28 => .array .int
  | 29 => .array .int
  | 30 => .array .int
  | 31 => .array .int
  | 32 => .array .int
  | _ => .int
theorem nmX8 : ∀ a, a < 34 → ∀ b, b < 34 → a ≠ b → (TX8 a).2.1 ≠ (TX8 b).2.1 := by decide +kernel
theorem tyX8_ok : ∀ k, k < 34 → parseFieldDescriptor (TX8 k).2.2.1 = some (tyX8 k) := by decide +kernel
abbrev cX8_init : ByteArray := prog_10_method_1_code
def yX8_init : MethodName := ⟨RX8, "<init>", "()V"⟩
abbrev cX8_in : ByteArray := prog_10_method_2_code
def yX8_in : MethodName := ⟨RX8, "in", "(III)Z"⟩
abbrev cX8_within : ByteArray := prog_10_method_3_code
def yX8_within : MethodName := ⟨RX8, "within", "(III)I"⟩
abbrev cX8_copyAll : ByteArray := prog_10_method_4_code
def yX8_copyAll : MethodName := ⟨RX8, "copyAll", "([I[I)V"⟩
abbrev cX8_told0 : ByteArray := prog_10_method_5_code
def yX8_told0 : MethodName := ⟨RX8, "told0", "(I)I"⟩
abbrev cX8_isJuror : ByteArray := prog_10_method_6_code
def yX8_isJuror : MethodName := ⟨RX8, "isJuror", "(I)Z"⟩
abbrev cX8_isFact : ByteArray := prog_10_method_7_code
def yX8_isFact : MethodName := ⟨RX8, "isFact", "(I)Z"⟩
abbrev cX8_of : ByteArray := prog_10_method_8_code
def yX8_of : MethodName := ⟨RX8, "of", "(II)I"⟩
abbrev cX8_put : ByteArray := prog_10_method_9_code
def yX8_put : MethodName := ⟨RX8, "put", "(III)V"⟩
abbrev cX8_becomes : ByteArray := prog_10_method_10_code
def yX8_becomes : MethodName := ⟨RX8, "becomes", "(II)I"⟩
abbrev cX8_bitsOf : ByteArray := prog_10_method_11_code
def yX8_bitsOf : MethodName := ⟨RX8, "bitsOf", "(I)I"⟩
abbrev cX8_comes : ByteArray := prog_10_method_12_code
def yX8_comes : MethodName := ⟨RX8, "comes", "(IIII)I"⟩
abbrev cX8_juror : ByteArray := prog_10_method_13_code
def yX8_juror : MethodName := ⟨RX8, "juror", "(III)I"⟩
abbrev cX8_weightOf : ByteArray := prog_10_method_14_code
def yX8_weightOf : MethodName := ⟨RX8, "weightOf", "(I)I"⟩
abbrev cX8_believesOf : ByteArray := prog_10_method_15_code
def yX8_believesOf : MethodName := ⟨RX8, "believesOf", "(I)I"⟩
abbrev cX8_isGuilty : ByteArray := prog_10_method_16_code
def yX8_isGuilty : MethodName := ⟨RX8, "isGuilty", "(I)Z"⟩
abbrev cX8_partnerOf : ByteArray := prog_10_method_17_code
def yX8_partnerOf : MethodName := ⟨RX8, "partnerOf", "(I)I"⟩
abbrev cX8_tellsOf : ByteArray := prog_10_method_18_code
def yX8_tellsOf : MethodName := ⟨RX8, "tellsOf", "(II)I"⟩
abbrev cX8_worthOf : ByteArray := prog_10_method_19_code
def yX8_worthOf : MethodName := ⟨RX8, "worthOf", "(I)I"⟩
abbrev cX8_told : ByteArray := prog_10_method_20_code
def yX8_told : MethodName := ⟨RX8, "told", "(II)I"⟩
abbrev cX8_tells : ByteArray := prog_10_method_21_code
def yX8_tells : MethodName := ⟨RX8, "tells", "(II)I"⟩
abbrev cX8_isUnder : ByteArray := prog_10_method_22_code
def yX8_isUnder : MethodName := ⟨RX8, "isUnder", "(II)Z"⟩
abbrev cX8_as : ByteArray := prog_10_method_23_code
def yX8_as : MethodName := ⟨RX8, "as", "(II)I"⟩
abbrev cX8_turns : ByteArray := prog_10_method_24_code
def yX8_turns : MethodName := ⟨RX8, "turns", "(II)I"⟩
abbrev cX8_set : ByteArray := prog_10_method_25_code
def yX8_set : MethodName := ⟨RX8, "set", "(III)I"⟩
abbrev cX8_weigh : ByteArray := prog_10_method_26_code
def yX8_weigh : MethodName := ⟨RX8, "weigh", "(II)I"⟩
abbrev cX8_rule : ByteArray := prog_10_method_27_code
def yX8_rule : MethodName := ⟨RX8, "rule", "(II)I"⟩
abbrev cX8_draw : ByteArray := prog_10_method_28_code
def yX8_draw : MethodName := ⟨RX8, "draw", "()I"⟩
abbrev cX8_deal : ByteArray := prog_10_method_29_code
def yX8_deal : MethodName := ⟨RX8, "deal", "(I)I"⟩
abbrev cX8_seed : ByteArray := prog_10_method_30_code
def yX8_seed : MethodName := ⟨RX8, "seed", "(I)I"⟩
abbrev cX8_comesOut : ByteArray := prog_10_method_31_code
def yX8_comesOut : MethodName := ⟨RX8, "comesOut", "(II)I"⟩
abbrev cX8_out : ByteArray := prog_10_method_32_code
def yX8_out : MethodName := ⟨RX8, "out", "(II)I"⟩
abbrev cX8_passes : ByteArray := prog_10_method_33_code
def yX8_passes : MethodName := ⟨RX8, "passes", "(III)I"⟩
abbrev cX8_hour : ByteArray := prog_10_method_34_code
def yX8_hour : MethodName := ⟨RX8, "hour", "()I"⟩
abbrev cX8_goesOn : ByteArray := prog_10_method_35_code
def yX8_goesOn : MethodName := ⟨RX8, "goesOn", "(I)I"⟩
abbrev cX8_hours : ByteArray := prog_10_method_36_code
def yX8_hours : MethodName := ⟨RX8, "hours", "(I)I"⟩
abbrev cX8_common : ByteArray := prog_10_method_37_code
def yX8_common : MethodName := ⟨RX8, "common", "()I"⟩
abbrev cX8_any : ByteArray := prog_10_method_38_code
def yX8_any : MethodName := ⟨RX8, "any", "()I"⟩
abbrev cX8_votes : ByteArray := prog_10_method_39_code
def yX8_votes : MethodName := ⟨RX8, "votes", "()I"⟩
abbrev cX8_knownAll : ByteArray := prog_10_method_40_code
def yX8_knownAll : MethodName := ⟨RX8, "knownAll", "()I"⟩
abbrev cX8_jury : ByteArray := prog_10_method_41_code
def yX8_jury : MethodName := ⟨RX8, "jury", "(I)I"⟩
abbrev cX8_thinks : ByteArray := prog_10_method_42_code
def yX8_thinks : MethodName := ⟨RX8, "thinks", "()V"⟩
abbrev cX8_putsBack : ByteArray := prog_10_method_43_code
def yX8_putsBack : MethodName := ⟨RX8, "putsBack", "()V"⟩
abbrev cX8_behind : ByteArray := prog_10_method_44_code
def yX8_behind : MethodName := ⟨RX8, "behind", "(II)I"⟩
abbrev cX8_isKnown : ByteArray := prog_10_method_45_code
def yX8_isKnown : MethodName := ⟨RX8, "isKnown", "(I)Z"⟩
abbrev cX8_allKnow : ByteArray := prog_10_method_46_code
def yX8_allKnow : MethodName := ⟨RX8, "allKnow", "()I"⟩
abbrev cX8_bestTurn : ByteArray := prog_10_method_47_code
def yX8_bestTurn : MethodName := ⟨RX8, "bestTurn", "(II)I"⟩
abbrev cX8_sure : ByteArray := prog_10_method_48_code
def yX8_sure : MethodName := ⟨RX8, "sure", "(I)I"⟩
abbrev cX8_votesBehind : ByteArray := prog_10_method_49_code
def yX8_votesBehind : MethodName := ⟨RX8, "votesBehind", "(I)I"⟩
abbrev cX8_advocate : ByteArray := prog_10_method_50_code
def yX8_advocate : MethodName := ⟨RX8, "advocate", "(II)I"⟩
abbrev cX8_tipped : ByteArray := prog_10_method_51_code
def yX8_tipped : MethodName := ⟨RX8, "tipped", "(I)I"⟩
abbrev cX8_offBy : ByteArray := prog_10_method_52_code
def yX8_offBy : MethodName := ⟨RX8, "offBy", "(II)J"⟩
abbrev cX8_weighed : ByteArray := prog_10_method_53_code
def yX8_weighed : MethodName := ⟨RX8, "weighed", "(II)I"⟩
abbrev cX8_fee : ByteArray := prog_10_method_54_code
def yX8_fee : MethodName := ⟨RX8, "fee", "()I"⟩
abbrev cX8_fine : ByteArray := prog_10_method_55_code
def yX8_fine : MethodName := ⟨RX8, "fine", "(I)I"⟩
abbrev cX8_feed : ByteArray := prog_10_method_56_code
def yX8_feed : MethodName := ⟨RX8, "feed", "(III)I"⟩
abbrev cX8_trim : ByteArray := prog_10_method_57_code
def yX8_trim : MethodName := ⟨RX8, "trim", "(I)I"⟩
abbrev cX8_isLetter : ByteArray := prog_10_method_58_code
def yX8_isLetter : MethodName := ⟨RX8, "isLetter", "(I)Z"⟩
abbrev cX8_isFigure : ByteArray := prog_10_method_59_code
def yX8_isFigure : MethodName := ⟨RX8, "isFigure", "(I)Z"⟩
abbrev cX8_go : ByteArray := prog_10_method_60_code
def yX8_go : MethodName := ⟨RX8, "go", "()V"⟩
abbrev cX8_takesKey : ByteArray := prog_10_method_61_code
def yX8_takesKey : MethodName := ⟨RX8, "takesKey", "()Z"⟩
abbrev cX8_nameOf : ByteArray := prog_10_method_62_code
def yX8_nameOf : MethodName := ⟨RX8, "nameOf", "(I)I"⟩
abbrev cX8_rank : ByteArray := prog_10_method_63_code
def yX8_rank : MethodName := ⟨RX8, "rank", "(I)I"⟩
abbrev cX8_settle : ByteArray := prog_10_method_64_code
def yX8_settle : MethodName := ⟨RX8, "settle", "(I)V"⟩
abbrev cX8_signHere : ByteArray := prog_10_method_65_code
def yX8_signHere : MethodName := ⟨RX8, "signHere", "()I"⟩
abbrev cX8_takesPart : ByteArray := prog_10_method_66_code
def yX8_takesPart : MethodName := ⟨RX8, "takesPart", "()Z"⟩
abbrev cX8_takesE : ByteArray := prog_10_method_67_code
def yX8_takesE : MethodName := ⟨RX8, "takesE", "()Z"⟩
abbrev cX8_notsOpen : ByteArray := prog_10_method_68_code
def yX8_notsOpen : MethodName := ⟨RX8, "notsOpen", "()I"⟩
abbrev cX8_text : ByteArray := prog_10_method_69_code
def yX8_text : MethodName := ⟨RX8, "text", "()I"⟩
abbrev cX8_textTold : ByteArray := prog_10_method_70_code
def yX8_textTold : MethodName := ⟨RX8, "textTold", "(II)I"⟩
abbrev cX8_counts : ByteArray := prog_10_method_71_code
def yX8_counts : MethodName := ⟨RX8, "counts", "(I)I"⟩
abbrev cX8_why : ByteArray := prog_10_method_72_code
def yX8_why : MethodName := ⟨RX8, "why", "(I)I"⟩
abbrev cX8_two : ByteArray := prog_10_method_73_code
def yX8_two : MethodName := ⟨RX8, "two", "(III)I"⟩
abbrev cX8_worksOut : ByteArray := prog_10_method_74_code
def yX8_worksOut : MethodName := ⟨RX8, "worksOut", "(I)I"⟩
abbrev cX8_isSheet : ByteArray := prog_10_method_75_code
def yX8_isSheet : MethodName := ⟨RX8, "isSheet", "(I)Z"⟩
abbrev cX8_isSlot : ByteArray := prog_10_method_76_code
def yX8_isSlot : MethodName := ⟨RX8, "isSlot", "(I)Z"⟩
abbrev cX8_sheet : ByteArray := prog_10_method_77_code
def yX8_sheet : MethodName := ⟨RX8, "sheet", "(III)I"⟩
abbrev cX8_mark : ByteArray := prog_10_method_78_code
def yX8_mark : MethodName := ⟨RX8, "mark", "(III)I"⟩
abbrev cX8_pour : ByteArray := prog_10_method_79_code
def yX8_pour : MethodName := ⟨RX8, "pour", "(I)I"⟩
abbrev cX8_reads : ByteArray := prog_10_method_80_code
def yX8_reads : MethodName := ⟨RX8, "reads", "(I)I"⟩
abbrev cX8_copy : ByteArray := prog_10_method_81_code
def yX8_copy : MethodName := ⟨RX8, "copy", "(IIIII)I"⟩
abbrev cX8_lay : ByteArray := prog_10_method_82_code
def yX8_lay : MethodName := ⟨RX8, "lay", "(III)I"⟩
abbrev cX8_ask : ByteArray := prog_10_method_83_code
def yX8_ask : MethodName := ⟨RX8, "ask", "(II)I"⟩
abbrev cX8_item : ByteArray := prog_10_method_84_code
def yX8_item : MethodName := ⟨RX8, "item", "(II)I"⟩
abbrev cX8_rest : ByteArray := prog_10_method_85_code
def yX8_rest : MethodName := ⟨RX8, "rest", "(II)I"⟩
abbrev cX8_tell : ByteArray := prog_10_method_86_code
def yX8_tell : MethodName := ⟨RX8, "tell", "(I)I"⟩
abbrev cX8_check : ByteArray := prog_10_method_87_code
def yX8_check : MethodName := ⟨RX8, "check", "(I)I"⟩
abbrev cX8_keep : ByteArray := prog_10_method_88_code
def yX8_keep : MethodName := ⟨RX8, "keep", "()I"⟩
abbrev cX8_back : ByteArray := prog_10_method_89_code
def yX8_back : MethodName := ⟨RX8, "back", "()I"⟩
abbrev cX8_count : ByteArray := prog_10_method_90_code
def yX8_count : MethodName := ⟨RX8, "count", "(I)I"⟩
def RJ11 : String := "java/lang/Character"
def TJ11 : u_T := fun k => match k with
  | _ => ("", "", "", false)
def tyJ11 : Nat → FieldType := fun k => match k with
  | _ => .int
theorem nmJ11 : ∀ a, a < 0 → ∀ b, b < 0 → a ≠ b → (TJ11 a).2.1 ≠ (TJ11 b).2.1 := by decide +kernel
theorem tyJ11_ok : ∀ k, k < 0 → parseFieldDescriptor (TJ11 k).2.2.1 = some (tyJ11 k) := by decide +kernel
abbrev cJ11_isValidCodePoint_9a6ad : ByteArray := prog_11_method_11_code
def yJ11_isValidCodePoint_9a6ad : MethodName := ⟨RJ11, "isValidCodePoint", "(I)Z"⟩
abbrev cJ11_highSurrogate_5068e : ByteArray := prog_11_method_28_code
def yJ11_highSurrogate_5068e : MethodName := ⟨RJ11, "highSurrogate", "(I)C"⟩
abbrev cJ11_lowSurrogate_5068e : ByteArray := prog_11_method_29_code
def yJ11_lowSurrogate_5068e : MethodName := ⟨RJ11, "lowSurrogate", "(I)C"⟩
def RJ6 : String := "java/lang/Integer"
def TJ6 : u_T := fun k => match k with
  | _ => ("", "", "", false)
def tyJ6 : Nat → FieldType := fun k => match k with
  | _ => .int
theorem nmJ6 : ∀ a, a < 0 → ∀ b, b < 0 → a ≠ b → (TJ6 a).2.1 ≠ (TJ6 b).2.1 := by decide +kernel
theorem tyJ6_ok : ∀ k, k < 0 → parseFieldDescriptor (TJ6 k).2.2.1 = some (tyJ6 k) := by decide +kernel
abbrev cJ6_bitCount_0f7a4 : ByteArray := prog_12_method_49_code
def yJ6_bitCount_0f7a4 : MethodName := ⟨RJ6, "bitCount", "(I)I"⟩
def RJ9 : String := "java/lang/Math"
def TJ9 : u_T := fun k => match k with
  | _ => ("", "", "", false)
def tyJ9 : Nat → FieldType := fun k => match k with
  | _ => .int
theorem nmJ9 : ∀ a, a < 0 → ∀ b, b < 0 → a ≠ b → (TJ9 a).2.1 ≠ (TJ9 b).2.1 := by decide +kernel
theorem tyJ9_ok : ∀ k, k < 0 → parseFieldDescriptor (TJ9 k).2.2.1 = some (tyJ9 k) := by decide +kernel
abbrev cJ9_floorMod_7cf53 : ByteArray := prog_13_method_50_code
def yJ9_floorMod_7cf53 : MethodName := ⟨RJ9, "floorMod", "(II)I"⟩
abbrev cJ9_abs_0f7a4 : ByteArray := prog_13_method_59_code
def yJ9_abs_0f7a4 : MethodName := ⟨RJ9, "abs", "(I)I"⟩
abbrev cJ9_max_7cf53 : ByteArray := prog_13_method_65_code
def yJ9_max_7cf53 : MethodName := ⟨RJ9, "max", "(II)I"⟩
abbrev cJ9_min_7cf53 : ByteArray := prog_13_method_69_code
def yJ9_min_7cf53 : MethodName := ⟨RJ9, "min", "(II)I"⟩
def RJ0 : String := "java/lang/String"
def TJ0 : u_T := fun k => match k with
  | _ => ("", "", "", false)
def tyJ0 : Nat → FieldType := fun k => match k with
  | _ => .int
theorem nmJ0 : ∀ a, a < 0 → ∀ b, b < 0 → a ≠ b → (TJ0 a).2.1 ≠ (TJ0 b).2.1 := by decide +kernel
theorem tyJ0_ok : ∀ k, k < 0 → parseFieldDescriptor (TJ0 k).2.2.1 = some (tyJ0 k) := by decide +kernel
abbrev cJ0_length_8abf5 : ByteArray := prog_14_method_54_code
def yJ0_length_8abf5 : MethodName := ⟨RJ0, "length", "()I"⟩
abbrev cJ0_charAt_5068e : ByteArray := prog_14_method_56_code
def yJ0_charAt_5068e : MethodName := ⟨RJ0, "charAt", "(I)C"⟩
abbrev cJ0_indexOf_0f7a4 : ByteArray := prog_14_method_79_code
def yJ0_indexOf_0f7a4 : MethodName := ⟨RJ0, "indexOf", "(I)I"⟩
abbrev cJ0_indexOf_7cf53 : ByteArray := prog_14_method_80_code
def yJ0_indexOf_7cf53 : MethodName := ⟨RJ0, "indexOf", "(II)I"⟩
abbrev cJ0_coder_7d493 : ByteArray := prog_14_method_152_code
def yJ0_coder_7d493 : MethodName := ⟨RJ0, "coder", "()B"⟩
abbrev cJ0_isLatin1_aae02 : ByteArray := prog_14_method_154_code
def yJ0_isLatin1_aae02 : MethodName := ⟨RJ0, "isLatin1", "()Z"⟩
abbrev cJ0_checkIndex_df160 : ByteArray := prog_14_method_155_code
def yJ0_checkIndex_df160 : MethodName := ⟨RJ0, "checkIndex", "(II)V"⟩
abbrev cJ0_checkBoundsBeginEnd_23922 : ByteArray := prog_14_method_158_code
def yJ0_checkBoundsBeginEnd_23922 : MethodName := ⟨RJ0, "checkBoundsBeginEnd", "(III)V"⟩
def RJ1 : String := "java/lang/StringLatin1"
def TJ1 : u_T := fun k => match k with
  | _ => ("", "", "", false)
def tyJ1 : Nat → FieldType := fun k => match k with
  | _ => .int
theorem nmJ1 : ∀ a, a < 0 → ∀ b, b < 0 → a ≠ b → (TJ1 a).2.1 ≠ (TJ1 b).2.1 := by decide +kernel
theorem tyJ1_ok : ∀ k, k < 0 → parseFieldDescriptor (TJ1 k).2.2.1 = some (tyJ1 k) := by decide +kernel
abbrev cJ1_charAt_3b067 : ByteArray := prog_15_method_2_code
def yJ1_charAt_3b067 : MethodName := ⟨RJ1, "charAt", "([BI)C"⟩
abbrev cJ1_canEncode_9a6ad : ByteArray := prog_15_method_4_code
def yJ1_canEncode_9a6ad : MethodName := ⟨RJ1, "canEncode", "(I)Z"⟩
abbrev cJ1_indexOf_4cfef : ByteArray := prog_15_method_22_code
def yJ1_indexOf_4cfef : MethodName := ⟨RJ1, "indexOf", "([BIII)I"⟩
abbrev cJ1_indexOfChar_4cfef : ByteArray := prog_15_method_23_code
def yJ1_indexOfChar_4cfef : MethodName := ⟨RJ1, "indexOfChar", "([BIII)I"⟩
def RJ2 : String := "java/lang/StringUTF16"
def TJ2 : u_T := fun k => match k with
  | _ => ("", "", "", false)
def tyJ2 : Nat → FieldType := fun k => match k with
  | _ => .int
theorem nmJ2 : ∀ a, a < 0 → ∀ b, b < 0 → a ≠ b → (TJ2 a).2.1 ≠ (TJ2 b).2.1 := by decide +kernel
theorem tyJ2_ok : ∀ k, k < 0 → parseFieldDescriptor (TJ2 k).2.2.1 = some (tyJ2 k) := by decide +kernel
abbrev cJ2_getChar_3b067 : ByteArray := prog_16_method_5_code
def yJ2_getChar_3b067 : MethodName := ⟨RJ2, "getChar", "([BI)C"⟩
abbrev cJ2_length_9d52b : ByteArray := prog_16_method_6_code
def yJ2_length_9d52b : MethodName := ⟨RJ2, "length", "([B)I"⟩
abbrev cJ2_indexOf_4cfef : ByteArray := prog_16_method_40_code
def yJ2_indexOf_4cfef : MethodName := ⟨RJ2, "indexOf", "([BIII)I"⟩
abbrev cJ2_indexOfChar_4cfef : ByteArray := prog_16_method_47_code
def yJ2_indexOfChar_4cfef : MethodName := ⟨RJ2, "indexOfChar", "([BIII)I"⟩
abbrev cJ2_indexOfCharUnsafe_4cfef : ByteArray := prog_16_method_48_code
def yJ2_indexOfCharUnsafe_4cfef : MethodName := ⟨RJ2, "indexOfCharUnsafe", "([BIII)I"⟩
abbrev cJ2_indexOfSupplementary_4cfef : ByteArray := prog_16_method_49_code
def yJ2_indexOfSupplementary_4cfef : MethodName := ⟨RJ2, "indexOfSupplementary", "([BIII)I"⟩
abbrev cJ2_charAt_3b067 : ByteArray := prog_16_method_83_code
def yJ2_charAt_3b067 : MethodName := ⟨RJ2, "charAt", "([BI)C"⟩
abbrev cJ2_checkIndex_2214a : ByteArray := prog_16_method_91_code
def yJ2_checkIndex_2214a : MethodName := ⟨RJ2, "checkIndex", "(I[B)V"⟩
abbrev cJ2_checkBoundsBeginEnd_d044e : ByteArray := prog_16_method_93_code
def yJ2_checkBoundsBeginEnd_d044e : MethodName := ⟨RJ2, "checkBoundsBeginEnd", "(II[B)V"⟩
def RJ10 : String := "java/lang/System"
def TJ10 : u_T := fun k => match k with
  | _ => ("", "", "", false)
def tyJ10 : Nat → FieldType := fun k => match k with
  | _ => .int
theorem nmJ10 : ∀ a, a < 0 → ∀ b, b < 0 → a ≠ b → (TJ10 a).2.1 ≠ (TJ10 b).2.1 := by decide +kernel
theorem tyJ10_ok : ∀ k, k < 0 → parseFieldDescriptor (TJ10 k).2.2.1 = some (tyJ10 k) := by decide +kernel
def RJ3 : String := "jdk/internal/util/Preconditions"
def TJ3 : u_T := fun k => match k with
  | _ => ("", "", "", false)
def tyJ3 : Nat → FieldType := fun k => match k with
  | _ => .int
theorem nmJ3 : ∀ a, a < 0 → ∀ b, b < 0 → a ≠ b → (TJ3 a).2.1 ≠ (TJ3 b).2.1 := by decide +kernel
theorem tyJ3_ok : ∀ k, k < 0 → parseFieldDescriptor (TJ3 k).2.2.1 = some (tyJ3 k) := by decide +kernel
abbrev cJ3_checkIndex_8e157 : ByteArray := prog_18_method_11_code
def yJ3_checkIndex_8e157 : MethodName := ⟨RJ3, "checkIndex", "(IILjava/util/function/BiFunction;)I"⟩
abbrev cJ3_checkFromToIndex_8c36e : ByteArray := prog_18_method_12_code
def yJ3_checkFromToIndex_8c36e : MethodName := ⟨RJ3, "checkFromToIndex", "(IIILjava/util/function/BiFunction;)I"⟩
def RL : String := "PalmJuryLaw"
abbrev cL_law : ByteArray := code
def yL_law : MethodName := ⟨RL, "law", "([I)Z"⟩
abbrev vwCl : List vw_C := [(RX0, TX0, 16), (RX2, TX2, 4), (RX3, TX3, 2), (RX4, TX4, 3), (RX5, TX5, 5), (RX6, TX6, 7), (RX7, TX7, 10), (RX8, TX8, 34)]
/-- the good words of the tables -/
def tb : List Cond := lw_tbl.filter goodWord
theorem tb_mem {w : Cond} (i : Nat) (h : lw_tbl[i]? = some w) (hg : goodWord w = true) : w ∈ tb := List.mem_filter.mpr ⟨List.mem_of_getElem? h, hg⟩
theorem tb_in {w : Cond} (h : w ∈ tb) : w ∈ lw_tbl := (List.mem_filter.mp h).1
theorem tb_sub {ws : List Cond} (h : ws.all (fun w => decide (w ∈ lw_tbl) && goodWord w) = true) : ∀ w ∈ ws, w ∈ tb := fun w hw => by
  have h1 := List.all_eq_true.mp h w hw
  simp only [Bool.and_eq_true, decide_eq_true_eq] at h1
  exact List.mem_filter.mpr h1
/-- which fields are references, by class and place -/
def g_tab : List (List Bool) := [[true, true, true, true, true, true, true, true, false, false, false, false, false, false, false, false], [false, false, true, false], [true, true], [false, false, true], [false, false, false, false, true], [false, true, true, false, false, false, false], [true, true, true, true, true, true, true, true, false, false], [true, true, true, false, false, true, true, false, false, false, false, false, false, false, true, true, true, false, false, true, false, true, true, true, true, true, true, true, true, true, true, true, true, false]]
/-- a class: its rows of the tables -/
def CF (ci : Nat) (C : String) (T : u_T) (N : Nat) (ty : Nat → FieldType) : Prop := vwCl[ci]? = some (C, T, N) ∧ (∀ w ∈ u_ws C T N, w ∈ tb) ∧ (∀ k, k < N → parseFieldDescriptor (T k).2.2.1 = some (ty k)) ∧ (∀ a, a < N → ∀ b, b < N → a ≠ b → (T a).2.1 ≠ (T b).2.1) ∧ (g_tab.getD ci []).length = N ∧ Cond.instantiable C N ∈ tb ∧ Cond.initialized C ∈ tb ∧ (∀ k, k < N → ty k ≠ .long ∧ ty k ≠ .double ∧ ty k ≠ .float) ∧ (∀ k, k < N → defaultValue (ty k) = if (g_tab.getD ci []).getD k false then Value.null else Value.int 0) ∧ ci < 8
set_option maxRecDepth 100000 in
theorem cf_0 : CF 0 RX0 TX0 16 tyX0 := ⟨rfl, tb_sub (by decide +kernel), tyX0_ok, nmX0, by decide +kernel, tb_mem 148 (by decide +kernel) (by decide +kernel), tb_mem 57 (by decide +kernel) (by decide +kernel), by decide +kernel, by decide +kernel, by decide⟩
set_option maxRecDepth 100000 in
theorem cf_1 : CF 1 RX2 TX2 4 tyX2 := ⟨rfl, tb_sub (by decide +kernel), tyX2_ok, nmX2, by decide +kernel, tb_mem 86 (by decide +kernel) (by decide +kernel), tb_mem 55 (by decide +kernel) (by decide +kernel), by decide +kernel, by decide +kernel, by decide⟩
set_option maxRecDepth 100000 in
theorem cf_2 : CF 2 RX3 TX3 2 tyX3 := ⟨rfl, tb_sub (by decide +kernel), tyX3_ok, nmX3, by decide +kernel, tb_mem 79 (by decide +kernel) (by decide +kernel), tb_mem 54 (by decide +kernel) (by decide +kernel), by decide +kernel, by decide +kernel, by decide⟩
set_option maxRecDepth 100000 in
theorem cf_3 : CF 3 RX4 TX4 3 tyX4 := ⟨rfl, tb_sub (by decide +kernel), tyX4_ok, nmX4, by decide +kernel, tb_mem 221 (by decide +kernel) (by decide +kernel), tb_mem 58 (by decide +kernel) (by decide +kernel), by decide +kernel, by decide +kernel, by decide⟩
set_option maxRecDepth 100000 in
theorem cf_4 : CF 4 RX5 TX5 5 tyX5 := ⟨rfl, tb_sub (by decide +kernel), tyX5_ok, nmX5, by decide +kernel, tb_mem 241 (by decide +kernel) (by decide +kernel), tb_mem 59 (by decide +kernel) (by decide +kernel), by decide +kernel, by decide +kernel, by decide⟩
set_option maxRecDepth 100000 in
theorem cf_5 : CF 5 RX6 TX6 7 tyX6 := ⟨rfl, tb_sub (by decide +kernel), tyX6_ok, nmX6, by decide +kernel, tb_mem 116 (by decide +kernel) (by decide +kernel), tb_mem 56 (by decide +kernel) (by decide +kernel), by decide +kernel, by decide +kernel, by decide⟩
set_option maxRecDepth 100000 in
theorem cf_6 : CF 6 RX7 TX7 10 tyX7 := ⟨rfl, tb_sub (by decide +kernel), tyX7_ok, nmX7, by decide +kernel, tb_mem 71 (by decide +kernel) (by decide +kernel), tb_mem 53 (by decide +kernel) (by decide +kernel), by decide +kernel, by decide +kernel, by decide⟩
set_option maxRecDepth 100000 in
theorem cf_7 : CF 7 RX8 TX8 34 tyX8 := ⟨rfl, tb_sub (by decide +kernel), tyX8_ok, nmX8, by decide +kernel, tb_mem 882 (by decide +kernel) (by decide +kernel), tb_mem 60 (by decide +kernel) (by decide +kernel), by decide +kernel, by decide +kernel, by decide⟩
/-- a field as an instruction of a class names it -/
def FR (own : String) (idx ci i : Nat) (r : Bool) (fin : Bool) (ft : FieldType) : Prop := ∃ (C : String) (T : u_T) (N : Nat) (ty : Nat → FieldType), CF ci C T N ty ∧ i < N ∧ Cond.fieldLink own idx (T i).1 (T i).2.1 (T i).2.2.1 ∈ tb ∧ (g_tab.getD ci []).getD i false = r ∧ (T i).2.2.2 = fin ∧ ty i = ft ∧ (fin = true → (T i).1 = own)
/-- the same, for reading alone -/
def FG (own : String) (idx ci i : Nat) (r : Bool) (fin : Bool) (ft : FieldType) : Prop := ∃ (C : String) (T : u_T) (N : Nat) (ty : Nat → FieldType), CF ci C T N ty ∧ i < N ∧ Cond.fieldLink own idx (T i).1 (T i).2.1 (T i).2.2.1 ∈ tb ∧ (g_tab.getD ci []).getD i false = r ∧ (T i).2.2.2 = fin ∧ ty i = ft
theorem FR.g {own : String} {idx ci i : Nat} {r fin : Bool} {ft : FieldType} (h : FR own idx ci i r fin ft) : FG own idx ci i r fin ft := by
  obtain ⟨C, T, N, ty, h1, h2, h3, h4, h5, h6, -⟩ := h
  exact ⟨C, T, N, ty, h1, h2, h3, h4, h5, h6⟩
theorem fr_X7_10 : FR RX7 10 6 0 true true (.object "PalmJury$Laws") := ⟨RX7, TX7, 10, tyX7, cf_6, by decide, tb_mem 266 (by decide +kernel) (by decide +kernel), by decide +kernel, rfl, rfl, fun _ => rfl⟩
theorem fr_X7_19 : FR RX7 19 6 1 true true (.object "PalmJury$Tape") := ⟨RX7, TX7, 10, tyX7, cf_6, by decide, tb_mem 267 (by decide +kernel) (by decide +kernel), by decide +kernel, rfl, rfl, fun _ => rfl⟩
theorem fr_X7_28 : FR RX7 28 6 2 true true (.object "PalmJury$Jury") := ⟨RX7, TX7, 10, tyX7, cf_6, by decide, tb_mem 268 (by decide +kernel) (by decide +kernel), by decide +kernel, rfl, rfl, fun _ => rfl⟩
theorem fr_X7_32 : FR RX7 32 6 3 true true (.object "PalmJury$Jury") := ⟨RX7, TX7, 10, tyX7, cf_6, by decide, tb_mem 269 (by decide +kernel) (by decide +kernel), by decide +kernel, rfl, rfl, fun _ => rfl⟩
theorem fr_X7_35 : FR RX7 35 6 4 true true (.object "PalmJury$Jury") := ⟨RX7, TX7, 10, tyX7, cf_6, by decide, tb_mem 270 (by decide +kernel) (by decide +kernel), by decide +kernel, rfl, rfl, fun _ => rfl⟩
theorem fr_X7_40 : FR RX7 40 6 5 true true (.array (.object "PalmJury$Row")) := ⟨RX7, TX7, 10, tyX7, cf_6, by decide, tb_mem 271 (by decide +kernel) (by decide +kernel), by decide +kernel, rfl, rfl, fun _ => rfl⟩
theorem fr_X7_47 : FR RX7 47 6 6 true true (.array (.object "PalmJury$Slot")) := ⟨RX7, TX7, 10, tyX7, cf_6, by decide, tb_mem 272 (by decide +kernel) (by decide +kernel), by decide +kernel, rfl, rfl, fun _ => rfl⟩
theorem fr_X7_52 : FR RX7 52 6 7 true true (.array .int) := ⟨RX7, TX7, 10, tyX7, cf_6, by decide, tb_mem 273 (by decide +kernel) (by decide +kernel), by decide +kernel, rfl, rfl, fun _ => rfl⟩
theorem fr_X7_61 : FR RX7 61 0 8 false false (.int) := ⟨RX0, TX0, 16, tyX0, cf_0, by decide, tb_mem 170 (by decide +kernel) (by decide +kernel), by decide +kernel, rfl, rfl, fun h => nomatch h⟩
theorem fr_X7_74 : FG RX7 74 0 1 true true (.array .int) := ⟨RX0, TX0, 16, tyX0, cf_0, by decide, tb_mem 155 (by decide +kernel) (by decide +kernel), by decide +kernel, rfl, rfl⟩
theorem fr_X7_77 : FG RX7 77 0 2 true true (.array .int) := ⟨RX0, TX0, 16, tyX0, cf_0, by decide, tb_mem 158 (by decide +kernel) (by decide +kernel), by decide +kernel, rfl, rfl⟩
theorem fr_X7_80 : FG RX7 80 0 3 true true (.array .int) := ⟨RX0, TX0, 16, tyX0, cf_0, by decide, tb_mem 160 (by decide +kernel) (by decide +kernel), by decide +kernel, rfl, rfl⟩
theorem fr_X7_83 : FG RX7 83 0 4 true true (.array .int) := ⟨RX0, TX0, 16, tyX0, cf_0, by decide, tb_mem 163 (by decide +kernel) (by decide +kernel), by decide +kernel, rfl, rfl⟩
theorem fr_X7_86 : FG RX7 86 0 5 true true (.array .int) := ⟨RX0, TX0, 16, tyX0, cf_0, by decide, tb_mem 165 (by decide +kernel) (by decide +kernel), by decide +kernel, rfl, rfl⟩
theorem fr_X7_127 : FG RX7 127 0 6 true true (.array .int) := ⟨RX0, TX0, 16, tyX0, cf_0, by decide, tb_mem 167 (by decide +kernel) (by decide +kernel), by decide +kernel, rfl, rfl⟩
theorem fr_X7_130 : FR RX7 130 0 9 false false (.int) := ⟨RX0, TX0, 16, tyX0, cf_0, by decide, tb_mem 173 (by decide +kernel) (by decide +kernel), by decide +kernel, rfl, rfl, fun h => nomatch h⟩
theorem fr_X7_133 : FR RX7 133 0 10 false false (.int) := ⟨RX0, TX0, 16, tyX0, cf_0, by decide, tb_mem 175 (by decide +kernel) (by decide +kernel), by decide +kernel, rfl, rfl, fun h => nomatch h⟩
theorem fr_X7_136 : FR RX7 136 0 11 false false (.int) := ⟨RX0, TX0, 16, tyX0, cf_0, by decide, tb_mem 177 (by decide +kernel) (by decide +kernel), by decide +kernel, rfl, rfl, fun h => nomatch h⟩
theorem fr_X7_147 : FR RX7 147 0 14 false false (.int) := ⟨RX0, TX0, 16, tyX0, cf_0, by decide, tb_mem 183 (by decide +kernel) (by decide +kernel), by decide +kernel, rfl, rfl, fun h => nomatch h⟩
theorem fr_X7_153 : FR RX7 153 0 13 false false (.int) := ⟨RX0, TX0, 16, tyX0, cf_0, by decide, tb_mem 181 (by decide +kernel) (by decide +kernel), by decide +kernel, rfl, rfl, fun h => nomatch h⟩
theorem fr_X7_166 : FR RX7 166 0 12 false false (.int) := ⟨RX0, TX0, 16, tyX0, cf_0, by decide, tb_mem 179 (by decide +kernel) (by decide +kernel), by decide +kernel, rfl, rfl, fun h => nomatch h⟩
theorem fr_X7_189 : FR RX7 189 3 0 false false (.int) := ⟨RX4, TX4, 3, tyX4, cf_3, by decide, tb_mem 227 (by decide +kernel) (by decide +kernel), by decide +kernel, rfl, rfl, fun h => nomatch h⟩
theorem fr_X7_198 : FG RX7 198 0 7 true true (.array .int) := ⟨RX0, TX0, 16, tyX0, cf_0, by decide, tb_mem 169 (by decide +kernel) (by decide +kernel), by decide +kernel, rfl, rfl⟩
theorem fr_X7_205 : FR RX7 205 5 0 false false (.int) := ⟨RX6, TX6, 7, tyX6, cf_5, by decide, tb_mem 124 (by decide +kernel) (by decide +kernel), by decide +kernel, rfl, rfl, fun h => nomatch h⟩
theorem fr_X7_215 : FR RX7 215 0 15 false false (.int) := ⟨RX0, TX0, 16, tyX0, cf_0, by decide, tb_mem 185 (by decide +kernel) (by decide +kernel), by decide +kernel, rfl, rfl, fun h => nomatch h⟩
theorem fr_X7_222 : FG RX7 222 5 2 true true (.object "PalmJury$Law") := ⟨RX6, TX6, 7, tyX6, cf_5, by decide, tb_mem 127 (by decide +kernel) (by decide +kernel), by decide +kernel, rfl, rfl⟩
theorem fr_X7_231 : FR RX7 231 1 0 false false (.int) := ⟨RX2, TX2, 4, tyX2, cf_1, by decide, tb_mem 93 (by decide +kernel) (by decide +kernel), by decide +kernel, rfl, rfl, fun h => nomatch h⟩
theorem fr_X7_238 : FR RX7 238 1 1 false false (.int) := ⟨RX2, TX2, 4, tyX2, cf_1, by decide, tb_mem 95 (by decide +kernel) (by decide +kernel), by decide +kernel, rfl, rfl, fun h => nomatch h⟩
theorem fr_X7_245 : FR RX7 245 3 1 false false (.int) := ⟨RX4, TX4, 3, tyX4, cf_3, by decide, tb_mem 229 (by decide +kernel) (by decide +kernel), by decide +kernel, rfl, rfl, fun h => nomatch h⟩
theorem fr_X7_248 : FG RX7 248 3 2 true true (.array .int) := ⟨RX4, TX4, 3, tyX4, cf_3, by decide, tb_mem 231 (by decide +kernel) (by decide +kernel), by decide +kernel, rfl, rfl⟩
theorem fr_X7_268 : FR RX7 268 4 0 false false (.int) := ⟨RX5, TX5, 5, tyX5, cf_4, by decide, tb_mem 249 (by decide +kernel) (by decide +kernel), by decide +kernel, rfl, rfl, fun h => nomatch h⟩
theorem fr_X7_271 : FR RX7 271 4 1 false false (.int) := ⟨RX5, TX5, 5, tyX5, cf_4, by decide, tb_mem 250 (by decide +kernel) (by decide +kernel), by decide +kernel, rfl, rfl, fun h => nomatch h⟩
theorem fr_X7_273 : FR RX7 273 4 2 false false (.int) := ⟨RX5, TX5, 5, tyX5, cf_4, by decide, tb_mem 251 (by decide +kernel) (by decide +kernel), by decide +kernel, rfl, rfl, fun h => nomatch h⟩
theorem fr_X7_275 : FG RX7 275 4 4 true true (.object "PalmJury$Row") := ⟨RX5, TX5, 5, tyX5, cf_4, by decide, tb_mem 254 (by decide +kernel) (by decide +kernel), by decide +kernel, rfl, rfl⟩
theorem fr_X7_282 : FR RX7 282 4 3 false false (.int) := ⟨RX5, TX5, 5, tyX5, cf_4, by decide, tb_mem 252 (by decide +kernel) (by decide +kernel), by decide +kernel, rfl, rfl, fun h => nomatch h⟩
theorem fr_X7_286 : FR RX7 286 6 8 false false (.int) := ⟨RX7, TX7, 10, tyX7, cf_6, by decide, tb_mem 274 (by decide +kernel) (by decide +kernel), by decide +kernel, rfl, rfl, fun h => nomatch h⟩
theorem fr_X7_289 : FR RX7 289 6 9 false false (.boolean) := ⟨RX7, TX7, 10, tyX7, cf_6, by decide, tb_mem 275 (by decide +kernel) (by decide +kernel), by decide +kernel, rfl, rfl, fun h => nomatch h⟩
theorem fr_X0_9 : FR RX0 9 0 1 true true (.array .int) := ⟨RX0, TX0, 16, tyX0, cf_0, by decide, tb_mem 154 (by decide +kernel) (by decide +kernel), by decide +kernel, rfl, rfl, fun _ => rfl⟩
theorem fr_X0_15 : FR RX0 15 0 2 true true (.array .int) := ⟨RX0, TX0, 16, tyX0, cf_0, by decide, tb_mem 157 (by decide +kernel) (by decide +kernel), by decide +kernel, rfl, rfl, fun _ => rfl⟩
theorem fr_X0_18 : FR RX0 18 0 3 true true (.array .int) := ⟨RX0, TX0, 16, tyX0, cf_0, by decide, tb_mem 159 (by decide +kernel) (by decide +kernel), by decide +kernel, rfl, rfl, fun _ => rfl⟩
theorem fr_X0_21 : FR RX0 21 0 4 true true (.array .int) := ⟨RX0, TX0, 16, tyX0, cf_0, by decide, tb_mem 162 (by decide +kernel) (by decide +kernel), by decide +kernel, rfl, rfl, fun _ => rfl⟩
theorem fr_X0_24 : FR RX0 24 0 5 true true (.array .int) := ⟨RX0, TX0, 16, tyX0, cf_0, by decide, tb_mem 164 (by decide +kernel) (by decide +kernel), by decide +kernel, rfl, rfl, fun _ => rfl⟩
theorem fr_X0_27 : FR RX0 27 0 6 true true (.array .int) := ⟨RX0, TX0, 16, tyX0, cf_0, by decide, tb_mem 166 (by decide +kernel) (by decide +kernel), by decide +kernel, rfl, rfl, fun _ => rfl⟩
theorem fr_X0_30 : FR RX0 30 0 7 true true (.array .int) := ⟨RX0, TX0, 16, tyX0, cf_0, by decide, tb_mem 168 (by decide +kernel) (by decide +kernel), by decide +kernel, rfl, rfl, fun _ => rfl⟩
theorem fr_X0_33 : FR RX0 33 0 9 false false (.int) := ⟨RX0, TX0, 16, tyX0, cf_0, by decide, tb_mem 172 (by decide +kernel) (by decide +kernel), by decide +kernel, rfl, rfl, fun h => nomatch h⟩
theorem fr_X0_37 : FR RX0 37 0 10 false false (.int) := ⟨RX0, TX0, 16, tyX0, cf_0, by decide, tb_mem 174 (by decide +kernel) (by decide +kernel), by decide +kernel, rfl, rfl, fun h => nomatch h⟩
theorem fr_X0_40 : FR RX0 40 0 14 false false (.int) := ⟨RX0, TX0, 16, tyX0, cf_0, by decide, tb_mem 182 (by decide +kernel) (by decide +kernel), by decide +kernel, rfl, rfl, fun h => nomatch h⟩
theorem fr_X0_43 : FR RX0 43 0 0 true true (.object "PalmJury$Laws") := ⟨RX0, TX0, 16, tyX0, cf_0, by decide, tb_mem 153 (by decide +kernel) (by decide +kernel), by decide +kernel, rfl, rfl, fun _ => rfl⟩
theorem fr_X0_53 : FR RX0 53 0 8 false false (.int) := ⟨RX0, TX0, 16, tyX0, cf_0, by decide, tb_mem 171 (by decide +kernel) (by decide +kernel), by decide +kernel, rfl, rfl, fun h => nomatch h⟩
theorem fr_X0_56 : FR RX0 56 0 11 false false (.int) := ⟨RX0, TX0, 16, tyX0, cf_0, by decide, tb_mem 176 (by decide +kernel) (by decide +kernel), by decide +kernel, rfl, rfl, fun h => nomatch h⟩
theorem fr_X0_59 : FR RX0 59 0 12 false false (.int) := ⟨RX0, TX0, 16, tyX0, cf_0, by decide, tb_mem 178 (by decide +kernel) (by decide +kernel), by decide +kernel, rfl, rfl, fun h => nomatch h⟩
theorem fr_X0_62 : FR RX0 62 0 13 false false (.int) := ⟨RX0, TX0, 16, tyX0, cf_0, by decide, tb_mem 180 (by decide +kernel) (by decide +kernel), by decide +kernel, rfl, rfl, fun h => nomatch h⟩
theorem fr_X0_65 : FR RX0 65 0 15 false false (.int) := ⟨RX0, TX0, 16, tyX0, cf_0, by decide, tb_mem 184 (by decide +kernel) (by decide +kernel), by decide +kernel, rfl, rfl, fun h => nomatch h⟩
theorem fr_X1_37 : FG RX1 37 0 3 true true (.array .int) := ⟨RX0, TX0, 16, tyX0, cf_0, by decide, tb_mem 161 (by decide +kernel) (by decide +kernel), by decide +kernel, rfl, rfl⟩
theorem fr_X1_43 : FG RX1 43 0 1 true true (.array .int) := ⟨RX0, TX0, 16, tyX0, cf_0, by decide, tb_mem 156 (by decide +kernel) (by decide +kernel), by decide +kernel, rfl, rfl⟩
theorem fr_X2_9 : FR RX2 9 1 2 true true (.array .int) := ⟨RX2, TX2, 4, tyX2, cf_1, by decide, tb_mem 96 (by decide +kernel) (by decide +kernel), by decide +kernel, rfl, rfl, fun _ => rfl⟩
theorem fr_X2_15 : FR RX2 15 1 0 false false (.int) := ⟨RX2, TX2, 4, tyX2, cf_1, by decide, tb_mem 91 (by decide +kernel) (by decide +kernel), by decide +kernel, rfl, rfl, fun h => nomatch h⟩
theorem fr_X2_19 : FR RX2 19 1 1 false false (.int) := ⟨RX2, TX2, 4, tyX2, cf_1, by decide, tb_mem 94 (by decide +kernel) (by decide +kernel), by decide +kernel, rfl, rfl, fun h => nomatch h⟩
theorem fr_X2_22 : FR RX2 22 1 3 false false (.int) := ⟨RX2, TX2, 4, tyX2, cf_1, by decide, tb_mem 97 (by decide +kernel) (by decide +kernel), by decide +kernel, rfl, rfl, fun h => nomatch h⟩
theorem fr_X3_9 : FR RX3 9 2 1 true true (.array .int) := ⟨RX3, TX3, 2, tyX3, cf_2, by decide, tb_mem 109 (by decide +kernel) (by decide +kernel), by decide +kernel, rfl, rfl, fun _ => rfl⟩
theorem fr_X3_17 : FR RX3 17 2 0 true true (.array (.object "PalmJury$Law")) := ⟨RX3, TX3, 2, tyX3, cf_2, by decide, tb_mem 108 (by decide +kernel) (by decide +kernel), by decide +kernel, rfl, rfl, fun _ => rfl⟩
theorem fr_X4_9 : FR RX4 9 3 0 false false (.int) := ⟨RX4, TX4, 3, tyX4, cf_3, by decide, tb_mem 226 (by decide +kernel) (by decide +kernel), by decide +kernel, rfl, rfl, fun h => nomatch h⟩
theorem fr_X4_15 : FR RX4 15 3 2 true true (.array .int) := ⟨RX4, TX4, 3, tyX4, cf_3, by decide, tb_mem 230 (by decide +kernel) (by decide +kernel), by decide +kernel, rfl, rfl, fun _ => rfl⟩
theorem fr_X4_23 : FR RX4 23 3 1 false false (.int) := ⟨RX4, TX4, 3, tyX4, cf_3, by decide, tb_mem 228 (by decide +kernel) (by decide +kernel), by decide +kernel, rfl, rfl, fun h => nomatch h⟩
theorem fr_X5_9 : FR RX5 9 4 0 false false (.int) := ⟨RX5, TX5, 5, tyX5, cf_4, by decide, tb_mem 248 (by decide +kernel) (by decide +kernel), by decide +kernel, rfl, rfl, fun h => nomatch h⟩
theorem fr_X5_18 : FR RX5 18 4 4 true true (.object "PalmJury$Row") := ⟨RX5, TX5, 5, tyX5, cf_4, by decide, tb_mem 253 (by decide +kernel) (by decide +kernel), by decide +kernel, rfl, rfl, fun _ => rfl⟩
theorem fr_X6_9 : FR RX6 9 5 1 true true (.array .int) := ⟨RX6, TX6, 7, tyX6, cf_5, by decide, tb_mem 125 (by decide +kernel) (by decide +kernel), by decide +kernel, rfl, rfl, fun _ => rfl⟩
theorem fr_X6_18 : FR RX6 18 5 2 true true (.object "PalmJury$Law") := ⟨RX6, TX6, 7, tyX6, cf_5, by decide, tb_mem 126 (by decide +kernel) (by decide +kernel), by decide +kernel, rfl, rfl, fun _ => rfl⟩
theorem fr_X6_22 : FR RX6 22 5 0 false false (.int) := ⟨RX6, TX6, 7, tyX6, cf_5, by decide, tb_mem 123 (by decide +kernel) (by decide +kernel), by decide +kernel, rfl, rfl, fun h => nomatch h⟩
theorem fr_X6_26 : FR RX6 26 5 4 false false (.int) := ⟨RX6, TX6, 7, tyX6, cf_5, by decide, tb_mem 129 (by decide +kernel) (by decide +kernel), by decide +kernel, rfl, rfl, fun h => nomatch h⟩
theorem fr_X6_29 : FR RX6 29 5 5 false false (.int) := ⟨RX6, TX6, 7, tyX6, cf_5, by decide, tb_mem 130 (by decide +kernel) (by decide +kernel), by decide +kernel, rfl, rfl, fun h => nomatch h⟩
theorem fr_X6_39 : FR RX6 39 5 3 false false (.int) := ⟨RX6, TX6, 7, tyX6, cf_5, by decide, tb_mem 128 (by decide +kernel) (by decide +kernel), by decide +kernel, rfl, rfl, fun h => nomatch h⟩
theorem fr_X6_57 : FR RX6 57 5 6 false false (.boolean) := ⟨RX6, TX6, 7, tyX6, cf_5, by decide, tb_mem 131 (by decide +kernel) (by decide +kernel), by decide +kernel, rfl, rfl, fun h => nomatch h⟩
theorem fr_X6_131 : FR RX6 131 1 0 false false (.int) := ⟨RX2, TX2, 4, tyX2, cf_1, by decide, tb_mem 92 (by decide +kernel) (by decide +kernel), by decide +kernel, rfl, rfl, fun h => nomatch h⟩
theorem fr_X8_9 : FR RX8 9 7 0 true true (.array .int) := ⟨RX8, TX8, 34, tyX8, cf_7, by decide, tb_mem 887 (by decide +kernel) (by decide +kernel), by decide +kernel, rfl, rfl, fun _ => rfl⟩
theorem fr_X8_13 : FR RX8 13 7 1 true true (.array .int) := ⟨RX8, TX8, 34, tyX8, cf_7, by decide, tb_mem 888 (by decide +kernel) (by decide +kernel), by decide +kernel, rfl, rfl, fun _ => rfl⟩
theorem fr_X8_16 : FR RX8 16 7 2 true true (.array .int) := ⟨RX8, TX8, 34, tyX8, cf_7, by decide, tb_mem 889 (by decide +kernel) (by decide +kernel), by decide +kernel, rfl, rfl, fun _ => rfl⟩
theorem fr_X8_19 : FR RX8 19 7 4 false false (.int) := ⟨RX8, TX8, 34, tyX8, cf_7, by decide, tb_mem 891 (by decide +kernel) (by decide +kernel), by decide +kernel, rfl, rfl, fun h => nomatch h⟩
theorem fr_X8_23 : FR RX8 23 7 5 true true (.array .int) := ⟨RX8, TX8, 34, tyX8, cf_7, by decide, tb_mem 892 (by decide +kernel) (by decide +kernel), by decide +kernel, rfl, rfl, fun _ => rfl⟩
theorem fr_X8_26 : FR RX8 26 7 6 true true (.array .int) := ⟨RX8, TX8, 34, tyX8, cf_7, by decide, tb_mem 893 (by decide +kernel) (by decide +kernel), by decide +kernel, rfl, rfl, fun _ => rfl⟩
theorem fr_X8_29 : FR RX8 29 7 14 true true (.array .char) := ⟨RX8, TX8, 34, tyX8, cf_7, by decide, tb_mem 901 (by decide +kernel) (by decide +kernel), by decide +kernel, rfl, rfl, fun _ => rfl⟩
theorem fr_X8_33 : FR RX8 33 7 15 true true (.array .int) := ⟨RX8, TX8, 34, tyX8, cf_7, by decide, tb_mem 902 (by decide +kernel) (by decide +kernel), by decide +kernel, rfl, rfl, fun _ => rfl⟩
theorem fr_X8_36 : FR RX8 36 7 16 true true (.array .int) := ⟨RX8, TX8, 34, tyX8, cf_7, by decide, tb_mem 903 (by decide +kernel) (by decide +kernel), by decide +kernel, rfl, rfl, fun _ => rfl⟩
theorem fr_X8_39 : FR RX8 39 7 19 true true (.array .int) := ⟨RX8, TX8, 34, tyX8, cf_7, by decide, tb_mem 906 (by decide +kernel) (by decide +kernel), by decide +kernel, rfl, rfl, fun _ => rfl⟩
theorem fr_X8_42 : FR RX8 42 7 21 true true (.array .boolean) := ⟨RX8, TX8, 34, tyX8, cf_7, by decide, tb_mem 908 (by decide +kernel) (by decide +kernel), by decide +kernel, rfl, rfl, fun _ => rfl⟩
theorem fr_X8_46 : FR RX8 46 7 22 true true (.array .int) := ⟨RX8, TX8, 34, tyX8, cf_7, by decide, tb_mem 909 (by decide +kernel) (by decide +kernel), by decide +kernel, rfl, rfl, fun _ => rfl⟩
theorem fr_X8_49 : FR RX8 49 7 23 true true (.array .int) := ⟨RX8, TX8, 34, tyX8, cf_7, by decide, tb_mem 910 (by decide +kernel) (by decide +kernel), by decide +kernel, rfl, rfl, fun _ => rfl⟩
theorem fr_X8_52 : FR RX8 52 7 24 true true (.array .int) := ⟨RX8, TX8, 34, tyX8, cf_7, by decide, tb_mem 911 (by decide +kernel) (by decide +kernel), by decide +kernel, rfl, rfl, fun _ => rfl⟩
theorem fr_X8_55 : FR RX8 55 7 25 true true (.array .int) := ⟨RX8, TX8, 34, tyX8, cf_7, by decide, tb_mem 912 (by decide +kernel) (by decide +kernel), by decide +kernel, rfl, rfl, fun _ => rfl⟩
theorem fr_X8_58 : FR RX8 58 7 26 true true (.array .int) := ⟨RX8, TX8, 34, tyX8, cf_7, by decide, tb_mem 913 (by decide +kernel) (by decide +kernel), by decide +kernel, rfl, rfl, fun _ => rfl⟩
theorem fr_X8_61 : FR RX8 61 7 27 true true (.array .int) := ⟨RX8, TX8, 34, tyX8, cf_7, by decide, tb_mem 914 (by decide +kernel) (by decide +kernel), by decide +kernel, rfl, rfl, fun _ => rfl⟩
theorem fr_X8_64 : FR RX8 64 7 28 true true (.array .int) := ⟨RX8, TX8, 34, tyX8, cf_7, by decide, tb_mem 915 (by decide +kernel) (by decide +kernel), by decide +kernel, rfl, rfl, fun _ => rfl⟩
theorem fr_X8_67 : FR RX8 67 7 29 true true (.array .int) := ⟨RX8, TX8, 34, tyX8, cf_7, by decide, tb_mem 916 (by decide +kernel) (by decide +kernel), by decide +kernel, rfl, rfl, fun _ => rfl⟩
theorem fr_X8_70 : FR RX8 70 7 30 true true (.array .int) := ⟨RX8, TX8, 34, tyX8, cf_7, by decide, tb_mem 917 (by decide +kernel) (by decide +kernel), by decide +kernel, rfl, rfl, fun _ => rfl⟩
theorem fr_X8_73 : FR RX8 73 7 31 true true (.array .int) := ⟨RX8, TX8, 34, tyX8, cf_7, by decide, tb_mem 918 (by decide +kernel) (by decide +kernel), by decide +kernel, rfl, rfl, fun _ => rfl⟩
theorem fr_X8_76 : FR RX8 76 7 32 true true (.array .int) := ⟨RX8, TX8, 34, tyX8, cf_7, by decide, tb_mem 919 (by decide +kernel) (by decide +kernel), by decide +kernel, rfl, rfl, fun _ => rfl⟩
theorem fr_X8_200 : FR RX8 200 7 7 false false (.int) := ⟨RX8, TX8, 34, tyX8, cf_7, by decide, tb_mem 894 (by decide +kernel) (by decide +kernel), by decide +kernel, rfl, rfl, fun h => nomatch h⟩
theorem fr_X8_203 : FR RX8 203 7 8 false false (.int) := ⟨RX8, TX8, 34, tyX8, cf_7, by decide, tb_mem 895 (by decide +kernel) (by decide +kernel), by decide +kernel, rfl, rfl, fun h => nomatch h⟩
theorem fr_X8_206 : FR RX8 206 7 9 false false (.int) := ⟨RX8, TX8, 34, tyX8, cf_7, by decide, tb_mem 896 (by decide +kernel) (by decide +kernel), by decide +kernel, rfl, rfl, fun h => nomatch h⟩
theorem fr_X8_209 : FR RX8 209 7 12 false false (.int) := ⟨RX8, TX8, 34, tyX8, cf_7, by decide, tb_mem 899 (by decide +kernel) (by decide +kernel), by decide +kernel, rfl, rfl, fun h => nomatch h⟩
theorem fr_X8_212 : FR RX8 212 7 10 false false (.int) := ⟨RX8, TX8, 34, tyX8, cf_7, by decide, tb_mem 897 (by decide +kernel) (by decide +kernel), by decide +kernel, rfl, rfl, fun h => nomatch h⟩
theorem fr_X8_218 : FR RX8 218 7 11 false false (.int) := ⟨RX8, TX8, 34, tyX8, cf_7, by decide, tb_mem 898 (by decide +kernel) (by decide +kernel), by decide +kernel, rfl, rfl, fun h => nomatch h⟩
theorem fr_X8_224 : FR RX8 224 7 13 false false (.int) := ⟨RX8, TX8, 34, tyX8, cf_7, by decide, tb_mem 900 (by decide +kernel) (by decide +kernel), by decide +kernel, rfl, rfl, fun h => nomatch h⟩
theorem fr_X8_230 : FR RX8 230 7 20 false false (.int) := ⟨RX8, TX8, 34, tyX8, cf_7, by decide, tb_mem 907 (by decide +kernel) (by decide +kernel), by decide +kernel, rfl, rfl, fun h => nomatch h⟩
theorem fr_X8_236 : FR RX8 236 7 17 false false (.int) := ⟨RX8, TX8, 34, tyX8, cf_7, by decide, tb_mem 904 (by decide +kernel) (by decide +kernel), by decide +kernel, rfl, rfl, fun h => nomatch h⟩
theorem fr_X8_242 : FR RX8 242 7 18 false false (.int) := ⟨RX8, TX8, 34, tyX8, cf_7, by decide, tb_mem 905 (by decide +kernel) (by decide +kernel), by decide +kernel, rfl, rfl, fun h => nomatch h⟩
theorem fr_X8_276 : FR RX8 276 7 33 false false (.int) := ⟨RX8, TX8, 34, tyX8, cf_7, by decide, tb_mem 920 (by decide +kernel) (by decide +kernel), by decide +kernel, rfl, rfl, fun h => nomatch h⟩
theorem fr_X8_279 : FR RX8 279 7 3 false false (.boolean) := ⟨RX8, TX8, 34, tyX8, cf_7, by decide, tb_mem 890 (by decide +kernel) (by decide +kernel), by decide +kernel, rfl, rfl, fun h => nomatch h⟩
/-- a virtual method as the tables have it -/
def MV (y : MethodName) (cc : ByteArray) (nL : Nat) (rt : Option FieldType) (n : Nat) : Prop := Cond.instanceMethod y ∈ tb ∧ Cond.selects y.cls y y ∈ tb ∧ Cond.initialized y.cls ∈ tb ∧ Cond.code y cc nL rt ∈ tb ∧ y.cls ≠ "java/lang/invoke/MethodHandle" ∧ y.cls ≠ "java/lang/invoke/VarHandle" ∧ (parseMethodDescriptor y.desc).map (fun d => d.parameters.length) = some n ∧ nL ≤ 40
def MS (y : MethodName) (cc : ByteArray) (nL : Nat) (rt : Option FieldType) (n : Nat) : Prop := Cond.static y ∈ tb ∧ Cond.initialized y.cls ∈ tb ∧ Cond.code y cc nL rt ∈ tb ∧ y.cls ≠ "java/lang/invoke/MethodHandle" ∧ y.cls ≠ "java/lang/invoke/VarHandle" ∧ (parseMethodDescriptor y.desc).map (fun d => d.parameters.length) = some n ∧ nL ≤ 40
def MI (y : MethodName) (cc : ByteArray) (nL : Nat) (n : Nat) : Prop := Cond.instanceMethod y ∈ tb ∧ y.name = "<init>" ∧ Cond.initialized y.cls ∈ tb ∧ Cond.code y cc nL none ∈ tb ∧ y.cls ≠ "java/lang/invoke/MethodHandle" ∧ y.cls ≠ "java/lang/invoke/VarHandle" ∧ (parseMethodDescriptor y.desc).map (fun d => d.parameters.length) = some n ∧ nL ≤ 40
theorem m_X0_init : MI yX0_init cX0_init 2 1 := ⟨tb_mem 150 (by decide +kernel) (by decide +kernel), rfl, tb_mem 57 (by decide +kernel) (by decide +kernel), tb_mem 151 (by decide +kernel) (by decide +kernel), by decide +kernel, by decide +kernel, by decide +kernel, by decide⟩
theorem m_X0_become : MV yX0_become cX0_become 2 none 1 := ⟨tb_mem 516 (by decide +kernel) (by decide +kernel), tb_mem 517 (by decide +kernel) (by decide +kernel), tb_mem 57 (by decide +kernel) (by decide +kernel), tb_mem 518 (by decide +kernel) (by decide +kernel), by decide +kernel, by decide +kernel, by decide +kernel, by decide⟩
theorem m_X0_has : MV yX0_has cX0_has 2 (some (FieldType.boolean)) 1 := ⟨tb_mem 315 (by decide +kernel) (by decide +kernel), tb_mem 316 (by decide +kernel) (by decide +kernel), tb_mem 57 (by decide +kernel) (by decide +kernel), tb_mem 317 (by decide +kernel) (by decide +kernel), by decide +kernel, by decide +kernel, by decide +kernel, by decide⟩
theorem m_X0_add : MV yX0_add cX0_add 5 none 4 := ⟨tb_mem 307 (by decide +kernel) (by decide +kernel), tb_mem 308 (by decide +kernel) (by decide +kernel), tb_mem 57 (by decide +kernel) (by decide +kernel), tb_mem 309 (by decide +kernel) (by decide +kernel), by decide +kernel, by decide +kernel, by decide +kernel, by decide⟩
theorem m_X0_addByLot : MV yX0_addByLot cX0_addByLot 5 none 0 := ⟨tb_mem 448 (by decide +kernel) (by decide +kernel), tb_mem 449 (by decide +kernel) (by decide +kernel), tb_mem 57 (by decide +kernel) (by decide +kernel), tb_mem 450 (by decide +kernel) (by decide +kernel), by decide +kernel, by decide +kernel, by decide +kernel, by decide⟩
theorem m_X0_draw : MV yX0_draw cX0_draw 1 (some (FieldType.int)) 0 := ⟨tb_mem 453 (by decide +kernel) (by decide +kernel), tb_mem 1 (by decide +kernel) (by decide +kernel), tb_mem 57 (by decide +kernel) (by decide +kernel), tb_mem 454 (by decide +kernel) (by decide +kernel), by decide +kernel, by decide +kernel, by decide +kernel, by decide⟩
theorem m_X0_comesOut : MV yX0_comesOut cX0_comesOut 6 (some (FieldType.int)) 2 := ⟨tb_mem 466 (by decide +kernel) (by decide +kernel), tb_mem 467 (by decide +kernel) (by decide +kernel), tb_mem 57 (by decide +kernel) (by decide +kernel), tb_mem 468 (by decide +kernel) (by decide +kernel), by decide +kernel, by decide +kernel, by decide +kernel, by decide⟩
theorem m_X0_partner : MV yX0_partner cX0_partner 2 (some (FieldType.int)) 1 := ⟨tb_mem 376 (by decide +kernel) (by decide +kernel), tb_mem 377 (by decide +kernel) (by decide +kernel), tb_mem 57 (by decide +kernel) (by decide +kernel), tb_mem 378 (by decide +kernel) (by decide +kernel), by decide +kernel, by decide +kernel, by decide +kernel, by decide⟩
theorem m_X0_swaying : MV yX0_swaying cX0_swaying 3 (some (FieldType.int)) 0 := ⟨tb_mem 402 (by decide +kernel) (by decide +kernel), tb_mem 403 (by decide +kernel) (by decide +kernel), tb_mem 57 (by decide +kernel) (by decide +kernel), tb_mem 404 (by decide +kernel) (by decide +kernel), by decide +kernel, by decide +kernel, by decide +kernel, by decide⟩
theorem m_X0_pass : MV yX0_pass cX0_pass 5 (some (FieldType.int)) 2 := ⟨tb_mem 474 (by decide +kernel) (by decide +kernel), tb_mem 475 (by decide +kernel) (by decide +kernel), tb_mem 57 (by decide +kernel) (by decide +kernel), tb_mem 476 (by decide +kernel) (by decide +kernel), by decide +kernel, by decide +kernel, by decide +kernel, by decide⟩
theorem m_X0_anHour : MV yX0_anHour cX0_anHour 5 (some (FieldType.int)) 1 := ⟨tb_mem 478 (by decide +kernel) (by decide +kernel), tb_mem 479 (by decide +kernel) (by decide +kernel), tb_mem 57 (by decide +kernel) (by decide +kernel), tb_mem 480 (by decide +kernel) (by decide +kernel), by decide +kernel, by decide +kernel, by decide +kernel, by decide⟩
theorem m_X0_palms : MV yX0_palms cX0_palms 8 (some (FieldType.int)) 3 := ⟨tb_mem 484 (by decide +kernel) (by decide +kernel), tb_mem 2 (by decide +kernel) (by decide +kernel), tb_mem 57 (by decide +kernel) (by decide +kernel), tb_mem 485 (by decide +kernel) (by decide +kernel), by decide +kernel, by decide +kernel, by decide +kernel, by decide⟩
theorem m_X0_believes : MV yX0_believes cX0_believes 2 (some (FieldType.int)) 1 := ⟨tb_mem 319 (by decide +kernel) (by decide +kernel), tb_mem 320 (by decide +kernel) (by decide +kernel), tb_mem 57 (by decide +kernel) (by decide +kernel), tb_mem 321 (by decide +kernel) (by decide +kernel), by decide +kernel, by decide +kernel, by decide +kernel, by decide⟩
theorem m_X0_trusts : MV yX0_trusts cX0_trusts 5 (some (FieldType.int)) 1 := ⟨tb_mem 324 (by decide +kernel) (by decide +kernel), tb_mem 0 (by decide +kernel) (by decide +kernel), tb_mem 57 (by decide +kernel) (by decide +kernel), tb_mem 325 (by decide +kernel) (by decide +kernel), by decide +kernel, by decide +kernel, by decide +kernel, by decide⟩
theorem m_X0_verdict : MV yX0_verdict cX0_verdict 2 (some (FieldType.int)) 1 := ⟨tb_mem 371 (by decide +kernel) (by decide +kernel), tb_mem 372 (by decide +kernel) (by decide +kernel), tb_mem 57 (by decide +kernel) (by decide +kernel), tb_mem 373 (by decide +kernel) (by decide +kernel), by decide +kernel, by decide +kernel, by decide +kernel, by decide⟩
theorem m_X0_votes : MV yX0_votes cX0_votes 3 (some (FieldType.int)) 0 := ⟨tb_mem 496 (by decide +kernel) (by decide +kernel), tb_mem 497 (by decide +kernel) (by decide +kernel), tb_mem 57 (by decide +kernel) (by decide +kernel), tb_mem 498 (by decide +kernel) (by decide +kernel), by decide +kernel, by decide +kernel, by decide +kernel, by decide⟩
theorem m_X0_common : MV yX0_common cX0_common 3 (some (FieldType.int)) 0 := ⟨tb_mem 492 (by decide +kernel) (by decide +kernel), tb_mem 493 (by decide +kernel) (by decide +kernel), tb_mem 57 (by decide +kernel) (by decide +kernel), tb_mem 494 (by decide +kernel) (by decide +kernel), by decide +kernel, by decide +kernel, by decide +kernel, by decide⟩
theorem m_X0_any : MV yX0_any cX0_any 3 (some (FieldType.int)) 0 := ⟨tb_mem 504 (by decide +kernel) (by decide +kernel), tb_mem 505 (by decide +kernel) (by decide +kernel), tb_mem 57 (by decide +kernel) (by decide +kernel), tb_mem 506 (by decide +kernel) (by decide +kernel), by decide +kernel, by decide +kernel, by decide +kernel, by decide⟩
theorem m_X0_known : MV yX0_known cX0_known 3 (some (FieldType.int)) 0 := ⟨tb_mem 500 (by decide +kernel) (by decide +kernel), tb_mem 501 (by decide +kernel) (by decide +kernel), tb_mem 57 (by decide +kernel) (by decide +kernel), tb_mem 502 (by decide +kernel) (by decide +kernel), by decide +kernel, by decide +kernel, by decide +kernel, by decide⟩
theorem m_X1_above : MS yX1_above cX1_above 1 (some (FieldType.int)) 1 := ⟨tb_mem 418 (by decide +kernel) (by decide +kernel), tb_mem 63 (by decide +kernel) (by decide +kernel), tb_mem 419 (by decide +kernel) (by decide +kernel), by decide +kernel, by decide +kernel, by decide +kernel, by decide⟩
theorem m_X1_isOf : MS yX1_isOf cX1_isOf 2 (some (FieldType.boolean)) 2 := ⟨tb_mem 415 (by decide +kernel) (by decide +kernel), tb_mem 63 (by decide +kernel) (by decide +kernel), tb_mem 416 (by decide +kernel) (by decide +kernel), by decide +kernel, by decide +kernel, by decide +kernel, by decide⟩
theorem m_X1_worth : MS yX1_worth cX1_worth 2 (some (FieldType.int)) 2 := ⟨tb_mem 383 (by decide +kernel) (by decide +kernel), tb_mem 63 (by decide +kernel) (by decide +kernel), tb_mem 384 (by decide +kernel) (by decide +kernel), by decide +kernel, by decide +kernel, by decide +kernel, by decide⟩
theorem m_X1_doubtingWorth : MS yX1_doubtingWorth cX1_doubtingWorth 1 (some (FieldType.int)) 1 := ⟨tb_mem 386 (by decide +kernel) (by decide +kernel), tb_mem 63 (by decide +kernel) (by decide +kernel), tb_mem 387 (by decide +kernel) (by decide +kernel), by decide +kernel, by decide +kernel, by decide +kernel, by decide⟩
theorem m_X1_swayedWorth : MS yX1_swayedWorth cX1_swayedWorth 1 (some (FieldType.int)) 1 := ⟨tb_mem 389 (by decide +kernel) (by decide +kernel), tb_mem 63 (by decide +kernel) (by decide +kernel), tb_mem 390 (by decide +kernel) (by decide +kernel), by decide +kernel, by decide +kernel, by decide +kernel, by decide⟩
theorem m_X1_belief : MS yX1_belief cX1_belief 3 (some (FieldType.int)) 3 := ⟨tb_mem 360 (by decide +kernel) (by decide +kernel), tb_mem 63 (by decide +kernel) (by decide +kernel), tb_mem 361 (by decide +kernel) (by decide +kernel), by decide +kernel, by decide +kernel, by decide +kernel, by decide⟩
theorem m_X1_doubtingBelief : MS yX1_doubtingBelief cX1_doubtingBelief 2 (some (FieldType.int)) 2 := ⟨tb_mem 363 (by decide +kernel) (by decide +kernel), tb_mem 63 (by decide +kernel) (by decide +kernel), tb_mem 364 (by decide +kernel) (by decide +kernel), by decide +kernel, by decide +kernel, by decide +kernel, by decide⟩
theorem m_X1_swayedBelief : MS yX1_swayedBelief cX1_swayedBelief 2 (some (FieldType.int)) 1 := ⟨tb_mem 367 (by decide +kernel) (by decide +kernel), tb_mem 63 (by decide +kernel) (by decide +kernel), tb_mem 368 (by decide +kernel) (by decide +kernel), by decide +kernel, by decide +kernel, by decide +kernel, by decide⟩
theorem m_X1_passes : MS yX1_passes cX1_passes 4 (some (FieldType.int)) 3 := ⟨tb_mem 396 (by decide +kernel) (by decide +kernel), tb_mem 63 (by decide +kernel) (by decide +kernel), tb_mem 397 (by decide +kernel) (by decide +kernel), by decide +kernel, by decide +kernel, by decide +kernel, by decide⟩
theorem m_X1_least : MS yX1_least cX1_least 1 (some (FieldType.int)) 1 := ⟨tb_mem 406 (by decide +kernel) (by decide +kernel), tb_mem 63 (by decide +kernel) (by decide +kernel), tb_mem 407 (by decide +kernel) (by decide +kernel), by decide +kernel, by decide +kernel, by decide +kernel, by decide⟩
theorem m_X1_greatest : MS yX1_greatest cX1_greatest 2 (some (FieldType.int)) 1 := ⟨tb_mem 399 (by decide +kernel) (by decide +kernel), tb_mem 63 (by decide +kernel) (by decide +kernel), tb_mem 400 (by decide +kernel) (by decide +kernel), by decide +kernel, by decide +kernel, by decide +kernel, by decide⟩
theorem m_X2_init : MI yX2_init cX2_init 1 0 := ⟨tb_mem 88 (by decide +kernel) (by decide +kernel), rfl, tb_mem 55 (by decide +kernel) (by decide +kernel), tb_mem 89 (by decide +kernel) (by decide +kernel), by decide +kernel, by decide +kernel, by decide +kernel, by decide⟩
theorem m_X2_begin : MV yX2_begin cX2_begin 2 none 1 := ⟨tb_mem 670 (by decide +kernel) (by decide +kernel), tb_mem 671 (by decide +kernel) (by decide +kernel), tb_mem 55 (by decide +kernel) (by decide +kernel), tb_mem 672 (by decide +kernel) (by decide +kernel), by decide +kernel, by decide +kernel, by decide +kernel, by decide⟩
theorem m_X2_become : MV yX2_become cX2_become 2 none 1 := ⟨tb_mem 783 (by decide +kernel) (by decide +kernel), tb_mem 784 (by decide +kernel) (by decide +kernel), tb_mem 55 (by decide +kernel) (by decide +kernel), tb_mem 785 (by decide +kernel) (by decide +kernel), by decide +kernel, by decide +kernel, by decide +kernel, by decide⟩
theorem m_X2_addNumber : MV yX2_addNumber cX2_addNumber 2 none 1 := ⟨tb_mem 686 (by decide +kernel) (by decide +kernel), tb_mem 687 (by decide +kernel) (by decide +kernel), tb_mem 55 (by decide +kernel) (by decide +kernel), tb_mem 688 (by decide +kernel) (by decide +kernel), by decide +kernel, by decide +kernel, by decide +kernel, by decide⟩
theorem m_X2_addName : MV yX2_addName cX2_addName 2 none 1 := ⟨tb_mem 759 (by decide +kernel) (by decide +kernel), tb_mem 760 (by decide +kernel) (by decide +kernel), tb_mem 55 (by decide +kernel) (by decide +kernel), tb_mem 761 (by decide +kernel) (by decide +kernel), by decide +kernel, by decide +kernel, by decide +kernel, by decide⟩
theorem m_X2_addSign : MV yX2_addSign cX2_addSign 2 none 1 := ⟨tb_mem 768 (by decide +kernel) (by decide +kernel), tb_mem 769 (by decide +kernel) (by decide +kernel), tb_mem 55 (by decide +kernel) (by decide +kernel), tb_mem 770 (by decide +kernel) (by decide +kernel), by decide +kernel, by decide +kernel, by decide +kernel, by decide⟩
theorem m_X2_add : MV yX2_add cX2_add 2 none 1 := ⟨tb_mem 691 (by decide +kernel) (by decide +kernel), tb_mem 11 (by decide +kernel) (by decide +kernel), tb_mem 55 (by decide +kernel) (by decide +kernel), tb_mem 692 (by decide +kernel) (by decide +kernel), by decide +kernel, by decide +kernel, by decide +kernel, by decide⟩
theorem m_X2_work : MV yX2_work cX2_work 8 (some (FieldType.int)) 4 := ⟨tb_mem 341 (by decide +kernel) (by decide +kernel), tb_mem 342 (by decide +kernel) (by decide +kernel), tb_mem 55 (by decide +kernel) (by decide +kernel), tb_mem 343 (by decide +kernel) (by decide +kernel), by decide +kernel, by decide +kernel, by decide +kernel, by decide⟩
theorem m_X2_named : MS yX2_named cX2_named 4 (some (FieldType.int)) 4 := ⟨tb_mem 345 (by decide +kernel) (by decide +kernel), tb_mem 55 (by decide +kernel) (by decide +kernel), tb_mem 346 (by decide +kernel) (by decide +kernel), by decide +kernel, by decide +kernel, by decide +kernel, by decide⟩
theorem m_X2_joined : MS yX2_joined cX2_joined 3 (some (FieldType.int)) 3 := ⟨tb_mem 348 (by decide +kernel) (by decide +kernel), tb_mem 55 (by decide +kernel) (by decide +kernel), tb_mem 349 (by decide +kernel) (by decide +kernel), by decide +kernel, by decide +kernel, by decide +kernel, by decide⟩
theorem m_X3_init : MI yX3_init cX3_init 2 0 := ⟨tb_mem 81 (by decide +kernel) (by decide +kernel), rfl, tb_mem 54 (by decide +kernel) (by decide +kernel), tb_mem 82 (by decide +kernel) (by decide +kernel), by decide +kernel, by decide +kernel, by decide +kernel, by decide⟩
theorem m_X3_at : MV yX3_at cX3_at 2 (some ((FieldType.object "PalmJury$Law"))) 1 := ⟨tb_mem 337 (by decide +kernel) (by decide +kernel), tb_mem 338 (by decide +kernel) (by decide +kernel), tb_mem 54 (by decide +kernel) (by decide +kernel), tb_mem 339 (by decide +kernel) (by decide +kernel), by decide +kernel, by decide +kernel, by decide +kernel, by decide⟩
theorem m_X3_gives : MV yX3_gives cX3_gives 5 (some (FieldType.int)) 4 := ⟨tb_mem 333 (by decide +kernel) (by decide +kernel), tb_mem 334 (by decide +kernel) (by decide +kernel), tb_mem 54 (by decide +kernel) (by decide +kernel), tb_mem 335 (by decide +kernel) (by decide +kernel), by decide +kernel, by decide +kernel, by decide +kernel, by decide⟩
theorem m_X4_init : MI yX4_init cX4_init 1 0 := ⟨tb_mem 223 (by decide +kernel) (by decide +kernel), rfl, tb_mem 58 (by decide +kernel) (by decide +kernel), tb_mem 224 (by decide +kernel) (by decide +kernel), by decide +kernel, by decide +kernel, by decide +kernel, by decide⟩
theorem m_X4_begin : MV yX4_begin cX4_begin 4 none 2 := ⟨tb_mem 803 (by decide +kernel) (by decide +kernel), tb_mem 804 (by decide +kernel) (by decide +kernel), tb_mem 58 (by decide +kernel) (by decide +kernel), tb_mem 805 (by decide +kernel) (by decide +kernel), by decide +kernel, by decide +kernel, by decide +kernel, by decide⟩
theorem m_X4_become : MV yX4_become cX4_become 2 none 1 := ⟨tb_mem 840 (by decide +kernel) (by decide +kernel), tb_mem 841 (by decide +kernel) (by decide +kernel), tb_mem 58 (by decide +kernel) (by decide +kernel), tb_mem 842 (by decide +kernel) (by decide +kernel), by decide +kernel, by decide +kernel, by decide +kernel, by decide⟩
theorem m_X4_has : MV yX4_has cX4_has 2 (some (FieldType.boolean)) 1 := ⟨tb_mem 560 (by decide +kernel) (by decide +kernel), tb_mem 561 (by decide +kernel) (by decide +kernel), tb_mem 58 (by decide +kernel) (by decide +kernel), tb_mem 562 (by decide +kernel) (by decide +kernel), by decide +kernel, by decide +kernel, by decide +kernel, by decide⟩
theorem m_X4_hasNumber : MV yX4_hasNumber cX4_hasNumber 2 (some (FieldType.boolean)) 1 := ⟨tb_mem 556 (by decide +kernel) (by decide +kernel), tb_mem 557 (by decide +kernel) (by decide +kernel), tb_mem 58 (by decide +kernel) (by decide +kernel), tb_mem 558 (by decide +kernel) (by decide +kernel), by decide +kernel, by decide +kernel, by decide +kernel, by decide⟩
theorem m_X4_hasStretch : MV yX4_hasStretch cX4_hasStretch 3 (some (FieldType.boolean)) 2 := ⟨tb_mem 828 (by decide +kernel) (by decide +kernel), tb_mem 829 (by decide +kernel) (by decide +kernel), tb_mem 58 (by decide +kernel) (by decide +kernel), tb_mem 830 (by decide +kernel) (by decide +kernel), by decide +kernel, by decide +kernel, by decide +kernel, by decide⟩
theorem m_X5_init : MI yX5_init cX5_init 1 0 := ⟨tb_mem 243 (by decide +kernel) (by decide +kernel), rfl, tb_mem 59 (by decide +kernel) (by decide +kernel), tb_mem 244 (by decide +kernel) (by decide +kernel), by decide +kernel, by decide +kernel, by decide +kernel, by decide⟩
theorem m_X6_init : MI yX6_init cX6_init 1 0 := ⟨tb_mem 118 (by decide +kernel) (by decide +kernel), rfl, tb_mem 56 (by decide +kernel) (by decide +kernel), tb_mem 119 (by decide +kernel) (by decide +kernel), by decide +kernel, by decide +kernel, by decide +kernel, by decide⟩
theorem m_X6_takes : MV yX6_takes cX6_takes 3 none 1 := ⟨tb_mem 581 (by decide +kernel) (by decide +kernel), tb_mem 582 (by decide +kernel) (by decide +kernel), tb_mem 56 (by decide +kernel) (by decide +kernel), tb_mem 583 (by decide +kernel) (by decide +kernel), by decide +kernel, by decide +kernel, by decide +kernel, by decide⟩
theorem m_X6_faultOfText : MV yX6_faultOfText cX6_faultOfText 2 (some (FieldType.int)) 0 := ⟨tb_mem 593 (by decide +kernel) (by decide +kernel), tb_mem 594 (by decide +kernel) (by decide +kernel), tb_mem 56 (by decide +kernel) (by decide +kernel), tb_mem 595 (by decide +kernel) (by decide +kernel), by decide +kernel, by decide +kernel, by decide +kernel, by decide⟩
theorem m_X6_byteAt : MV yX6_byteAt cX6_byteAt 2 (some (FieldType.int)) 1 := ⟨tb_mem 602 (by decide +kernel) (by decide +kernel), tb_mem 5 (by decide +kernel) (by decide +kernel), tb_mem 56 (by decide +kernel) (by decide +kernel), tb_mem 603 (by decide +kernel) (by decide +kernel), by decide +kernel, by decide +kernel, by decide +kernel, by decide⟩
theorem m_X6_sortOf : MS yX6_sortOf cX6_sortOf 1 (some (FieldType.int)) 1 := ⟨tb_mem 605 (by decide +kernel) (by decide +kernel), tb_mem 56 (by decide +kernel) (by decide +kernel), tb_mem 606 (by decide +kernel) (by decide +kernel), by decide +kernel, by decide +kernel, by decide +kernel, by decide⟩
theorem m_X6_step : MV yX6_step cX6_step 3 none 0 := ⟨tb_mem 598 (by decide +kernel) (by decide +kernel), tb_mem 4 (by decide +kernel) (by decide +kernel), tb_mem 56 (by decide +kernel) (by decide +kernel), tb_mem 599 (by decide +kernel) (by decide +kernel), by decide +kernel, by decide +kernel, by decide +kernel, by decide⟩
theorem m_X6_keyAtHand : MV yX6_keyAtHand cX6_keyAtHand 2 (some (FieldType.int)) 0 := ⟨tb_mem 609 (by decide +kernel) (by decide +kernel), tb_mem 6 (by decide +kernel) (by decide +kernel), tb_mem 56 (by decide +kernel) (by decide +kernel), tb_mem 610 (by decide +kernel) (by decide +kernel), by decide +kernel, by decide +kernel, by decide +kernel, by decide⟩
theorem m_X6_isWord : MV yX6_isWord cX6_isWord 3 (some (FieldType.boolean)) 1 := ⟨tb_mem 619 (by decide +kernel) (by decide +kernel), tb_mem 7 (by decide +kernel) (by decide +kernel), tb_mem 56 (by decide +kernel) (by decide +kernel), tb_mem 620 (by decide +kernel) (by decide +kernel), by decide +kernel, by decide +kernel, by decide +kernel, by decide⟩
theorem m_X6_wordOf : MS yX6_wordOf cX6_wordOf 1 (some ((FieldType.object "java/lang/String"))) 1 := ⟨tb_mem 612 (by decide +kernel) (by decide +kernel), tb_mem 56 (by decide +kernel) (by decide +kernel), tb_mem 613 (by decide +kernel) (by decide +kernel), by decide +kernel, by decide +kernel, by decide +kernel, by decide⟩
theorem m_X6_namesOf : MS yX6_namesOf cX6_namesOf 1 (some ((FieldType.object "java/lang/String"))) 1 := ⟨tb_mem 698 (by decide +kernel) (by decide +kernel), tb_mem 56 (by decide +kernel) (by decide +kernel), tb_mem 699 (by decide +kernel) (by decide +kernel), by decide +kernel, by decide +kernel, by decide +kernel, by decide⟩
theorem m_X6_signsOf : MS yX6_signsOf cX6_signsOf 1 (some ((FieldType.object "java/lang/String"))) 1 := ⟨tb_mem 774 (by decide +kernel) (by decide +kernel), tb_mem 56 (by decide +kernel) (by decide +kernel), tb_mem 775 (by decide +kernel) (by decide +kernel), by decide +kernel, by decide +kernel, by decide +kernel, by decide⟩
theorem m_X6_isSignOf : MV yX6_isSignOf cX6_isSignOf 2 (some (FieldType.boolean)) 1 := ⟨tb_mem 765 (by decide +kernel) (by decide +kernel), tb_mem 13 (by decide +kernel) (by decide +kernel), tb_mem 56 (by decide +kernel) (by decide +kernel), tb_mem 766 (by decide +kernel) (by decide +kernel), by decide +kernel, by decide +kernel, by decide +kernel, by decide⟩
theorem m_X6_level : MV yX6_level cX6_level 6 (some (FieldType.boolean)) 3 := ⟨tb_mem 675 (by decide +kernel) (by decide +kernel), tb_mem 8 (by decide +kernel) (by decide +kernel), tb_mem 56 (by decide +kernel) (by decide +kernel), tb_mem 676 (by decide +kernel) (by decide +kernel), by decide +kernel, by decide +kernel, by decide +kernel, by decide⟩
theorem m_X6_piece : MV yX6_piece cX6_piece 3 (some (FieldType.boolean)) 2 := ⟨tb_mem 679 (by decide +kernel) (by decide +kernel), tb_mem 9 (by decide +kernel) (by decide +kernel), tb_mem 56 (by decide +kernel) (by decide +kernel), tb_mem 680 (by decide +kernel) (by decide +kernel), by decide +kernel, by decide +kernel, by decide +kernel, by decide⟩
theorem m_X6_number : MV yX6_number cX6_number 3 (some (FieldType.boolean)) 0 := ⟨tb_mem 683 (by decide +kernel) (by decide +kernel), tb_mem 10 (by decide +kernel) (by decide +kernel), tb_mem 56 (by decide +kernel) (by decide +kernel), tb_mem 684 (by decide +kernel) (by decide +kernel), by decide +kernel, by decide +kernel, by decide +kernel, by decide⟩
theorem m_X6_name : MV yX6_name cX6_name 2 (some (FieldType.boolean)) 0 := ⟨tb_mem 695 (by decide +kernel) (by decide +kernel), tb_mem 12 (by decide +kernel) (by decide +kernel), tb_mem 56 (by decide +kernel) (by decide +kernel), tb_mem 696 (by decide +kernel) (by decide +kernel), by decide +kernel, by decide +kernel, by decide +kernel, by decide⟩
theorem m_X7_init : MI yX7_init cX7_init 2 0 := ⟨tb_mem 73 (by decide +kernel) (by decide +kernel), rfl, tb_mem 53 (by decide +kernel) (by decide +kernel), tb_mem 74 (by decide +kernel) (by decide +kernel), by decide +kernel, by decide +kernel, by decide +kernel, by decide⟩
theorem m_X7_juror : MV yX7_juror cX7_juror 4 (some (FieldType.int)) 3 := ⟨tb_mem 298 (by decide +kernel) (by decide +kernel), tb_mem 299 (by decide +kernel) (by decide +kernel), tb_mem 53 (by decide +kernel) (by decide +kernel), tb_mem 300 (by decide +kernel) (by decide +kernel), by decide +kernel, by decide +kernel, by decide +kernel, by decide⟩
theorem m_X7_told : MV yX7_told cX7_told 3 (some (FieldType.int)) 2 := ⟨tb_mem 311 (by decide +kernel) (by decide +kernel), tb_mem 312 (by decide +kernel) (by decide +kernel), tb_mem 53 (by decide +kernel) (by decide +kernel), tb_mem 313 (by decide +kernel) (by decide +kernel), by decide +kernel, by decide +kernel, by decide +kernel, by decide⟩
theorem m_X7_tells : MV yX7_tells cX7_tells 4 (some (FieldType.int)) 2 := ⟨tb_mem 392 (by decide +kernel) (by decide +kernel), tb_mem 393 (by decide +kernel) (by decide +kernel), tb_mem 53 (by decide +kernel) (by decide +kernel), tb_mem 394 (by decide +kernel) (by decide +kernel), by decide +kernel, by decide +kernel, by decide +kernel, by decide⟩
theorem m_X7_as : MV yX7_as cX7_as 3 (some (FieldType.int)) 2 := ⟨tb_mem 411 (by decide +kernel) (by decide +kernel), tb_mem 412 (by decide +kernel) (by decide +kernel), tb_mem 53 (by decide +kernel) (by decide +kernel), tb_mem 413 (by decide +kernel) (by decide +kernel), by decide +kernel, by decide +kernel, by decide +kernel, by decide⟩
theorem m_X7_turns : MV yX7_turns cX7_turns 3 (some (FieldType.int)) 2 := ⟨tb_mem 422 (by decide +kernel) (by decide +kernel), tb_mem 423 (by decide +kernel) (by decide +kernel), tb_mem 53 (by decide +kernel) (by decide +kernel), tb_mem 424 (by decide +kernel) (by decide +kernel), by decide +kernel, by decide +kernel, by decide +kernel, by decide⟩
theorem m_X7_set : MV yX7_set cX7_set 4 (some (FieldType.int)) 3 := ⟨tb_mem 429 (by decide +kernel) (by decide +kernel), tb_mem 430 (by decide +kernel) (by decide +kernel), tb_mem 53 (by decide +kernel) (by decide +kernel), tb_mem 431 (by decide +kernel) (by decide +kernel), by decide +kernel, by decide +kernel, by decide +kernel, by decide⟩
theorem m_X7_weigh : MV yX7_weigh cX7_weigh 3 (some (FieldType.int)) 2 := ⟨tb_mem 433 (by decide +kernel) (by decide +kernel), tb_mem 434 (by decide +kernel) (by decide +kernel), tb_mem 53 (by decide +kernel) (by decide +kernel), tb_mem 435 (by decide +kernel) (by decide +kernel), by decide +kernel, by decide +kernel, by decide +kernel, by decide⟩
theorem m_X7_rule : MV yX7_rule cX7_rule 4 (some (FieldType.int)) 2 := ⟨tb_mem 440 (by decide +kernel) (by decide +kernel), tb_mem 441 (by decide +kernel) (by decide +kernel), tb_mem 53 (by decide +kernel) (by decide +kernel), tb_mem 442 (by decide +kernel) (by decide +kernel), by decide +kernel, by decide +kernel, by decide +kernel, by decide⟩
theorem m_X7_deal : MV yX7_deal cX7_deal 4 (some (FieldType.int)) 1 := ⟨tb_mem 444 (by decide +kernel) (by decide +kernel), tb_mem 445 (by decide +kernel) (by decide +kernel), tb_mem 53 (by decide +kernel) (by decide +kernel), tb_mem 446 (by decide +kernel) (by decide +kernel), by decide +kernel, by decide +kernel, by decide +kernel, by decide⟩
theorem m_X7_seed : MV yX7_seed cX7_seed 3 (some (FieldType.int)) 1 := ⟨tb_mem 458 (by decide +kernel) (by decide +kernel), tb_mem 459 (by decide +kernel) (by decide +kernel), tb_mem 53 (by decide +kernel) (by decide +kernel), tb_mem 460 (by decide +kernel) (by decide +kernel), by decide +kernel, by decide +kernel, by decide +kernel, by decide⟩
theorem m_X7_out : MV yX7_out cX7_out 3 (some (FieldType.int)) 2 := ⟨tb_mem 462 (by decide +kernel) (by decide +kernel), tb_mem 463 (by decide +kernel) (by decide +kernel), tb_mem 53 (by decide +kernel) (by decide +kernel), tb_mem 464 (by decide +kernel) (by decide +kernel), by decide +kernel, by decide +kernel, by decide +kernel, by decide⟩
theorem m_X7_hours : MV yX7_hours cX7_hours 2 (some (FieldType.int)) 1 := ⟨tb_mem 470 (by decide +kernel) (by decide +kernel), tb_mem 471 (by decide +kernel) (by decide +kernel), tb_mem 53 (by decide +kernel) (by decide +kernel), tb_mem 472 (by decide +kernel) (by decide +kernel), by decide +kernel, by decide +kernel, by decide +kernel, by decide⟩
theorem m_X7_jury : MV yX7_jury cX7_jury 2 (some (FieldType.int)) 1 := ⟨tb_mem 488 (by decide +kernel) (by decide +kernel), tb_mem 489 (by decide +kernel) (by decide +kernel), tb_mem 53 (by decide +kernel) (by decide +kernel), tb_mem 490 (by decide +kernel) (by decide +kernel), by decide +kernel, by decide +kernel, by decide +kernel, by decide⟩
theorem m_X7_behind : MV yX7_behind cX7_behind 3 (some (FieldType.int)) 2 := ⟨tb_mem 508 (by decide +kernel) (by decide +kernel), tb_mem 509 (by decide +kernel) (by decide +kernel), tb_mem 53 (by decide +kernel) (by decide +kernel), tb_mem 510 (by decide +kernel) (by decide +kernel), by decide +kernel, by decide +kernel, by decide +kernel, by decide⟩
theorem m_X7_allKnow : MV yX7_allKnow cX7_allKnow 3 (some (FieldType.int)) 0 := ⟨tb_mem 523 (by decide +kernel) (by decide +kernel), tb_mem 524 (by decide +kernel) (by decide +kernel), tb_mem 53 (by decide +kernel) (by decide +kernel), tb_mem 525 (by decide +kernel) (by decide +kernel), by decide +kernel, by decide +kernel, by decide +kernel, by decide⟩
theorem m_X7_bestTurn : MV yX7_bestTurn cX7_bestTurn 7 (some (FieldType.int)) 2 := ⟨tb_mem 528 (by decide +kernel) (by decide +kernel), tb_mem 529 (by decide +kernel) (by decide +kernel), tb_mem 53 (by decide +kernel) (by decide +kernel), tb_mem 530 (by decide +kernel) (by decide +kernel), by decide +kernel, by decide +kernel, by decide +kernel, by decide⟩
theorem m_X7_sure : MV yX7_sure cX7_sure 4 (some (FieldType.int)) 1 := ⟨tb_mem 532 (by decide +kernel) (by decide +kernel), tb_mem 533 (by decide +kernel) (by decide +kernel), tb_mem 53 (by decide +kernel) (by decide +kernel), tb_mem 534 (by decide +kernel) (by decide +kernel), by decide +kernel, by decide +kernel, by decide +kernel, by decide⟩
theorem m_X7_advocate : MV yX7_advocate cX7_advocate 7 (some (FieldType.int)) 2 := ⟨tb_mem 536 (by decide +kernel) (by decide +kernel), tb_mem 537 (by decide +kernel) (by decide +kernel), tb_mem 53 (by decide +kernel) (by decide +kernel), tb_mem 538 (by decide +kernel) (by decide +kernel), by decide +kernel, by decide +kernel, by decide +kernel, by decide⟩
theorem m_X7_tipped : MV yX7_tipped cX7_tipped 5 (some (FieldType.int)) 1 := ⟨tb_mem 540 (by decide +kernel) (by decide +kernel), tb_mem 541 (by decide +kernel) (by decide +kernel), tb_mem 53 (by decide +kernel) (by decide +kernel), tb_mem 542 (by decide +kernel) (by decide +kernel), by decide +kernel, by decide +kernel, by decide +kernel, by decide⟩
theorem m_X7_weighed : MV yX7_weighed cX7_weighed 7 (some (FieldType.int)) 2 := ⟨tb_mem 544 (by decide +kernel) (by decide +kernel), tb_mem 545 (by decide +kernel) (by decide +kernel), tb_mem 53 (by decide +kernel) (by decide +kernel), tb_mem 546 (by decide +kernel) (by decide +kernel), by decide +kernel, by decide +kernel, by decide +kernel, by decide⟩
theorem m_X7_fee : MV yX7_fee cX7_fee 2 (some (FieldType.int)) 0 := ⟨tb_mem 568 (by decide +kernel) (by decide +kernel), tb_mem 569 (by decide +kernel) (by decide +kernel), tb_mem 53 (by decide +kernel) (by decide +kernel), tb_mem 570 (by decide +kernel) (by decide +kernel), by decide +kernel, by decide +kernel, by decide +kernel, by decide⟩
theorem m_X7_fine : MV yX7_fine cX7_fine 3 (some (FieldType.int)) 1 := ⟨tb_mem 573 (by decide +kernel) (by decide +kernel), tb_mem 574 (by decide +kernel) (by decide +kernel), tb_mem 53 (by decide +kernel) (by decide +kernel), tb_mem 575 (by decide +kernel) (by decide +kernel), by decide +kernel, by decide +kernel, by decide +kernel, by decide⟩
theorem m_X7_feed : MV yX7_feed cX7_feed 4 (some (FieldType.int)) 3 := ⟨tb_mem 577 (by decide +kernel) (by decide +kernel), tb_mem 578 (by decide +kernel) (by decide +kernel), tb_mem 53 (by decide +kernel) (by decide +kernel), tb_mem 579 (by decide +kernel) (by decide +kernel), by decide +kernel, by decide +kernel, by decide +kernel, by decide⟩
theorem m_X7_trim : MV yX7_trim cX7_trim 2 (some (FieldType.int)) 1 := ⟨tb_mem 585 (by decide +kernel) (by decide +kernel), tb_mem 586 (by decide +kernel) (by decide +kernel), tb_mem 53 (by decide +kernel) (by decide +kernel), tb_mem 587 (by decide +kernel) (by decide +kernel), by decide +kernel, by decide +kernel, by decide +kernel, by decide⟩
theorem m_X7_text : MV yX7_text cX7_text 3 (some (FieldType.int)) 0 := ⟨tb_mem 589 (by decide +kernel) (by decide +kernel), tb_mem 590 (by decide +kernel) (by decide +kernel), tb_mem 53 (by decide +kernel) (by decide +kernel), tb_mem 591 (by decide +kernel) (by decide +kernel), by decide +kernel, by decide +kernel, by decide +kernel, by decide⟩
theorem m_X7_textTold : MV yX7_textTold cX7_textTold 4 (some (FieldType.int)) 2 := ⟨tb_mem 790 (by decide +kernel) (by decide +kernel), tb_mem 791 (by decide +kernel) (by decide +kernel), tb_mem 53 (by decide +kernel) (by decide +kernel), tb_mem 792 (by decide +kernel) (by decide +kernel), by decide +kernel, by decide +kernel, by decide +kernel, by decide⟩
theorem m_X7_why : MV yX7_why cX7_why 3 (some (FieldType.int)) 1 := ⟨tb_mem 794 (by decide +kernel) (by decide +kernel), tb_mem 795 (by decide +kernel) (by decide +kernel), tb_mem 53 (by decide +kernel) (by decide +kernel), tb_mem 796 (by decide +kernel) (by decide +kernel), by decide +kernel, by decide +kernel, by decide +kernel, by decide⟩
theorem m_X7_sheet : MV yX7_sheet cX7_sheet 4 (some (FieldType.int)) 3 := ⟨tb_mem 798 (by decide +kernel) (by decide +kernel), tb_mem 799 (by decide +kernel) (by decide +kernel), tb_mem 53 (by decide +kernel) (by decide +kernel), tb_mem 800 (by decide +kernel) (by decide +kernel), by decide +kernel, by decide +kernel, by decide +kernel, by decide⟩
theorem m_X7_mark : MV yX7_mark cX7_mark 5 (some (FieldType.int)) 3 := ⟨tb_mem 808 (by decide +kernel) (by decide +kernel), tb_mem 809 (by decide +kernel) (by decide +kernel), tb_mem 53 (by decide +kernel) (by decide +kernel), tb_mem 810 (by decide +kernel) (by decide +kernel), by decide +kernel, by decide +kernel, by decide +kernel, by decide⟩
theorem m_X7_pour : MV yX7_pour cX7_pour 6 (some (FieldType.int)) 1 := ⟨tb_mem 816 (by decide +kernel) (by decide +kernel), tb_mem 817 (by decide +kernel) (by decide +kernel), tb_mem 53 (by decide +kernel) (by decide +kernel), tb_mem 818 (by decide +kernel) (by decide +kernel), by decide +kernel, by decide +kernel, by decide +kernel, by decide⟩
theorem m_X7_reads : MV yX7_reads cX7_reads 4 (some (FieldType.int)) 1 := ⟨tb_mem 820 (by decide +kernel) (by decide +kernel), tb_mem 821 (by decide +kernel) (by decide +kernel), tb_mem 53 (by decide +kernel) (by decide +kernel), tb_mem 822 (by decide +kernel) (by decide +kernel), by decide +kernel, by decide +kernel, by decide +kernel, by decide⟩
theorem m_X7_copy : MV yX7_copy cX7_copy 8 (some (FieldType.int)) 5 := ⟨tb_mem 824 (by decide +kernel) (by decide +kernel), tb_mem 825 (by decide +kernel) (by decide +kernel), tb_mem 53 (by decide +kernel) (by decide +kernel), tb_mem 826 (by decide +kernel) (by decide +kernel), by decide +kernel, by decide +kernel, by decide +kernel, by decide⟩
theorem m_X7_lay : MV yX7_lay cX7_lay 6 (some (FieldType.int)) 3 := ⟨tb_mem 833 (by decide +kernel) (by decide +kernel), tb_mem 834 (by decide +kernel) (by decide +kernel), tb_mem 53 (by decide +kernel) (by decide +kernel), tb_mem 835 (by decide +kernel) (by decide +kernel), by decide +kernel, by decide +kernel, by decide +kernel, by decide⟩
theorem m_X7_ask : MV yX7_ask cX7_ask 4 (some (FieldType.int)) 2 := ⟨tb_mem 845 (by decide +kernel) (by decide +kernel), tb_mem 846 (by decide +kernel) (by decide +kernel), tb_mem 53 (by decide +kernel) (by decide +kernel), tb_mem 847 (by decide +kernel) (by decide +kernel), by decide +kernel, by decide +kernel, by decide +kernel, by decide⟩
theorem m_X7_item : MV yX7_item cX7_item 4 (some (FieldType.int)) 2 := ⟨tb_mem 849 (by decide +kernel) (by decide +kernel), tb_mem 850 (by decide +kernel) (by decide +kernel), tb_mem 53 (by decide +kernel) (by decide +kernel), tb_mem 851 (by decide +kernel) (by decide +kernel), by decide +kernel, by decide +kernel, by decide +kernel, by decide⟩
theorem m_X7_rest : MV yX7_rest cX7_rest 4 (some (FieldType.int)) 2 := ⟨tb_mem 853 (by decide +kernel) (by decide +kernel), tb_mem 854 (by decide +kernel) (by decide +kernel), tb_mem 53 (by decide +kernel) (by decide +kernel), tb_mem 855 (by decide +kernel) (by decide +kernel), by decide +kernel, by decide +kernel, by decide +kernel, by decide⟩
theorem m_X7_tell : MV yX7_tell cX7_tell 2 (some (FieldType.int)) 1 := ⟨tb_mem 858 (by decide +kernel) (by decide +kernel), tb_mem 859 (by decide +kernel) (by decide +kernel), tb_mem 53 (by decide +kernel) (by decide +kernel), tb_mem 860 (by decide +kernel) (by decide +kernel), by decide +kernel, by decide +kernel, by decide +kernel, by decide⟩
theorem m_X7_check : MV yX7_check cX7_check 5 (some (FieldType.int)) 1 := ⟨tb_mem 862 (by decide +kernel) (by decide +kernel), tb_mem 863 (by decide +kernel) (by decide +kernel), tb_mem 53 (by decide +kernel) (by decide +kernel), tb_mem 864 (by decide +kernel) (by decide +kernel), by decide +kernel, by decide +kernel, by decide +kernel, by decide⟩
theorem m_X7_keep : MV yX7_keep cX7_keep 1 (some (FieldType.int)) 0 := ⟨tb_mem 870 (by decide +kernel) (by decide +kernel), tb_mem 871 (by decide +kernel) (by decide +kernel), tb_mem 53 (by decide +kernel) (by decide +kernel), tb_mem 872 (by decide +kernel) (by decide +kernel), by decide +kernel, by decide +kernel, by decide +kernel, by decide⟩
theorem m_X7_back : MV yX7_back cX7_back 1 (some (FieldType.int)) 0 := ⟨tb_mem 874 (by decide +kernel) (by decide +kernel), tb_mem 875 (by decide +kernel) (by decide +kernel), tb_mem 53 (by decide +kernel) (by decide +kernel), tb_mem 876 (by decide +kernel) (by decide +kernel), by decide +kernel, by decide +kernel, by decide +kernel, by decide⟩
theorem m_X7_count : MV yX7_count cX7_count 2 (some (FieldType.int)) 1 := ⟨tb_mem 878 (by decide +kernel) (by decide +kernel), tb_mem 879 (by decide +kernel) (by decide +kernel), tb_mem 53 (by decide +kernel) (by decide +kernel), tb_mem 880 (by decide +kernel) (by decide +kernel), by decide +kernel, by decide +kernel, by decide +kernel, by decide⟩
theorem m_X7_think : MV yX7_think cX7_think 3 none 2 := ⟨tb_mem 513 (by decide +kernel) (by decide +kernel), tb_mem 3 (by decide +kernel) (by decide +kernel), tb_mem 53 (by decide +kernel) (by decide +kernel), tb_mem 514 (by decide +kernel) (by decide +kernel), by decide +kernel, by decide +kernel, by decide +kernel, by decide⟩
theorem m_X7_isSaid : MV yX7_isSaid cX7_isSaid 4 (some (FieldType.boolean)) 3 := ⟨tb_mem 867 (by decide +kernel) (by decide +kernel), tb_mem 14 (by decide +kernel) (by decide +kernel), tb_mem 53 (by decide +kernel) (by decide +kernel), tb_mem 868 (by decide +kernel) (by decide +kernel), by decide +kernel, by decide +kernel, by decide +kernel, by decide⟩
theorem m_X7_apart : MS yX7_apart cX7_apart 5 (some (FieldType.int)) 2 := ⟨tb_mem 553 (by decide +kernel) (by decide +kernel), tb_mem 53 (by decide +kernel) (by decide +kernel), tb_mem 554 (by decide +kernel) (by decide +kernel), by decide +kernel, by decide +kernel, by decide +kernel, by decide⟩
theorem m_X7_isFact : MS yX7_isFact cX7_isFact 1 (some (FieldType.boolean)) 1 := ⟨tb_mem 437 (by decide +kernel) (by decide +kernel), tb_mem 53 (by decide +kernel) (by decide +kernel), tb_mem 438 (by decide +kernel) (by decide +kernel), by decide +kernel, by decide +kernel, by decide +kernel, by decide⟩
theorem m_X7_isSheet : MS yX7_isSheet cX7_isSheet 1 (some (FieldType.boolean)) 1 := ⟨tb_mem 548 (by decide +kernel) (by decide +kernel), tb_mem 53 (by decide +kernel) (by decide +kernel), tb_mem 549 (by decide +kernel) (by decide +kernel), by decide +kernel, by decide +kernel, by decide +kernel, by decide⟩
theorem m_X7_isSlot : MS yX7_isSlot cX7_isSlot 1 (some (FieldType.boolean)) 1 := ⟨tb_mem 837 (by decide +kernel) (by decide +kernel), tb_mem 53 (by decide +kernel) (by decide +kernel), tb_mem 838 (by decide +kernel) (by decide +kernel), by decide +kernel, by decide +kernel, by decide +kernel, by decide⟩
theorem m_X7_within : MS yX7_within cX7_within 3 (some (FieldType.boolean)) 3 := ⟨tb_mem 302 (by decide +kernel) (by decide +kernel), tb_mem 53 (by decide +kernel) (by decide +kernel), tb_mem 303 (by decide +kernel) (by decide +kernel), by decide +kernel, by decide +kernel, by decide +kernel, by decide⟩
theorem m_X7_held : MS yX7_held cX7_held 3 (some (FieldType.int)) 3 := ⟨tb_mem 351 (by decide +kernel) (by decide +kernel), tb_mem 53 (by decide +kernel) (by decide +kernel), tb_mem 352 (by decide +kernel) (by decide +kernel), by decide +kernel, by decide +kernel, by decide +kernel, by decide⟩
theorem m_X7_exchange : MS yX7_exchange cX7_exchange 4 (some (FieldType.int)) 3 := ⟨tb_mem 426 (by decide +kernel) (by decide +kernel), tb_mem 53 (by decide +kernel) (by decide +kernel), tb_mem 427 (by decide +kernel) (by decide +kernel), by decide +kernel, by decide +kernel, by decide +kernel, by decide⟩
theorem m_X8_init : MI yX8_init cX8_init 1 0 := ⟨tb_mem 884 (by decide +kernel) (by decide +kernel), rfl, tb_mem 60 (by decide +kernel) (by decide +kernel), tb_mem 885 (by decide +kernel) (by decide +kernel), by decide +kernel, by decide +kernel, by decide +kernel, by decide⟩
theorem m_X8_in : MS yX8_in cX8_in 3 (some (FieldType.boolean)) 3 := ⟨tb_mem 997 (by decide +kernel) (by decide +kernel), tb_mem 60 (by decide +kernel) (by decide +kernel), tb_mem 998 (by decide +kernel) (by decide +kernel), by decide +kernel, by decide +kernel, by decide +kernel, by decide⟩
theorem m_X8_within : MS yX8_within cX8_within 3 (some (FieldType.int)) 3 := ⟨tb_mem 1044 (by decide +kernel) (by decide +kernel), tb_mem 60 (by decide +kernel) (by decide +kernel), tb_mem 1045 (by decide +kernel) (by decide +kernel), by decide +kernel, by decide +kernel, by decide +kernel, by decide⟩
theorem m_X8_copyAll : MS yX8_copyAll cX8_copyAll 3 none 2 := ⟨tb_mem 1335 (by decide +kernel) (by decide +kernel), tb_mem 60 (by decide +kernel) (by decide +kernel), tb_mem 1336 (by decide +kernel) (by decide +kernel), by decide +kernel, by decide +kernel, by decide +kernel, by decide⟩
theorem m_X8_told0 : MS yX8_told0 cX8_told0 1 (some (FieldType.int)) 1 := ⟨tb_mem 1067 (by decide +kernel) (by decide +kernel), tb_mem 60 (by decide +kernel) (by decide +kernel), tb_mem 1068 (by decide +kernel) (by decide +kernel), by decide +kernel, by decide +kernel, by decide +kernel, by decide⟩
theorem m_X8_isJuror : MV yX8_isJuror cX8_isJuror 2 (some (FieldType.boolean)) 1 := ⟨tb_mem 1015 (by decide +kernel) (by decide +kernel), tb_mem 17 (by decide +kernel) (by decide +kernel), tb_mem 60 (by decide +kernel) (by decide +kernel), tb_mem 1016 (by decide +kernel) (by decide +kernel), by decide +kernel, by decide +kernel, by decide +kernel, by decide⟩
theorem m_X8_isFact : MS yX8_isFact cX8_isFact 1 (some (FieldType.boolean)) 1 := ⟨tb_mem 1095 (by decide +kernel) (by decide +kernel), tb_mem 60 (by decide +kernel) (by decide +kernel), tb_mem 1096 (by decide +kernel) (by decide +kernel), by decide +kernel, by decide +kernel, by decide +kernel, by decide⟩
theorem m_X8_of : MV yX8_of cX8_of 3 (some (FieldType.int)) 2 := ⟨tb_mem 1019 (by decide +kernel) (by decide +kernel), tb_mem 18 (by decide +kernel) (by decide +kernel), tb_mem 60 (by decide +kernel) (by decide +kernel), tb_mem 1020 (by decide +kernel) (by decide +kernel), by decide +kernel, by decide +kernel, by decide +kernel, by decide⟩
theorem m_X8_put : MV yX8_put cX8_put 4 none 3 := ⟨tb_mem 1007 (by decide +kernel) (by decide +kernel), tb_mem 16 (by decide +kernel) (by decide +kernel), tb_mem 60 (by decide +kernel) (by decide +kernel), tb_mem 1008 (by decide +kernel) (by decide +kernel), by decide +kernel, by decide +kernel, by decide +kernel, by decide⟩
theorem m_X8_becomes : MV yX8_becomes cX8_becomes 4 (some (FieldType.int)) 2 := ⟨tb_mem 1084 (by decide +kernel) (by decide +kernel), tb_mem 27 (by decide +kernel) (by decide +kernel), tb_mem 60 (by decide +kernel) (by decide +kernel), tb_mem 1085 (by decide +kernel) (by decide +kernel), by decide +kernel, by decide +kernel, by decide +kernel, by decide⟩
theorem m_X8_bitsOf : MS yX8_bitsOf cX8_bitsOf 3 (some (FieldType.int)) 1 := ⟨tb_mem 1034 (by decide +kernel) (by decide +kernel), tb_mem 60 (by decide +kernel) (by decide +kernel), tb_mem 1035 (by decide +kernel) (by decide +kernel), by decide +kernel, by decide +kernel, by decide +kernel, by decide⟩
theorem m_X8_comes : MV yX8_comes cX8_comes 6 (some (FieldType.int)) 4 := ⟨tb_mem 1003 (by decide +kernel) (by decide +kernel), tb_mem 15 (by decide +kernel) (by decide +kernel), tb_mem 60 (by decide +kernel) (by decide +kernel), tb_mem 1004 (by decide +kernel) (by decide +kernel), by decide +kernel, by decide +kernel, by decide +kernel, by decide⟩
theorem m_X8_juror : MV yX8_juror cX8_juror 4 (some (FieldType.int)) 3 := ⟨tb_mem 993 (by decide +kernel) (by decide +kernel), tb_mem 994 (by decide +kernel) (by decide +kernel), tb_mem 60 (by decide +kernel) (by decide +kernel), tb_mem 995 (by decide +kernel) (by decide +kernel), by decide +kernel, by decide +kernel, by decide +kernel, by decide⟩
theorem m_X8_weightOf : MV yX8_weightOf cX8_weightOf 4 (some (FieldType.int)) 1 := ⟨tb_mem 1027 (by decide +kernel) (by decide +kernel), tb_mem 20 (by decide +kernel) (by decide +kernel), tb_mem 60 (by decide +kernel) (by decide +kernel), tb_mem 1028 (by decide +kernel) (by decide +kernel), by decide +kernel, by decide +kernel, by decide +kernel, by decide⟩
theorem m_X8_believesOf : MV yX8_believesOf cX8_believesOf 7 (some (FieldType.int)) 1 := ⟨tb_mem 1023 (by decide +kernel) (by decide +kernel), tb_mem 19 (by decide +kernel) (by decide +kernel), tb_mem 60 (by decide +kernel) (by decide +kernel), tb_mem 1024 (by decide +kernel) (by decide +kernel), by decide +kernel, by decide +kernel, by decide +kernel, by decide⟩
theorem m_X8_isGuilty : MV yX8_isGuilty cX8_isGuilty 2 (some (FieldType.boolean)) 1 := ⟨tb_mem 1048 (by decide +kernel) (by decide +kernel), tb_mem 23 (by decide +kernel) (by decide +kernel), tb_mem 60 (by decide +kernel) (by decide +kernel), tb_mem 1049 (by decide +kernel) (by decide +kernel), by decide +kernel, by decide +kernel, by decide +kernel, by decide⟩
theorem m_X8_partnerOf : MV yX8_partnerOf cX8_partnerOf 3 (some (FieldType.int)) 1 := ⟨tb_mem 1052 (by decide +kernel) (by decide +kernel), tb_mem 24 (by decide +kernel) (by decide +kernel), tb_mem 60 (by decide +kernel) (by decide +kernel), tb_mem 1053 (by decide +kernel) (by decide +kernel), by decide +kernel, by decide +kernel, by decide +kernel, by decide⟩
theorem m_X8_tellsOf : MV yX8_tellsOf cX8_tellsOf 8 (some (FieldType.int)) 2 := ⟨tb_mem 1064 (by decide +kernel) (by decide +kernel), tb_mem 26 (by decide +kernel) (by decide +kernel), tb_mem 60 (by decide +kernel) (by decide +kernel), tb_mem 1065 (by decide +kernel) (by decide +kernel), by decide +kernel, by decide +kernel, by decide +kernel, by decide⟩
theorem m_X8_worthOf : MV yX8_worthOf cX8_worthOf 3 (some (FieldType.int)) 1 := ⟨tb_mem 1056 (by decide +kernel) (by decide +kernel), tb_mem 25 (by decide +kernel) (by decide +kernel), tb_mem 60 (by decide +kernel) (by decide +kernel), tb_mem 1057 (by decide +kernel) (by decide +kernel), by decide +kernel, by decide +kernel, by decide +kernel, by decide⟩
theorem m_X8_told : MV yX8_told cX8_told 3 (some (FieldType.int)) 2 := ⟨tb_mem 1010 (by decide +kernel) (by decide +kernel), tb_mem 1011 (by decide +kernel) (by decide +kernel), tb_mem 60 (by decide +kernel) (by decide +kernel), tb_mem 1012 (by decide +kernel) (by decide +kernel), by decide +kernel, by decide +kernel, by decide +kernel, by decide⟩
theorem m_X8_tells : MV yX8_tells cX8_tells 3 (some (FieldType.int)) 2 := ⟨tb_mem 1059 (by decide +kernel) (by decide +kernel), tb_mem 1060 (by decide +kernel) (by decide +kernel), tb_mem 60 (by decide +kernel) (by decide +kernel), tb_mem 1061 (by decide +kernel) (by decide +kernel), by decide +kernel, by decide +kernel, by decide +kernel, by decide⟩
theorem m_X8_isUnder : MS yX8_isUnder cX8_isUnder 2 (some (FieldType.boolean)) 2 := ⟨tb_mem 1075 (by decide +kernel) (by decide +kernel), tb_mem 60 (by decide +kernel) (by decide +kernel), tb_mem 1076 (by decide +kernel) (by decide +kernel), by decide +kernel, by decide +kernel, by decide +kernel, by decide⟩
theorem m_X8_as : MV yX8_as cX8_as 3 (some (FieldType.int)) 2 := ⟨tb_mem 1071 (by decide +kernel) (by decide +kernel), tb_mem 1072 (by decide +kernel) (by decide +kernel), tb_mem 60 (by decide +kernel) (by decide +kernel), tb_mem 1073 (by decide +kernel) (by decide +kernel), by decide +kernel, by decide +kernel, by decide +kernel, by decide⟩
theorem m_X8_turns : MV yX8_turns cX8_turns 3 (some (FieldType.int)) 2 := ⟨tb_mem 1079 (by decide +kernel) (by decide +kernel), tb_mem 1080 (by decide +kernel) (by decide +kernel), tb_mem 60 (by decide +kernel) (by decide +kernel), tb_mem 1081 (by decide +kernel) (by decide +kernel), by decide +kernel, by decide +kernel, by decide +kernel, by decide⟩
theorem m_X8_set : MV yX8_set cX8_set 4 (some (FieldType.int)) 3 := ⟨tb_mem 1087 (by decide +kernel) (by decide +kernel), tb_mem 1088 (by decide +kernel) (by decide +kernel), tb_mem 60 (by decide +kernel) (by decide +kernel), tb_mem 1089 (by decide +kernel) (by decide +kernel), by decide +kernel, by decide +kernel, by decide +kernel, by decide⟩
theorem m_X8_weigh : MV yX8_weigh cX8_weigh 3 (some (FieldType.int)) 2 := ⟨tb_mem 1091 (by decide +kernel) (by decide +kernel), tb_mem 1092 (by decide +kernel) (by decide +kernel), tb_mem 60 (by decide +kernel) (by decide +kernel), tb_mem 1093 (by decide +kernel) (by decide +kernel), by decide +kernel, by decide +kernel, by decide +kernel, by decide⟩
theorem m_X8_rule : MV yX8_rule cX8_rule 3 (some (FieldType.int)) 2 := ⟨tb_mem 1098 (by decide +kernel) (by decide +kernel), tb_mem 1099 (by decide +kernel) (by decide +kernel), tb_mem 60 (by decide +kernel) (by decide +kernel), tb_mem 1100 (by decide +kernel) (by decide +kernel), by decide +kernel, by decide +kernel, by decide +kernel, by decide⟩
theorem m_X8_draw : MV yX8_draw cX8_draw 1 (some (FieldType.int)) 0 := ⟨tb_mem 1107 (by decide +kernel) (by decide +kernel), tb_mem 28 (by decide +kernel) (by decide +kernel), tb_mem 60 (by decide +kernel) (by decide +kernel), tb_mem 1108 (by decide +kernel) (by decide +kernel), by decide +kernel, by decide +kernel, by decide +kernel, by decide⟩
theorem m_X8_deal : MV yX8_deal cX8_deal 7 (some (FieldType.int)) 1 := ⟨tb_mem 1102 (by decide +kernel) (by decide +kernel), tb_mem 1103 (by decide +kernel) (by decide +kernel), tb_mem 60 (by decide +kernel) (by decide +kernel), tb_mem 1104 (by decide +kernel) (by decide +kernel), by decide +kernel, by decide +kernel, by decide +kernel, by decide⟩
theorem m_X8_seed : MV yX8_seed cX8_seed 2 (some (FieldType.int)) 1 := ⟨tb_mem 1111 (by decide +kernel) (by decide +kernel), tb_mem 1112 (by decide +kernel) (by decide +kernel), tb_mem 60 (by decide +kernel) (by decide +kernel), tb_mem 1113 (by decide +kernel) (by decide +kernel), by decide +kernel, by decide +kernel, by decide +kernel, by decide⟩
theorem m_X8_comesOut : MV yX8_comesOut cX8_comesOut 5 (some (FieldType.int)) 2 := ⟨tb_mem 1120 (by decide +kernel) (by decide +kernel), tb_mem 29 (by decide +kernel) (by decide +kernel), tb_mem 60 (by decide +kernel) (by decide +kernel), tb_mem 1121 (by decide +kernel) (by decide +kernel), by decide +kernel, by decide +kernel, by decide +kernel, by decide⟩
theorem m_X8_out : MV yX8_out cX8_out 3 (some (FieldType.int)) 2 := ⟨tb_mem 1115 (by decide +kernel) (by decide +kernel), tb_mem 1116 (by decide +kernel) (by decide +kernel), tb_mem 60 (by decide +kernel) (by decide +kernel), tb_mem 1117 (by decide +kernel) (by decide +kernel), by decide +kernel, by decide +kernel, by decide +kernel, by decide⟩
theorem m_X8_passes : MV yX8_passes cX8_passes 4 (some (FieldType.int)) 3 := ⟨tb_mem 1136 (by decide +kernel) (by decide +kernel), tb_mem 32 (by decide +kernel) (by decide +kernel), tb_mem 60 (by decide +kernel) (by decide +kernel), tb_mem 1137 (by decide +kernel) (by decide +kernel), by decide +kernel, by decide +kernel, by decide +kernel, by decide⟩
theorem m_X8_hour : MV yX8_hour cX8_hour 6 (some (FieldType.int)) 0 := ⟨tb_mem 1132 (by decide +kernel) (by decide +kernel), tb_mem 31 (by decide +kernel) (by decide +kernel), tb_mem 60 (by decide +kernel) (by decide +kernel), tb_mem 1133 (by decide +kernel) (by decide +kernel), by decide +kernel, by decide +kernel, by decide +kernel, by decide⟩
theorem m_X8_goesOn : MV yX8_goesOn cX8_goesOn 4 (some (FieldType.int)) 1 := ⟨tb_mem 1128 (by decide +kernel) (by decide +kernel), tb_mem 30 (by decide +kernel) (by decide +kernel), tb_mem 60 (by decide +kernel) (by decide +kernel), tb_mem 1129 (by decide +kernel) (by decide +kernel), by decide +kernel, by decide +kernel, by decide +kernel, by decide⟩
theorem m_X8_hours : MV yX8_hours cX8_hours 2 (some (FieldType.int)) 1 := ⟨tb_mem 1123 (by decide +kernel) (by decide +kernel), tb_mem 1124 (by decide +kernel) (by decide +kernel), tb_mem 60 (by decide +kernel) (by decide +kernel), tb_mem 1125 (by decide +kernel) (by decide +kernel), by decide +kernel, by decide +kernel, by decide +kernel, by decide⟩
theorem m_X8_common : MV yX8_common cX8_common 3 (some (FieldType.int)) 0 := ⟨tb_mem 1144 (by decide +kernel) (by decide +kernel), tb_mem 33 (by decide +kernel) (by decide +kernel), tb_mem 60 (by decide +kernel) (by decide +kernel), tb_mem 1145 (by decide +kernel) (by decide +kernel), by decide +kernel, by decide +kernel, by decide +kernel, by decide⟩
theorem m_X8_any : MV yX8_any cX8_any 3 (some (FieldType.int)) 0 := ⟨tb_mem 1156 (by decide +kernel) (by decide +kernel), tb_mem 36 (by decide +kernel) (by decide +kernel), tb_mem 60 (by decide +kernel) (by decide +kernel), tb_mem 1157 (by decide +kernel) (by decide +kernel), by decide +kernel, by decide +kernel, by decide +kernel, by decide⟩
theorem m_X8_votes : MV yX8_votes cX8_votes 3 (some (FieldType.int)) 0 := ⟨tb_mem 1148 (by decide +kernel) (by decide +kernel), tb_mem 34 (by decide +kernel) (by decide +kernel), tb_mem 60 (by decide +kernel) (by decide +kernel), tb_mem 1149 (by decide +kernel) (by decide +kernel), by decide +kernel, by decide +kernel, by decide +kernel, by decide⟩
theorem m_X8_knownAll : MV yX8_knownAll cX8_knownAll 3 (some (FieldType.int)) 0 := ⟨tb_mem 1152 (by decide +kernel) (by decide +kernel), tb_mem 35 (by decide +kernel) (by decide +kernel), tb_mem 60 (by decide +kernel) (by decide +kernel), tb_mem 1153 (by decide +kernel) (by decide +kernel), by decide +kernel, by decide +kernel, by decide +kernel, by decide⟩
theorem m_X8_jury : MV yX8_jury cX8_jury 2 (some (FieldType.int)) 1 := ⟨tb_mem 1139 (by decide +kernel) (by decide +kernel), tb_mem 1140 (by decide +kernel) (by decide +kernel), tb_mem 60 (by decide +kernel) (by decide +kernel), tb_mem 1141 (by decide +kernel) (by decide +kernel), by decide +kernel, by decide +kernel, by decide +kernel, by decide⟩
theorem m_X8_thinks : MV yX8_thinks cX8_thinks 2 none 0 := ⟨tb_mem 1164 (by decide +kernel) (by decide +kernel), tb_mem 37 (by decide +kernel) (by decide +kernel), tb_mem 60 (by decide +kernel) (by decide +kernel), tb_mem 1165 (by decide +kernel) (by decide +kernel), by decide +kernel, by decide +kernel, by decide +kernel, by decide⟩
theorem m_X8_putsBack : MV yX8_putsBack cX8_putsBack 2 none 0 := ⟨tb_mem 1169 (by decide +kernel) (by decide +kernel), tb_mem 38 (by decide +kernel) (by decide +kernel), tb_mem 60 (by decide +kernel) (by decide +kernel), tb_mem 1170 (by decide +kernel) (by decide +kernel), by decide +kernel, by decide +kernel, by decide +kernel, by decide⟩
theorem m_X8_behind : MV yX8_behind cX8_behind 5 (some (FieldType.int)) 2 := ⟨tb_mem 1159 (by decide +kernel) (by decide +kernel), tb_mem 1160 (by decide +kernel) (by decide +kernel), tb_mem 60 (by decide +kernel) (by decide +kernel), tb_mem 1161 (by decide +kernel) (by decide +kernel), by decide +kernel, by decide +kernel, by decide +kernel, by decide⟩
theorem m_X8_isKnown : MV yX8_isKnown cX8_isKnown 2 (some (FieldType.boolean)) 1 := ⟨tb_mem 1177 (by decide +kernel) (by decide +kernel), tb_mem 39 (by decide +kernel) (by decide +kernel), tb_mem 60 (by decide +kernel) (by decide +kernel), tb_mem 1178 (by decide +kernel) (by decide +kernel), by decide +kernel, by decide +kernel, by decide +kernel, by decide⟩
theorem m_X8_allKnow : MV yX8_allKnow cX8_allKnow 4 (some (FieldType.int)) 0 := ⟨tb_mem 1172 (by decide +kernel) (by decide +kernel), tb_mem 1173 (by decide +kernel) (by decide +kernel), tb_mem 60 (by decide +kernel) (by decide +kernel), tb_mem 1174 (by decide +kernel) (by decide +kernel), by decide +kernel, by decide +kernel, by decide +kernel, by decide⟩
theorem m_X8_bestTurn : MV yX8_bestTurn cX8_bestTurn 8 (some (FieldType.int)) 2 := ⟨tb_mem 1180 (by decide +kernel) (by decide +kernel), tb_mem 1181 (by decide +kernel) (by decide +kernel), tb_mem 60 (by decide +kernel) (by decide +kernel), tb_mem 1182 (by decide +kernel) (by decide +kernel), by decide +kernel, by decide +kernel, by decide +kernel, by decide⟩
theorem m_X8_sure : MV yX8_sure cX8_sure 5 (some (FieldType.int)) 1 := ⟨tb_mem 1184 (by decide +kernel) (by decide +kernel), tb_mem 1185 (by decide +kernel) (by decide +kernel), tb_mem 60 (by decide +kernel) (by decide +kernel), tb_mem 1186 (by decide +kernel) (by decide +kernel), by decide +kernel, by decide +kernel, by decide +kernel, by decide⟩
theorem m_X8_votesBehind : MV yX8_votesBehind cX8_votesBehind 4 (some (FieldType.int)) 1 := ⟨tb_mem 1193 (by decide +kernel) (by decide +kernel), tb_mem 40 (by decide +kernel) (by decide +kernel), tb_mem 60 (by decide +kernel) (by decide +kernel), tb_mem 1194 (by decide +kernel) (by decide +kernel), by decide +kernel, by decide +kernel, by decide +kernel, by decide⟩
theorem m_X8_advocate : MV yX8_advocate cX8_advocate 8 (some (FieldType.int)) 2 := ⟨tb_mem 1188 (by decide +kernel) (by decide +kernel), tb_mem 1189 (by decide +kernel) (by decide +kernel), tb_mem 60 (by decide +kernel) (by decide +kernel), tb_mem 1190 (by decide +kernel) (by decide +kernel), by decide +kernel, by decide +kernel, by decide +kernel, by decide⟩
theorem m_X8_tipped : MV yX8_tipped cX8_tipped 5 (some (FieldType.int)) 1 := ⟨tb_mem 1196 (by decide +kernel) (by decide +kernel), tb_mem 1197 (by decide +kernel) (by decide +kernel), tb_mem 60 (by decide +kernel) (by decide +kernel), tb_mem 1198 (by decide +kernel) (by decide +kernel), by decide +kernel, by decide +kernel, by decide +kernel, by decide⟩
theorem m_X8_offBy : MV yX8_offBy cX8_offBy 10 (some (FieldType.long)) 2 := ⟨tb_mem 1209 (by decide +kernel) (by decide +kernel), tb_mem 41 (by decide +kernel) (by decide +kernel), tb_mem 60 (by decide +kernel) (by decide +kernel), tb_mem 1210 (by decide +kernel) (by decide +kernel), by decide +kernel, by decide +kernel, by decide +kernel, by decide⟩
theorem m_X8_weighed : MV yX8_weighed cX8_weighed 9 (some (FieldType.int)) 2 := ⟨tb_mem 1200 (by decide +kernel) (by decide +kernel), tb_mem 1201 (by decide +kernel) (by decide +kernel), tb_mem 60 (by decide +kernel) (by decide +kernel), tb_mem 1202 (by decide +kernel) (by decide +kernel), by decide +kernel, by decide +kernel, by decide +kernel, by decide⟩
theorem m_X8_fee : MV yX8_fee cX8_fee 2 (some (FieldType.int)) 0 := ⟨tb_mem 1212 (by decide +kernel) (by decide +kernel), tb_mem 1213 (by decide +kernel) (by decide +kernel), tb_mem 60 (by decide +kernel) (by decide +kernel), tb_mem 1214 (by decide +kernel) (by decide +kernel), by decide +kernel, by decide +kernel, by decide +kernel, by decide⟩
theorem m_X8_fine : MV yX8_fine cX8_fine 3 (some (FieldType.int)) 1 := ⟨tb_mem 1216 (by decide +kernel) (by decide +kernel), tb_mem 1217 (by decide +kernel) (by decide +kernel), tb_mem 60 (by decide +kernel) (by decide +kernel), tb_mem 1218 (by decide +kernel) (by decide +kernel), by decide +kernel, by decide +kernel, by decide +kernel, by decide⟩
theorem m_X8_feed : MV yX8_feed cX8_feed 6 (some (FieldType.int)) 3 := ⟨tb_mem 1220 (by decide +kernel) (by decide +kernel), tb_mem 1221 (by decide +kernel) (by decide +kernel), tb_mem 60 (by decide +kernel) (by decide +kernel), tb_mem 1222 (by decide +kernel) (by decide +kernel), by decide +kernel, by decide +kernel, by decide +kernel, by decide⟩
theorem m_X8_trim : MV yX8_trim cX8_trim 2 (some (FieldType.int)) 1 := ⟨tb_mem 1224 (by decide +kernel) (by decide +kernel), tb_mem 1225 (by decide +kernel) (by decide +kernel), tb_mem 60 (by decide +kernel) (by decide +kernel), tb_mem 1226 (by decide +kernel) (by decide +kernel), by decide +kernel, by decide +kernel, by decide +kernel, by decide⟩
theorem m_X8_isLetter : MV yX8_isLetter cX8_isLetter 2 (some (FieldType.boolean)) 1 := ⟨tb_mem 1237 (by decide +kernel) (by decide +kernel), tb_mem 43 (by decide +kernel) (by decide +kernel), tb_mem 60 (by decide +kernel) (by decide +kernel), tb_mem 1238 (by decide +kernel) (by decide +kernel), by decide +kernel, by decide +kernel, by decide +kernel, by decide⟩
theorem m_X8_isFigure : MV yX8_isFigure cX8_isFigure 2 (some (FieldType.boolean)) 1 := ⟨tb_mem 1241 (by decide +kernel) (by decide +kernel), tb_mem 44 (by decide +kernel) (by decide +kernel), tb_mem 60 (by decide +kernel) (by decide +kernel), tb_mem 1242 (by decide +kernel) (by decide +kernel), by decide +kernel, by decide +kernel, by decide +kernel, by decide⟩
theorem m_X8_go : MV yX8_go cX8_go 2 none 0 := ⟨tb_mem 1233 (by decide +kernel) (by decide +kernel), tb_mem 42 (by decide +kernel) (by decide +kernel), tb_mem 60 (by decide +kernel) (by decide +kernel), tb_mem 1234 (by decide +kernel) (by decide +kernel), by decide +kernel, by decide +kernel, by decide +kernel, by decide⟩
theorem m_X8_takesKey : MV yX8_takesKey cX8_takesKey 5 (some (FieldType.boolean)) 0 := ⟨tb_mem 1245 (by decide +kernel) (by decide +kernel), tb_mem 45 (by decide +kernel) (by decide +kernel), tb_mem 60 (by decide +kernel) (by decide +kernel), tb_mem 1246 (by decide +kernel) (by decide +kernel), by decide +kernel, by decide +kernel, by decide +kernel, by decide⟩
theorem m_X8_nameOf : MV yX8_nameOf cX8_nameOf 2 (some (FieldType.int)) 1 := ⟨tb_mem 1257 (by decide +kernel) (by decide +kernel), tb_mem 48 (by decide +kernel) (by decide +kernel), tb_mem 60 (by decide +kernel) (by decide +kernel), tb_mem 1258 (by decide +kernel) (by decide +kernel), by decide +kernel, by decide +kernel, by decide +kernel, by decide⟩
theorem m_X8_rank : MS yX8_rank cX8_rank 1 (some (FieldType.int)) 1 := ⟨tb_mem 1264 (by decide +kernel) (by decide +kernel), tb_mem 60 (by decide +kernel) (by decide +kernel), tb_mem 1265 (by decide +kernel) (by decide +kernel), by decide +kernel, by decide +kernel, by decide +kernel, by decide⟩
theorem m_X8_settle : MV yX8_settle cX8_settle 2 none 1 := ⟨tb_mem 1261 (by decide +kernel) (by decide +kernel), tb_mem 49 (by decide +kernel) (by decide +kernel), tb_mem 60 (by decide +kernel) (by decide +kernel), tb_mem 1262 (by decide +kernel) (by decide +kernel), by decide +kernel, by decide +kernel, by decide +kernel, by decide⟩
theorem m_X8_signHere : MV yX8_signHere cX8_signHere 1 (some (FieldType.int)) 0 := ⟨tb_mem 1272 (by decide +kernel) (by decide +kernel), tb_mem 51 (by decide +kernel) (by decide +kernel), tb_mem 60 (by decide +kernel) (by decide +kernel), tb_mem 1273 (by decide +kernel) (by decide +kernel), by decide +kernel, by decide +kernel, by decide +kernel, by decide⟩
theorem m_X8_takesPart : MV yX8_takesPart cX8_takesPart 2 (some (FieldType.boolean)) 0 := ⟨tb_mem 1253 (by decide +kernel) (by decide +kernel), tb_mem 47 (by decide +kernel) (by decide +kernel), tb_mem 60 (by decide +kernel) (by decide +kernel), tb_mem 1254 (by decide +kernel) (by decide +kernel), by decide +kernel, by decide +kernel, by decide +kernel, by decide⟩
theorem m_X8_takesE : MV yX8_takesE cX8_takesE 5 (some (FieldType.boolean)) 0 := ⟨tb_mem 1249 (by decide +kernel) (by decide +kernel), tb_mem 46 (by decide +kernel) (by decide +kernel), tb_mem 60 (by decide +kernel) (by decide +kernel), tb_mem 1250 (by decide +kernel) (by decide +kernel), by decide +kernel, by decide +kernel, by decide +kernel, by decide⟩
theorem m_X8_notsOpen : MV yX8_notsOpen cX8_notsOpen 3 (some (FieldType.int)) 0 := ⟨tb_mem 1268 (by decide +kernel) (by decide +kernel), tb_mem 50 (by decide +kernel) (by decide +kernel), tb_mem 60 (by decide +kernel) (by decide +kernel), tb_mem 1269 (by decide +kernel) (by decide +kernel), by decide +kernel, by decide +kernel, by decide +kernel, by decide⟩
theorem m_X8_text : MV yX8_text cX8_text 4 (some (FieldType.int)) 0 := ⟨tb_mem 1228 (by decide +kernel) (by decide +kernel), tb_mem 1229 (by decide +kernel) (by decide +kernel), tb_mem 60 (by decide +kernel) (by decide +kernel), tb_mem 1230 (by decide +kernel) (by decide +kernel), by decide +kernel, by decide +kernel, by decide +kernel, by decide⟩
theorem m_X8_textTold : MV yX8_textTold cX8_textTold 3 (some (FieldType.int)) 2 := ⟨tb_mem 1275 (by decide +kernel) (by decide +kernel), tb_mem 1276 (by decide +kernel) (by decide +kernel), tb_mem 60 (by decide +kernel) (by decide +kernel), tb_mem 1277 (by decide +kernel) (by decide +kernel), by decide +kernel, by decide +kernel, by decide +kernel, by decide⟩
theorem m_X8_counts : MV yX8_counts cX8_counts 3 (some (FieldType.int)) 1 := ⟨tb_mem 1031 (by decide +kernel) (by decide +kernel), tb_mem 21 (by decide +kernel) (by decide +kernel), tb_mem 60 (by decide +kernel) (by decide +kernel), tb_mem 1032 (by decide +kernel) (by decide +kernel), by decide +kernel, by decide +kernel, by decide +kernel, by decide⟩
theorem m_X8_why : MV yX8_why cX8_why 3 (some (FieldType.int)) 1 := ⟨tb_mem 1279 (by decide +kernel) (by decide +kernel), tb_mem 1280 (by decide +kernel) (by decide +kernel), tb_mem 60 (by decide +kernel) (by decide +kernel), tb_mem 1281 (by decide +kernel) (by decide +kernel), by decide +kernel, by decide +kernel, by decide +kernel, by decide⟩
theorem m_X8_two : MS yX8_two cX8_two 3 (some (FieldType.int)) 3 := ⟨tb_mem 1041 (by decide +kernel) (by decide +kernel), tb_mem 60 (by decide +kernel) (by decide +kernel), tb_mem 1042 (by decide +kernel) (by decide +kernel), by decide +kernel, by decide +kernel, by decide +kernel, by decide⟩
theorem m_X8_worksOut : MV yX8_worksOut cX8_worksOut 6 (some (FieldType.int)) 1 := ⟨tb_mem 1038 (by decide +kernel) (by decide +kernel), tb_mem 22 (by decide +kernel) (by decide +kernel), tb_mem 60 (by decide +kernel) (by decide +kernel), tb_mem 1039 (by decide +kernel) (by decide +kernel), by decide +kernel, by decide +kernel, by decide +kernel, by decide⟩
theorem m_X8_isSheet : MS yX8_isSheet cX8_isSheet 1 (some (FieldType.boolean)) 1 := ⟨tb_mem 1204 (by decide +kernel) (by decide +kernel), tb_mem 60 (by decide +kernel) (by decide +kernel), tb_mem 1205 (by decide +kernel) (by decide +kernel), by decide +kernel, by decide +kernel, by decide +kernel, by decide⟩
theorem m_X8_isSlot : MS yX8_isSlot cX8_isSlot 1 (some (FieldType.boolean)) 1 := ⟨tb_mem 1311 (by decide +kernel) (by decide +kernel), tb_mem 60 (by decide +kernel) (by decide +kernel), tb_mem 1312 (by decide +kernel) (by decide +kernel), by decide +kernel, by decide +kernel, by decide +kernel, by decide⟩
theorem m_X8_sheet : MV yX8_sheet cX8_sheet 5 (some (FieldType.int)) 3 := ⟨tb_mem 1283 (by decide +kernel) (by decide +kernel), tb_mem 1284 (by decide +kernel) (by decide +kernel), tb_mem 60 (by decide +kernel) (by decide +kernel), tb_mem 1285 (by decide +kernel) (by decide +kernel), by decide +kernel, by decide +kernel, by decide +kernel, by decide⟩
theorem m_X8_mark : MV yX8_mark cX8_mark 4 (some (FieldType.int)) 3 := ⟨tb_mem 1288 (by decide +kernel) (by decide +kernel), tb_mem 1289 (by decide +kernel) (by decide +kernel), tb_mem 60 (by decide +kernel) (by decide +kernel), tb_mem 1290 (by decide +kernel) (by decide +kernel), by decide +kernel, by decide +kernel, by decide +kernel, by decide⟩
theorem m_X8_pour : MV yX8_pour cX8_pour 6 (some (FieldType.int)) 1 := ⟨tb_mem 1295 (by decide +kernel) (by decide +kernel), tb_mem 1296 (by decide +kernel) (by decide +kernel), tb_mem 60 (by decide +kernel) (by decide +kernel), tb_mem 1297 (by decide +kernel) (by decide +kernel), by decide +kernel, by decide +kernel, by decide +kernel, by decide⟩
theorem m_X8_reads : MV yX8_reads cX8_reads 4 (some (FieldType.int)) 1 := ⟨tb_mem 1299 (by decide +kernel) (by decide +kernel), tb_mem 1300 (by decide +kernel) (by decide +kernel), tb_mem 60 (by decide +kernel) (by decide +kernel), tb_mem 1301 (by decide +kernel) (by decide +kernel), by decide +kernel, by decide +kernel, by decide +kernel, by decide⟩
theorem m_X8_copy : MV yX8_copy cX8_copy 7 (some (FieldType.int)) 5 := ⟨tb_mem 1303 (by decide +kernel) (by decide +kernel), tb_mem 1304 (by decide +kernel) (by decide +kernel), tb_mem 60 (by decide +kernel) (by decide +kernel), tb_mem 1305 (by decide +kernel) (by decide +kernel), by decide +kernel, by decide +kernel, by decide +kernel, by decide⟩
theorem m_X8_lay : MV yX8_lay cX8_lay 6 (some (FieldType.int)) 3 := ⟨tb_mem 1307 (by decide +kernel) (by decide +kernel), tb_mem 1308 (by decide +kernel) (by decide +kernel), tb_mem 60 (by decide +kernel) (by decide +kernel), tb_mem 1309 (by decide +kernel) (by decide +kernel), by decide +kernel, by decide +kernel, by decide +kernel, by decide⟩
theorem m_X8_ask : MV yX8_ask cX8_ask 3 (some (FieldType.int)) 2 := ⟨tb_mem 1314 (by decide +kernel) (by decide +kernel), tb_mem 1315 (by decide +kernel) (by decide +kernel), tb_mem 60 (by decide +kernel) (by decide +kernel), tb_mem 1316 (by decide +kernel) (by decide +kernel), by decide +kernel, by decide +kernel, by decide +kernel, by decide⟩
theorem m_X8_item : MV yX8_item cX8_item 4 (some (FieldType.int)) 2 := ⟨tb_mem 1318 (by decide +kernel) (by decide +kernel), tb_mem 1319 (by decide +kernel) (by decide +kernel), tb_mem 60 (by decide +kernel) (by decide +kernel), tb_mem 1320 (by decide +kernel) (by decide +kernel), by decide +kernel, by decide +kernel, by decide +kernel, by decide⟩
theorem m_X8_rest : MV yX8_rest cX8_rest 3 (some (FieldType.int)) 2 := ⟨tb_mem 1322 (by decide +kernel) (by decide +kernel), tb_mem 1323 (by decide +kernel) (by decide +kernel), tb_mem 60 (by decide +kernel) (by decide +kernel), tb_mem 1324 (by decide +kernel) (by decide +kernel), by decide +kernel, by decide +kernel, by decide +kernel, by decide⟩
theorem m_X8_tell : MV yX8_tell cX8_tell 2 (some (FieldType.int)) 1 := ⟨tb_mem 1327 (by decide +kernel) (by decide +kernel), tb_mem 1328 (by decide +kernel) (by decide +kernel), tb_mem 60 (by decide +kernel) (by decide +kernel), tb_mem 1329 (by decide +kernel) (by decide +kernel), by decide +kernel, by decide +kernel, by decide +kernel, by decide⟩
theorem m_X8_check : MV yX8_check cX8_check 7 (some (FieldType.int)) 1 := ⟨tb_mem 1331 (by decide +kernel) (by decide +kernel), tb_mem 1332 (by decide +kernel) (by decide +kernel), tb_mem 60 (by decide +kernel) (by decide +kernel), tb_mem 1333 (by decide +kernel) (by decide +kernel), by decide +kernel, by decide +kernel, by decide +kernel, by decide⟩
theorem m_X8_keep : MV yX8_keep cX8_keep 1 (some (FieldType.int)) 0 := ⟨tb_mem 1338 (by decide +kernel) (by decide +kernel), tb_mem 1339 (by decide +kernel) (by decide +kernel), tb_mem 60 (by decide +kernel) (by decide +kernel), tb_mem 1340 (by decide +kernel) (by decide +kernel), by decide +kernel, by decide +kernel, by decide +kernel, by decide⟩
theorem m_X8_back : MV yX8_back cX8_back 1 (some (FieldType.int)) 0 := ⟨tb_mem 1342 (by decide +kernel) (by decide +kernel), tb_mem 1343 (by decide +kernel) (by decide +kernel), tb_mem 60 (by decide +kernel) (by decide +kernel), tb_mem 1344 (by decide +kernel) (by decide +kernel), by decide +kernel, by decide +kernel, by decide +kernel, by decide⟩
theorem m_X8_count : MV yX8_count cX8_count 2 (some (FieldType.int)) 1 := ⟨tb_mem 1346 (by decide +kernel) (by decide +kernel), tb_mem 1347 (by decide +kernel) (by decide +kernel), tb_mem 60 (by decide +kernel) (by decide +kernel), tb_mem 1348 (by decide +kernel) (by decide +kernel), by decide +kernel, by decide +kernel, by decide +kernel, by decide⟩
theorem m_J11_isValidCodePoint_9a6ad : MS yJ11_isValidCodePoint_9a6ad cJ11_isValidCodePoint_9a6ad 2 (some (FieldType.boolean)) 1 := ⟨tb_mem 748 (by decide +kernel) (by decide +kernel), tb_mem 69 (by decide +kernel) (by decide +kernel), tb_mem 749 (by decide +kernel) (by decide +kernel), by decide +kernel, by decide +kernel, by decide +kernel, by decide⟩
theorem m_J11_highSurrogate_5068e : MS yJ11_highSurrogate_5068e cJ11_highSurrogate_5068e 1 (some (FieldType.char)) 1 := ⟨tb_mem 751 (by decide +kernel) (by decide +kernel), tb_mem 69 (by decide +kernel) (by decide +kernel), tb_mem 752 (by decide +kernel) (by decide +kernel), by decide +kernel, by decide +kernel, by decide +kernel, by decide⟩
theorem m_J11_lowSurrogate_5068e : MS yJ11_lowSurrogate_5068e cJ11_lowSurrogate_5068e 1 (some (FieldType.char)) 1 := ⟨tb_mem 755 (by decide +kernel) (by decide +kernel), tb_mem 69 (by decide +kernel) (by decide +kernel), tb_mem 756 (by decide +kernel) (by decide +kernel), by decide +kernel, by decide +kernel, by decide +kernel, by decide⟩
theorem m_J6_bitCount_0f7a4 : MS yJ6_bitCount_0f7a4 cJ6_bitCount_0f7a4 1 (some (FieldType.int)) 1 := ⟨tb_mem 327 (by decide +kernel) (by decide +kernel), tb_mem 61 (by decide +kernel) (by decide +kernel), tb_mem 328 (by decide +kernel) (by decide +kernel), by decide +kernel, by decide +kernel, by decide +kernel, by decide⟩
theorem m_J9_floorMod_7cf53 : MS yJ9_floorMod_7cf53 cJ9_floorMod_7cf53 3 (some (FieldType.int)) 2 := ⟨tb_mem 380 (by decide +kernel) (by decide +kernel), tb_mem 62 (by decide +kernel) (by decide +kernel), tb_mem 381 (by decide +kernel) (by decide +kernel), by decide +kernel, by decide +kernel, by decide +kernel, by decide⟩
theorem m_J9_abs_0f7a4 : MS yJ9_abs_0f7a4 cJ9_abs_0f7a4 1 (some (FieldType.int)) 1 := ⟨tb_mem 565 (by decide +kernel) (by decide +kernel), tb_mem 62 (by decide +kernel) (by decide +kernel), tb_mem 566 (by decide +kernel) (by decide +kernel), by decide +kernel, by decide +kernel, by decide +kernel, by decide⟩
theorem m_J9_max_7cf53 : MS yJ9_max_7cf53 cJ9_max_7cf53 2 (some (FieldType.int)) 2 := ⟨tb_mem 357 (by decide +kernel) (by decide +kernel), tb_mem 62 (by decide +kernel) (by decide +kernel), tb_mem 358 (by decide +kernel) (by decide +kernel), by decide +kernel, by decide +kernel, by decide +kernel, by decide⟩
theorem m_J9_min_7cf53 : MS yJ9_min_7cf53 cJ9_min_7cf53 2 (some (FieldType.int)) 2 := ⟨tb_mem 354 (by decide +kernel) (by decide +kernel), tb_mem 62 (by decide +kernel) (by decide +kernel), tb_mem 355 (by decide +kernel) (by decide +kernel), by decide +kernel, by decide +kernel, by decide +kernel, by decide⟩
theorem m_J0_length_8abf5 : MV yJ0_length_8abf5 cJ0_length_8abf5 1 (some (FieldType.int)) 0 := ⟨tb_mem 622 (by decide +kernel) (by decide +kernel), tb_mem 623 (by decide +kernel) (by decide +kernel), tb_mem 65 (by decide +kernel) (by decide +kernel), tb_mem 624 (by decide +kernel) (by decide +kernel), by decide +kernel, by decide +kernel, by decide +kernel, by decide⟩
theorem m_J0_charAt_5068e : MV yJ0_charAt_5068e cJ0_charAt_5068e 2 (some (FieldType.char)) 1 := ⟨tb_mem 632 (by decide +kernel) (by decide +kernel), tb_mem 633 (by decide +kernel) (by decide +kernel), tb_mem 65 (by decide +kernel) (by decide +kernel), tb_mem 634 (by decide +kernel) (by decide +kernel), by decide +kernel, by decide +kernel, by decide +kernel, by decide⟩
theorem m_J0_indexOf_0f7a4 : MV yJ0_indexOf_0f7a4 cJ0_indexOf_0f7a4 2 (some (FieldType.int)) 1 := ⟨tb_mem 704 (by decide +kernel) (by decide +kernel), tb_mem 705 (by decide +kernel) (by decide +kernel), tb_mem 65 (by decide +kernel) (by decide +kernel), tb_mem 706 (by decide +kernel) (by decide +kernel), by decide +kernel, by decide +kernel, by decide +kernel, by decide⟩
theorem m_J0_indexOf_7cf53 : MV yJ0_indexOf_7cf53 cJ0_indexOf_7cf53 3 (some (FieldType.int)) 2 := ⟨tb_mem 708 (by decide +kernel) (by decide +kernel), tb_mem 709 (by decide +kernel) (by decide +kernel), tb_mem 65 (by decide +kernel) (by decide +kernel), tb_mem 710 (by decide +kernel) (by decide +kernel), by decide +kernel, by decide +kernel, by decide +kernel, by decide⟩
theorem m_J0_coder_7d493 : MV yJ0_coder_7d493 cJ0_coder_7d493 1 (some (FieldType.byte)) 0 := ⟨tb_mem 626 (by decide +kernel) (by decide +kernel), tb_mem 627 (by decide +kernel) (by decide +kernel), tb_mem 65 (by decide +kernel) (by decide +kernel), tb_mem 628 (by decide +kernel) (by decide +kernel), by decide +kernel, by decide +kernel, by decide +kernel, by decide⟩
theorem m_J0_isLatin1_aae02 : MV yJ0_isLatin1_aae02 cJ0_isLatin1_aae02 1 (some (FieldType.boolean)) 0 := ⟨tb_mem 636 (by decide +kernel) (by decide +kernel), tb_mem 637 (by decide +kernel) (by decide +kernel), tb_mem 65 (by decide +kernel) (by decide +kernel), tb_mem 638 (by decide +kernel) (by decide +kernel), by decide +kernel, by decide +kernel, by decide +kernel, by decide⟩
theorem m_J0_checkIndex_df160 : MS yJ0_checkIndex_df160 cJ0_checkIndex_df160 2 none 2 := ⟨tb_mem 643 (by decide +kernel) (by decide +kernel), tb_mem 65 (by decide +kernel) (by decide +kernel), tb_mem 644 (by decide +kernel) (by decide +kernel), by decide +kernel, by decide +kernel, by decide +kernel, by decide⟩
theorem m_J0_checkBoundsBeginEnd_23922 : MS yJ0_checkBoundsBeginEnd_23922 cJ0_checkBoundsBeginEnd_23922 3 none 3 := ⟨tb_mem 736 (by decide +kernel) (by decide +kernel), tb_mem 65 (by decide +kernel) (by decide +kernel), tb_mem 737 (by decide +kernel) (by decide +kernel), by decide +kernel, by decide +kernel, by decide +kernel, by decide⟩
theorem m_J1_charAt_3b067 : MS yJ1_charAt_3b067 cJ1_charAt_3b067 2 (some (FieldType.char)) 2 := ⟨tb_mem 640 (by decide +kernel) (by decide +kernel), tb_mem 66 (by decide +kernel) (by decide +kernel), tb_mem 641 (by decide +kernel) (by decide +kernel), by decide +kernel, by decide +kernel, by decide +kernel, by decide⟩
theorem m_J1_canEncode_9a6ad : MS yJ1_canEncode_9a6ad cJ1_canEncode_9a6ad 1 (some (FieldType.boolean)) 1 := ⟨tb_mem 716 (by decide +kernel) (by decide +kernel), tb_mem 66 (by decide +kernel) (by decide +kernel), tb_mem 717 (by decide +kernel) (by decide +kernel), by decide +kernel, by decide +kernel, by decide +kernel, by decide⟩
theorem m_J1_indexOf_4cfef : MS yJ1_indexOf_4cfef cJ1_indexOf_4cfef 4 (some (FieldType.int)) 4 := ⟨tb_mem 713 (by decide +kernel) (by decide +kernel), tb_mem 66 (by decide +kernel) (by decide +kernel), tb_mem 714 (by decide +kernel) (by decide +kernel), by decide +kernel, by decide +kernel, by decide +kernel, by decide⟩
theorem m_J1_indexOfChar_4cfef : MS yJ1_indexOfChar_4cfef cJ1_indexOfChar_4cfef 6 (some (FieldType.int)) 4 := ⟨tb_mem 721 (by decide +kernel) (by decide +kernel), tb_mem 66 (by decide +kernel) (by decide +kernel), tb_mem 722 (by decide +kernel) (by decide +kernel), by decide +kernel, by decide +kernel, by decide +kernel, by decide⟩
theorem m_J2_getChar_3b067 : MS yJ2_getChar_3b067 cJ2_getChar_3b067 2 (some (FieldType.char)) 2 := ⟨tb_mem 661 (by decide +kernel) (by decide +kernel), tb_mem 68 (by decide +kernel) (by decide +kernel), tb_mem 662 (by decide +kernel) (by decide +kernel), by decide +kernel, by decide +kernel, by decide +kernel, by decide⟩
theorem m_J2_length_9d52b : MS yJ2_length_9d52b cJ2_length_9d52b 1 (some (FieldType.int)) 1 := ⟨tb_mem 657 (by decide +kernel) (by decide +kernel), tb_mem 68 (by decide +kernel) (by decide +kernel), tb_mem 658 (by decide +kernel) (by decide +kernel), by decide +kernel, by decide +kernel, by decide +kernel, by decide⟩
theorem m_J2_indexOf_4cfef : MS yJ2_indexOf_4cfef cJ2_indexOf_4cfef 4 (some (FieldType.int)) 4 := ⟨tb_mem 724 (by decide +kernel) (by decide +kernel), tb_mem 68 (by decide +kernel) (by decide +kernel), tb_mem 725 (by decide +kernel) (by decide +kernel), by decide +kernel, by decide +kernel, by decide +kernel, by decide⟩
theorem m_J2_indexOfChar_4cfef : MS yJ2_indexOfChar_4cfef cJ2_indexOfChar_4cfef 4 (some (FieldType.int)) 4 := ⟨tb_mem 730 (by decide +kernel) (by decide +kernel), tb_mem 68 (by decide +kernel) (by decide +kernel), tb_mem 731 (by decide +kernel) (by decide +kernel), by decide +kernel, by decide +kernel, by decide +kernel, by decide⟩
theorem m_J2_indexOfCharUnsafe_4cfef : MS yJ2_indexOfCharUnsafe_4cfef cJ2_indexOfCharUnsafe_4cfef 5 (some (FieldType.int)) 4 := ⟨tb_mem 742 (by decide +kernel) (by decide +kernel), tb_mem 68 (by decide +kernel) (by decide +kernel), tb_mem 743 (by decide +kernel) (by decide +kernel), by decide +kernel, by decide +kernel, by decide +kernel, by decide⟩
theorem m_J2_indexOfSupplementary_4cfef : MS yJ2_indexOfSupplementary_4cfef cJ2_indexOfSupplementary_4cfef 7 (some (FieldType.int)) 4 := ⟨tb_mem 745 (by decide +kernel) (by decide +kernel), tb_mem 68 (by decide +kernel) (by decide +kernel), tb_mem 746 (by decide +kernel) (by decide +kernel), by decide +kernel, by decide +kernel, by decide +kernel, by decide⟩
theorem m_J2_charAt_3b067 : MS yJ2_charAt_3b067 cJ2_charAt_3b067 2 (some (FieldType.char)) 2 := ⟨tb_mem 651 (by decide +kernel) (by decide +kernel), tb_mem 68 (by decide +kernel) (by decide +kernel), tb_mem 652 (by decide +kernel) (by decide +kernel), by decide +kernel, by decide +kernel, by decide +kernel, by decide⟩
theorem m_J2_checkIndex_2214a : MS yJ2_checkIndex_2214a cJ2_checkIndex_2214a 2 none 2 := ⟨tb_mem 654 (by decide +kernel) (by decide +kernel), tb_mem 68 (by decide +kernel) (by decide +kernel), tb_mem 655 (by decide +kernel) (by decide +kernel), by decide +kernel, by decide +kernel, by decide +kernel, by decide⟩
theorem m_J2_checkBoundsBeginEnd_d044e : MS yJ2_checkBoundsBeginEnd_d044e cJ2_checkBoundsBeginEnd_d044e 3 none 3 := ⟨tb_mem 733 (by decide +kernel) (by decide +kernel), tb_mem 68 (by decide +kernel) (by decide +kernel), tb_mem 734 (by decide +kernel) (by decide +kernel), by decide +kernel, by decide +kernel, by decide +kernel, by decide⟩
theorem m_J3_checkIndex_8e157 : MS yJ3_checkIndex_8e157 cJ3_checkIndex_8e157 3 (some (FieldType.int)) 3 := ⟨tb_mem 648 (by decide +kernel) (by decide +kernel), tb_mem 67 (by decide +kernel) (by decide +kernel), tb_mem 649 (by decide +kernel) (by decide +kernel), by decide +kernel, by decide +kernel, by decide +kernel, by decide⟩
theorem m_J3_checkFromToIndex_8c36e : MS yJ3_checkFromToIndex_8c36e cJ3_checkFromToIndex_8c36e 4 (some (FieldType.int)) 4 := ⟨tb_mem 739 (by decide +kernel) (by decide +kernel), tb_mem 67 (by decide +kernel) (by decide +kernel), tb_mem 740 (by decide +kernel) (by decide +kernel), by decide +kernel, by decide +kernel, by decide +kernel, by decide⟩
theorem ob_i : Cond.instanceMethod objectInit ∈ tb := tb_mem 76 (by decide +kernel) (by decide +kernel)
theorem ob_c : Cond.code objectInit ⟨#[0xb1]⟩ 1 none ∈ tb := tb_mem 77 (by decide +kernel) (by decide +kernel)
theorem ac_n : Cond.native arraycopyName ∈ tb := tb_mem 521 (by decide +kernel) (by decide +kernel)
theorem ac_s : Cond.static arraycopyName ∈ tb := tb_mem 520 (by decide +kernel) (by decide +kernel)
theorem ac_i : Cond.initialized "java/lang/System" ∈ tb := tb_mem 64 (by decide +kernel) (by decide +kernel)
theorem ka_int : Cond.arrayClass .int ∈ tb := tb_mem 107 (by decide +kernel) (by decide +kernel)
theorem ka_byte : Cond.arrayClass .byte ∈ tb := tb_mem 788 (by decide +kernel) (by decide +kernel)
theorem ka_char : Cond.arrayClass .char ∈ tb := tb_mem 990 (by decide +kernel) (by decide +kernel)
theorem ka_boolean : Cond.arrayClass .boolean ∈ tb := tb_mem 991 (by decide +kernel) (by decide +kernel)
theorem ml_X7_1 : Cond.methodLink RX7 1 objectInit ∈ tb := tb_mem 75 (by decide +kernel) (by decide +kernel)
theorem ml_X7_9 : Cond.methodLink RX7 9 yX3_init ∈ tb := tb_mem 80 (by decide +kernel) (by decide +kernel)
theorem ml_X7_18 : Cond.methodLink RX7 18 yX6_init ∈ tb := tb_mem 117 (by decide +kernel) (by decide +kernel)
theorem ml_X7_25 : Cond.methodLink RX7 25 yX0_init ∈ tb := tb_mem 149 (by decide +kernel) (by decide +kernel)
theorem ml_X7_44 : Cond.methodLink RX7 44 yX4_init ∈ tb := tb_mem 222 (by decide +kernel) (by decide +kernel)
theorem ml_X7_51 : Cond.methodLink RX7 51 yX5_init ∈ tb := tb_mem 242 (by decide +kernel) (by decide +kernel)
theorem ml_X7_56 : Cond.methodLink RX7 56 yX7_within ∈ tb := tb_mem 301 (by decide +kernel) (by decide +kernel)
theorem ml_X7_66 : Cond.methodLink RX7 66 yX0_add ∈ tb := tb_mem 306 (by decide +kernel) (by decide +kernel)
theorem ml_X7_70 : Cond.methodLink RX7 70 yX0_has ∈ tb := tb_mem 314 (by decide +kernel) (by decide +kernel)
theorem ml_X7_89 : Cond.methodLink RX7 89 yX0_believes ∈ tb := tb_mem 318 (by decide +kernel) (by decide +kernel)
theorem ml_X7_93 : Cond.methodLink RX7 93 yX0_verdict ∈ tb := tb_mem 370 (by decide +kernel) (by decide +kernel)
theorem ml_X7_96 : Cond.methodLink RX7 96 yX0_partner ∈ tb := tb_mem 375 (by decide +kernel) (by decide +kernel)
theorem ml_X7_99 : Cond.methodLink RX7 99 yX1_worth ∈ tb := tb_mem 382 (by decide +kernel) (by decide +kernel)
theorem ml_X7_105 : Cond.methodLink RX7 105 yX1_passes ∈ tb := tb_mem 395 (by decide +kernel) (by decide +kernel)
theorem ml_X7_110 : Cond.methodLink RX7 110 yJ6_bitCount_0f7a4 ∈ tb := tb_mem 409 (by decide +kernel) (by decide +kernel)
theorem ml_X7_115 : Cond.methodLink RX7 115 yX1_isOf ∈ tb := tb_mem 414 (by decide +kernel) (by decide +kernel)
theorem ml_X7_120 : Cond.methodLink RX7 120 yX7_exchange ∈ tb := tb_mem 425 (by decide +kernel) (by decide +kernel)
theorem ml_X7_124 : Cond.methodLink RX7 124 yX7_isFact ∈ tb := tb_mem 436 (by decide +kernel) (by decide +kernel)
theorem ml_X7_139 : Cond.methodLink RX7 139 yJ9_min_7cf53 ∈ tb := tb_mem 353 (by decide +kernel) (by decide +kernel)
theorem ml_X7_144 : Cond.methodLink RX7 144 yX0_addByLot ∈ tb := tb_mem 447 (by decide +kernel) (by decide +kernel)
theorem ml_X7_150 : Cond.methodLink RX7 150 yX0_comesOut ∈ tb := tb_mem 465 (by decide +kernel) (by decide +kernel)
theorem ml_X7_156 : Cond.methodLink RX7 156 yX0_pass ∈ tb := tb_mem 473 (by decide +kernel) (by decide +kernel)
theorem ml_X7_159 : Cond.methodLink RX7 159 yX0_common ∈ tb := tb_mem 491 (by decide +kernel) (by decide +kernel)
theorem ml_X7_163 : Cond.methodLink RX7 163 yX0_votes ∈ tb := tb_mem 495 (by decide +kernel) (by decide +kernel)
theorem ml_X7_169 : Cond.methodLink RX7 169 yX0_known ∈ tb := tb_mem 499 (by decide +kernel) (by decide +kernel)
theorem ml_X7_172 : Cond.methodLink RX7 172 yX0_any ∈ tb := tb_mem 503 (by decide +kernel) (by decide +kernel)
theorem ml_X7_175 : Cond.methodLink RX7 175 yX7_think ∈ tb := tb_mem 511 (by decide +kernel) (by decide +kernel)
theorem ml_X7_179 : Cond.methodLink RX7 179 yX0_become ∈ tb := tb_mem 515 (by decide +kernel) (by decide +kernel)
theorem ml_X7_183 : Cond.methodLink RX7 183 yX0_anHour ∈ tb := tb_mem 526 (by decide +kernel) (by decide +kernel)
theorem ml_X7_186 : Cond.methodLink RX7 186 yX7_isSheet ∈ tb := tb_mem 547 (by decide +kernel) (by decide +kernel)
theorem ml_X7_194 : Cond.methodLink RX7 194 yX7_apart ∈ tb := tb_mem 552 (by decide +kernel) (by decide +kernel)
theorem ml_X7_201 : Cond.methodLink RX7 201 yX3_gives ∈ tb := tb_mem 571 (by decide +kernel) (by decide +kernel)
theorem ml_X7_208 : Cond.methodLink RX7 208 yX6_takes ∈ tb := tb_mem 580 (by decide +kernel) (by decide +kernel)
theorem ml_X7_212 : Cond.methodLink RX7 212 yX6_faultOfText ∈ tb := tb_mem 592 (by decide +kernel) (by decide +kernel)
theorem ml_X7_218 : Cond.methodLink RX7 218 yX3_at ∈ tb := tb_mem 781 (by decide +kernel) (by decide +kernel)
theorem ml_X7_226 : Cond.methodLink RX7 226 yX2_become ∈ tb := tb_mem 782 (by decide +kernel) (by decide +kernel)
theorem ml_X7_234 : Cond.methodLink RX7 234 yX7_held ∈ tb := tb_mem 787 (by decide +kernel) (by decide +kernel)
theorem ml_X7_242 : Cond.methodLink RX7 242 yX4_begin ∈ tb := tb_mem 802 (by decide +kernel) (by decide +kernel)
theorem ml_X7_246 : Cond.methodLink RX7 246 yX4_has ∈ tb := tb_mem 811 (by decide +kernel) (by decide +kernel)
theorem ml_X7_253 : Cond.methodLink RX7 253 yX4_hasNumber ∈ tb := tb_mem 555 (by decide +kernel) (by decide +kernel)
theorem ml_X7_256 : Cond.methodLink RX7 256 yX4_hasStretch ∈ tb := tb_mem 827 (by decide +kernel) (by decide +kernel)
theorem ml_X7_259 : Cond.methodLink RX7 259 arraycopyName ∈ tb := tb_mem 831 (by decide +kernel) (by decide +kernel)
theorem ml_X7_265 : Cond.methodLink RX7 265 yX7_isSlot ∈ tb := tb_mem 836 (by decide +kernel) (by decide +kernel)
theorem ml_X7_279 : Cond.methodLink RX7 279 yX4_become ∈ tb := tb_mem 839 (by decide +kernel) (by decide +kernel)
theorem ml_X7_293 : Cond.methodLink RX7 293 yX7_isSaid ∈ tb := tb_mem 865 (by decide +kernel) (by decide +kernel)
theorem ml_X7_296 : Cond.methodLink RX7 296 yJ9_abs_0f7a4 ∈ tb := tb_mem 564 (by decide +kernel) (by decide +kernel)
theorem ml_X7_299 : Cond.methodLink RX7 299 yJ9_max_7cf53 ∈ tb := tb_mem 356 (by decide +kernel) (by decide +kernel)
theorem ml_X0_3 : Cond.methodLink RX0 3 objectInit ∈ tb := tb_mem 152 (by decide +kernel) (by decide +kernel)
theorem ml_X0_47 : Cond.methodLink RX0 47 arraycopyName ∈ tb := tb_mem 519 (by decide +kernel) (by decide +kernel)
theorem ml_X0_68 : Cond.methodLink RX0 68 yX0_draw ∈ tb := tb_mem 451 (by decide +kernel) (by decide +kernel)
theorem ml_X0_72 : Cond.methodLink RX0 72 yX0_add ∈ tb := tb_mem 456 (by decide +kernel) (by decide +kernel)
theorem ml_X0_77 : Cond.methodLink RX0 77 yJ9_floorMod_7cf53 ∈ tb := tb_mem 379 (by decide +kernel) (by decide +kernel)
theorem ml_X0_83 : Cond.methodLink RX0 83 yX0_anHour ∈ tb := tb_mem 477 (by decide +kernel) (by decide +kernel)
theorem ml_X0_87 : Cond.methodLink RX0 87 yX0_partner ∈ tb := tb_mem 481 (by decide +kernel) (by decide +kernel)
theorem ml_X0_90 : Cond.methodLink RX0 90 yX0_palms ∈ tb := tb_mem 482 (by decide +kernel) (by decide +kernel)
theorem ml_X0_94 : Cond.methodLink RX0 94 yX1_passes ∈ tb := tb_mem 486 (by decide +kernel) (by decide +kernel)
theorem ml_X0_100 : Cond.methodLink RX0 100 yX0_trusts ∈ tb := tb_mem 322 (by decide +kernel) (by decide +kernel)
theorem ml_X0_103 : Cond.methodLink RX0 103 yX1_belief ∈ tb := tb_mem 359 (by decide +kernel) (by decide +kernel)
theorem ml_X0_106 : Cond.methodLink RX0 106 yJ6_bitCount_0f7a4 ∈ tb := tb_mem 326 (by decide +kernel) (by decide +kernel)
theorem ml_X0_111 : Cond.methodLink RX0 111 yX3_gives ∈ tb := tb_mem 332 (by decide +kernel) (by decide +kernel)
theorem ml_X0_120 : Cond.methodLink RX0 120 yX0_believes ∈ tb := tb_mem 374 (by decide +kernel) (by decide +kernel)
theorem ml_X1_9 : Cond.methodLink RX1 9 yX1_above ∈ tb := tb_mem 417 (by decide +kernel) (by decide +kernel)
theorem ml_X1_15 : Cond.methodLink RX1 15 yX1_doubtingWorth ∈ tb := tb_mem 385 (by decide +kernel) (by decide +kernel)
theorem ml_X1_18 : Cond.methodLink RX1 18 yX1_swayedWorth ∈ tb := tb_mem 388 (by decide +kernel) (by decide +kernel)
theorem ml_X1_21 : Cond.methodLink RX1 21 yX1_doubtingBelief ∈ tb := tb_mem 362 (by decide +kernel) (by decide +kernel)
theorem ml_X1_25 : Cond.methodLink RX1 25 yX1_swayedBelief ∈ tb := tb_mem 366 (by decide +kernel) (by decide +kernel)
theorem ml_X1_28 : Cond.methodLink RX1 28 yJ9_max_7cf53 ∈ tb := tb_mem 365 (by decide +kernel) (by decide +kernel)
theorem ml_X1_46 : Cond.methodLink RX1 46 yX1_greatest ∈ tb := tb_mem 398 (by decide +kernel) (by decide +kernel)
theorem ml_X1_49 : Cond.methodLink RX1 49 yX0_swaying ∈ tb := tb_mem 401 (by decide +kernel) (by decide +kernel)
theorem ml_X1_53 : Cond.methodLink RX1 53 yX1_least ∈ tb := tb_mem 405 (by decide +kernel) (by decide +kernel)
theorem ml_X2_3 : Cond.methodLink RX2 3 objectInit ∈ tb := tb_mem 90 (by decide +kernel) (by decide +kernel)
theorem ml_X2_25 : Cond.methodLink RX2 25 arraycopyName ∈ tb := tb_mem 786 (by decide +kernel) (by decide +kernel)
theorem ml_X2_31 : Cond.methodLink RX2 31 yX2_add ∈ tb := tb_mem 689 (by decide +kernel) (by decide +kernel)
theorem ml_X2_35 : Cond.methodLink RX2 35 yX2_named ∈ tb := tb_mem 344 (by decide +kernel) (by decide +kernel)
theorem ml_X2_39 : Cond.methodLink RX2 39 yX2_joined ∈ tb := tb_mem 347 (by decide +kernel) (by decide +kernel)
theorem ml_X3_3 : Cond.methodLink RX3 3 objectInit ∈ tb := tb_mem 83 (by decide +kernel) (by decide +kernel)
theorem ml_X3_21 : Cond.methodLink RX3 21 yX2_init ∈ tb := tb_mem 87 (by decide +kernel) (by decide +kernel)
theorem ml_X3_22 : Cond.methodLink RX3 22 yX3_at ∈ tb := tb_mem 336 (by decide +kernel) (by decide +kernel)
theorem ml_X3_26 : Cond.methodLink RX3 26 yX2_work ∈ tb := tb_mem 340 (by decide +kernel) (by decide +kernel)
theorem ml_X4_3 : Cond.methodLink RX4 3 objectInit ∈ tb := tb_mem 225 (by decide +kernel) (by decide +kernel)
theorem ml_X4_26 : Cond.methodLink RX4 26 arraycopyName ∈ tb := tb_mem 843 (by decide +kernel) (by decide +kernel)
theorem ml_X4_32 : Cond.methodLink RX4 32 yX4_has ∈ tb := tb_mem 559 (by decide +kernel) (by decide +kernel)
theorem ml_X5_3 : Cond.methodLink RX5 3 objectInit ∈ tb := tb_mem 245 (by decide +kernel) (by decide +kernel)
theorem ml_X5_17 : Cond.methodLink RX5 17 yX4_init ∈ tb := tb_mem 247 (by decide +kernel) (by decide +kernel)
theorem ml_X6_3 : Cond.methodLink RX6 3 objectInit ∈ tb := tb_mem 120 (by decide +kernel) (by decide +kernel)
theorem ml_X6_17 : Cond.methodLink RX6 17 yX2_init ∈ tb := tb_mem 122 (by decide +kernel) (by decide +kernel)
theorem ml_X6_32 : Cond.methodLink RX6 32 yX6_step ∈ tb := tb_mem 596 (by decide +kernel) (by decide +kernel)
theorem ml_X6_35 : Cond.methodLink RX6 35 yX6_keyAtHand ∈ tb := tb_mem 607 (by decide +kernel) (by decide +kernel)
theorem ml_X6_42 : Cond.methodLink RX6 42 yX2_begin ∈ tb := tb_mem 669 (by decide +kernel) (by decide +kernel)
theorem ml_X6_46 : Cond.methodLink RX6 46 yX6_level ∈ tb := tb_mem 673 (by decide +kernel) (by decide +kernel)
theorem ml_X6_50 : Cond.methodLink RX6 50 yX6_byteAt ∈ tb := tb_mem 600 (by decide +kernel) (by decide +kernel)
theorem ml_X6_54 : Cond.methodLink RX6 54 yX6_sortOf ∈ tb := tb_mem 604 (by decide +kernel) (by decide +kernel)
theorem ml_X6_61 : Cond.methodLink RX6 61 yX6_wordOf ∈ tb := tb_mem 611 (by decide +kernel) (by decide +kernel)
theorem ml_X6_65 : Cond.methodLink RX6 65 yX6_isWord ∈ tb := tb_mem 617 (by decide +kernel) (by decide +kernel)
theorem ml_X6_69 : Cond.methodLink RX6 69 yJ0_length_8abf5 ∈ tb := tb_mem 621 (by decide +kernel) (by decide +kernel)
theorem ml_X6_73 : Cond.methodLink RX6 73 yJ0_charAt_5068e ∈ tb := tb_mem 631 (by decide +kernel) (by decide +kernel)
theorem ml_X6_99 : Cond.methodLink RX6 99 yJ0_indexOf_0f7a4 ∈ tb := tb_mem 703 (by decide +kernel) (by decide +kernel)
theorem ml_X6_102 : Cond.methodLink RX6 102 yX6_piece ∈ tb := tb_mem 677 (by decide +kernel) (by decide +kernel)
theorem ml_X6_106 : Cond.methodLink RX6 106 yX6_signsOf ∈ tb := tb_mem 773 (by decide +kernel) (by decide +kernel)
theorem ml_X6_109 : Cond.methodLink RX6 109 yX6_isSignOf ∈ tb := tb_mem 763 (by decide +kernel) (by decide +kernel)
theorem ml_X6_112 : Cond.methodLink RX6 112 yX2_addSign ∈ tb := tb_mem 767 (by decide +kernel) (by decide +kernel)
theorem ml_X6_115 : Cond.methodLink RX6 115 yX6_number ∈ tb := tb_mem 681 (by decide +kernel) (by decide +kernel)
theorem ml_X6_119 : Cond.methodLink RX6 119 yX6_name ∈ tb := tb_mem 693 (by decide +kernel) (by decide +kernel)
theorem ml_X6_128 : Cond.methodLink RX6 128 yX2_addNumber ∈ tb := tb_mem 685 (by decide +kernel) (by decide +kernel)
theorem ml_X6_134 : Cond.methodLink RX6 134 yX6_namesOf ∈ tb := tb_mem 697 (by decide +kernel) (by decide +kernel)
theorem ml_X6_137 : Cond.methodLink RX6 137 yX2_addName ∈ tb := tb_mem 758 (by decide +kernel) (by decide +kernel)
theorem ml_L_9 : Cond.methodLink RL 9 yX7_init ∈ tb := tb_mem 72 (by decide +kernel) (by decide +kernel)
theorem ml_L_12 : Cond.methodLink RL 12 yX8_init ∈ tb := tb_mem 883 (by decide +kernel) (by decide +kernel)
theorem ml_L_13 : Cond.methodLink RL 13 yX7_juror ∈ tb := tb_mem 297 (by decide +kernel) (by decide +kernel)
theorem ml_L_17 : Cond.methodLink RL 17 yX8_juror ∈ tb := tb_mem 992 (by decide +kernel) (by decide +kernel)
theorem ml_L_18 : Cond.methodLink RL 18 yX7_told ∈ tb := tb_mem 310 (by decide +kernel) (by decide +kernel)
theorem ml_L_22 : Cond.methodLink RL 22 yX8_told ∈ tb := tb_mem 1009 (by decide +kernel) (by decide +kernel)
theorem ml_L_23 : Cond.methodLink RL 23 yX7_tells ∈ tb := tb_mem 391 (by decide +kernel) (by decide +kernel)
theorem ml_L_26 : Cond.methodLink RL 26 yX8_tells ∈ tb := tb_mem 1058 (by decide +kernel) (by decide +kernel)
theorem ml_L_27 : Cond.methodLink RL 27 yX7_as ∈ tb := tb_mem 410 (by decide +kernel) (by decide +kernel)
theorem ml_L_30 : Cond.methodLink RL 30 yX8_as ∈ tb := tb_mem 1070 (by decide +kernel) (by decide +kernel)
theorem ml_L_31 : Cond.methodLink RL 31 yX7_turns ∈ tb := tb_mem 421 (by decide +kernel) (by decide +kernel)
theorem ml_L_34 : Cond.methodLink RL 34 yX8_turns ∈ tb := tb_mem 1078 (by decide +kernel) (by decide +kernel)
theorem ml_L_35 : Cond.methodLink RL 35 yX7_set ∈ tb := tb_mem 428 (by decide +kernel) (by decide +kernel)
theorem ml_L_38 : Cond.methodLink RL 38 yX8_set ∈ tb := tb_mem 1086 (by decide +kernel) (by decide +kernel)
theorem ml_L_39 : Cond.methodLink RL 39 yX7_weigh ∈ tb := tb_mem 432 (by decide +kernel) (by decide +kernel)
theorem ml_L_42 : Cond.methodLink RL 42 yX8_weigh ∈ tb := tb_mem 1090 (by decide +kernel) (by decide +kernel)
theorem ml_L_43 : Cond.methodLink RL 43 yX7_rule ∈ tb := tb_mem 439 (by decide +kernel) (by decide +kernel)
theorem ml_L_46 : Cond.methodLink RL 46 yX8_rule ∈ tb := tb_mem 1097 (by decide +kernel) (by decide +kernel)
theorem ml_L_47 : Cond.methodLink RL 47 yX7_deal ∈ tb := tb_mem 443 (by decide +kernel) (by decide +kernel)
theorem ml_L_51 : Cond.methodLink RL 51 yX8_deal ∈ tb := tb_mem 1101 (by decide +kernel) (by decide +kernel)
theorem ml_L_52 : Cond.methodLink RL 52 yX7_seed ∈ tb := tb_mem 457 (by decide +kernel) (by decide +kernel)
theorem ml_L_55 : Cond.methodLink RL 55 yX8_seed ∈ tb := tb_mem 1110 (by decide +kernel) (by decide +kernel)
theorem ml_L_56 : Cond.methodLink RL 56 yX7_out ∈ tb := tb_mem 461 (by decide +kernel) (by decide +kernel)
theorem ml_L_59 : Cond.methodLink RL 59 yX8_out ∈ tb := tb_mem 1114 (by decide +kernel) (by decide +kernel)
theorem ml_L_60 : Cond.methodLink RL 60 yX7_hours ∈ tb := tb_mem 469 (by decide +kernel) (by decide +kernel)
theorem ml_L_63 : Cond.methodLink RL 63 yX8_hours ∈ tb := tb_mem 1122 (by decide +kernel) (by decide +kernel)
theorem ml_L_64 : Cond.methodLink RL 64 yX7_jury ∈ tb := tb_mem 487 (by decide +kernel) (by decide +kernel)
theorem ml_L_67 : Cond.methodLink RL 67 yX8_jury ∈ tb := tb_mem 1138 (by decide +kernel) (by decide +kernel)
theorem ml_L_68 : Cond.methodLink RL 68 yX7_behind ∈ tb := tb_mem 507 (by decide +kernel) (by decide +kernel)
theorem ml_L_71 : Cond.methodLink RL 71 yX8_behind ∈ tb := tb_mem 1158 (by decide +kernel) (by decide +kernel)
theorem ml_L_72 : Cond.methodLink RL 72 yX7_allKnow ∈ tb := tb_mem 522 (by decide +kernel) (by decide +kernel)
theorem ml_L_76 : Cond.methodLink RL 76 yX8_allKnow ∈ tb := tb_mem 1171 (by decide +kernel) (by decide +kernel)
theorem ml_L_77 : Cond.methodLink RL 77 yX7_bestTurn ∈ tb := tb_mem 527 (by decide +kernel) (by decide +kernel)
theorem ml_L_80 : Cond.methodLink RL 80 yX8_bestTurn ∈ tb := tb_mem 1179 (by decide +kernel) (by decide +kernel)
theorem ml_L_81 : Cond.methodLink RL 81 yX7_sure ∈ tb := tb_mem 531 (by decide +kernel) (by decide +kernel)
theorem ml_L_84 : Cond.methodLink RL 84 yX8_sure ∈ tb := tb_mem 1183 (by decide +kernel) (by decide +kernel)
theorem ml_L_85 : Cond.methodLink RL 85 yX7_advocate ∈ tb := tb_mem 535 (by decide +kernel) (by decide +kernel)
theorem ml_L_88 : Cond.methodLink RL 88 yX8_advocate ∈ tb := tb_mem 1187 (by decide +kernel) (by decide +kernel)
theorem ml_L_89 : Cond.methodLink RL 89 yX7_tipped ∈ tb := tb_mem 539 (by decide +kernel) (by decide +kernel)
theorem ml_L_92 : Cond.methodLink RL 92 yX8_tipped ∈ tb := tb_mem 1195 (by decide +kernel) (by decide +kernel)
theorem ml_L_93 : Cond.methodLink RL 93 yX7_weighed ∈ tb := tb_mem 543 (by decide +kernel) (by decide +kernel)
theorem ml_L_96 : Cond.methodLink RL 96 yX8_weighed ∈ tb := tb_mem 1199 (by decide +kernel) (by decide +kernel)
theorem ml_L_97 : Cond.methodLink RL 97 yX7_fee ∈ tb := tb_mem 567 (by decide +kernel) (by decide +kernel)
theorem ml_L_100 : Cond.methodLink RL 100 yX8_fee ∈ tb := tb_mem 1211 (by decide +kernel) (by decide +kernel)
theorem ml_L_101 : Cond.methodLink RL 101 yX7_fine ∈ tb := tb_mem 572 (by decide +kernel) (by decide +kernel)
theorem ml_L_104 : Cond.methodLink RL 104 yX8_fine ∈ tb := tb_mem 1215 (by decide +kernel) (by decide +kernel)
theorem ml_L_105 : Cond.methodLink RL 105 yX7_feed ∈ tb := tb_mem 576 (by decide +kernel) (by decide +kernel)
theorem ml_L_108 : Cond.methodLink RL 108 yX8_feed ∈ tb := tb_mem 1219 (by decide +kernel) (by decide +kernel)
theorem ml_L_109 : Cond.methodLink RL 109 yX7_trim ∈ tb := tb_mem 584 (by decide +kernel) (by decide +kernel)
theorem ml_L_112 : Cond.methodLink RL 112 yX8_trim ∈ tb := tb_mem 1223 (by decide +kernel) (by decide +kernel)
theorem ml_L_113 : Cond.methodLink RL 113 yX7_text ∈ tb := tb_mem 588 (by decide +kernel) (by decide +kernel)
theorem ml_L_116 : Cond.methodLink RL 116 yX8_text ∈ tb := tb_mem 1227 (by decide +kernel) (by decide +kernel)
theorem ml_L_117 : Cond.methodLink RL 117 yX7_textTold ∈ tb := tb_mem 789 (by decide +kernel) (by decide +kernel)
theorem ml_L_120 : Cond.methodLink RL 120 yX8_textTold ∈ tb := tb_mem 1274 (by decide +kernel) (by decide +kernel)
theorem ml_L_121 : Cond.methodLink RL 121 yX7_why ∈ tb := tb_mem 793 (by decide +kernel) (by decide +kernel)
theorem ml_L_124 : Cond.methodLink RL 124 yX8_why ∈ tb := tb_mem 1278 (by decide +kernel) (by decide +kernel)
theorem ml_L_125 : Cond.methodLink RL 125 yX7_sheet ∈ tb := tb_mem 797 (by decide +kernel) (by decide +kernel)
theorem ml_L_128 : Cond.methodLink RL 128 yX8_sheet ∈ tb := tb_mem 1282 (by decide +kernel) (by decide +kernel)
theorem ml_L_129 : Cond.methodLink RL 129 yX7_mark ∈ tb := tb_mem 807 (by decide +kernel) (by decide +kernel)
theorem ml_L_132 : Cond.methodLink RL 132 yX8_mark ∈ tb := tb_mem 1287 (by decide +kernel) (by decide +kernel)
theorem ml_L_133 : Cond.methodLink RL 133 yX7_pour ∈ tb := tb_mem 815 (by decide +kernel) (by decide +kernel)
theorem ml_L_136 : Cond.methodLink RL 136 yX8_pour ∈ tb := tb_mem 1294 (by decide +kernel) (by decide +kernel)
theorem ml_L_137 : Cond.methodLink RL 137 yX7_reads ∈ tb := tb_mem 819 (by decide +kernel) (by decide +kernel)
theorem ml_L_140 : Cond.methodLink RL 140 yX8_reads ∈ tb := tb_mem 1298 (by decide +kernel) (by decide +kernel)
theorem ml_L_141 : Cond.methodLink RL 141 yX7_copy ∈ tb := tb_mem 823 (by decide +kernel) (by decide +kernel)
theorem ml_L_145 : Cond.methodLink RL 145 yX8_copy ∈ tb := tb_mem 1302 (by decide +kernel) (by decide +kernel)
theorem ml_L_146 : Cond.methodLink RL 146 yX7_lay ∈ tb := tb_mem 832 (by decide +kernel) (by decide +kernel)
theorem ml_L_149 : Cond.methodLink RL 149 yX8_lay ∈ tb := tb_mem 1306 (by decide +kernel) (by decide +kernel)
theorem ml_L_150 : Cond.methodLink RL 150 yX7_ask ∈ tb := tb_mem 844 (by decide +kernel) (by decide +kernel)
theorem ml_L_153 : Cond.methodLink RL 153 yX8_ask ∈ tb := tb_mem 1313 (by decide +kernel) (by decide +kernel)
theorem ml_L_154 : Cond.methodLink RL 154 yX7_item ∈ tb := tb_mem 848 (by decide +kernel) (by decide +kernel)
theorem ml_L_157 : Cond.methodLink RL 157 yX8_item ∈ tb := tb_mem 1317 (by decide +kernel) (by decide +kernel)
theorem ml_L_158 : Cond.methodLink RL 158 yX7_rest ∈ tb := tb_mem 852 (by decide +kernel) (by decide +kernel)
theorem ml_L_161 : Cond.methodLink RL 161 yX8_rest ∈ tb := tb_mem 1321 (by decide +kernel) (by decide +kernel)
theorem ml_L_162 : Cond.methodLink RL 162 yX7_tell ∈ tb := tb_mem 857 (by decide +kernel) (by decide +kernel)
theorem ml_L_165 : Cond.methodLink RL 165 yX8_tell ∈ tb := tb_mem 1326 (by decide +kernel) (by decide +kernel)
theorem ml_L_166 : Cond.methodLink RL 166 yX7_check ∈ tb := tb_mem 861 (by decide +kernel) (by decide +kernel)
theorem ml_L_169 : Cond.methodLink RL 169 yX8_check ∈ tb := tb_mem 1330 (by decide +kernel) (by decide +kernel)
theorem ml_L_170 : Cond.methodLink RL 170 yX7_keep ∈ tb := tb_mem 869 (by decide +kernel) (by decide +kernel)
theorem ml_L_173 : Cond.methodLink RL 173 yX8_keep ∈ tb := tb_mem 1337 (by decide +kernel) (by decide +kernel)
theorem ml_L_174 : Cond.methodLink RL 174 yX7_back ∈ tb := tb_mem 873 (by decide +kernel) (by decide +kernel)
theorem ml_L_177 : Cond.methodLink RL 177 yX8_back ∈ tb := tb_mem 1341 (by decide +kernel) (by decide +kernel)
theorem ml_L_178 : Cond.methodLink RL 178 yX7_count ∈ tb := tb_mem 877 (by decide +kernel) (by decide +kernel)
theorem ml_L_181 : Cond.methodLink RL 181 yX8_count ∈ tb := tb_mem 1345 (by decide +kernel) (by decide +kernel)
theorem ml_X8_1 : Cond.methodLink RX8 1 objectInit ∈ tb := tb_mem 886 (by decide +kernel) (by decide +kernel)
theorem ml_X8_80 : Cond.methodLink RX8 80 yX8_in ∈ tb := tb_mem 996 (by decide +kernel) (by decide +kernel)
theorem ml_X8_84 : Cond.methodLink RX8 84 yX8_put ∈ tb := tb_mem 1005 (by decide +kernel) (by decide +kernel)
theorem ml_X8_90 : Cond.methodLink RX8 90 yX8_comes ∈ tb := tb_mem 1001 (by decide +kernel) (by decide +kernel)
theorem ml_X8_94 : Cond.methodLink RX8 94 yX8_of ∈ tb := tb_mem 1017 (by decide +kernel) (by decide +kernel)
theorem ml_X8_98 : Cond.methodLink RX8 98 yX8_weightOf ∈ tb := tb_mem 1025 (by decide +kernel) (by decide +kernel)
theorem ml_X8_102 : Cond.methodLink RX8 102 yX8_counts ∈ tb := tb_mem 1029 (by decide +kernel) (by decide +kernel)
theorem ml_X8_105 : Cond.methodLink RX8 105 yX8_bitsOf ∈ tb := tb_mem 1033 (by decide +kernel) (by decide +kernel)
theorem ml_X8_108 : Cond.methodLink RX8 108 yX8_worksOut ∈ tb := tb_mem 1036 (by decide +kernel) (by decide +kernel)
theorem ml_X8_111 : Cond.methodLink RX8 111 yX8_within ∈ tb := tb_mem 1043 (by decide +kernel) (by decide +kernel)
theorem ml_X8_115 : Cond.methodLink RX8 115 yX8_believesOf ∈ tb := tb_mem 1021 (by decide +kernel) (by decide +kernel)
theorem ml_X8_118 : Cond.methodLink RX8 118 yX8_isJuror ∈ tb := tb_mem 1013 (by decide +kernel) (by decide +kernel)
theorem ml_X8_122 : Cond.methodLink RX8 122 yX8_isGuilty ∈ tb := tb_mem 1046 (by decide +kernel) (by decide +kernel)
theorem ml_X8_125 : Cond.methodLink RX8 125 yX8_partnerOf ∈ tb := tb_mem 1050 (by decide +kernel) (by decide +kernel)
theorem ml_X8_128 : Cond.methodLink RX8 128 yX8_worthOf ∈ tb := tb_mem 1054 (by decide +kernel) (by decide +kernel)
theorem ml_X8_131 : Cond.methodLink RX8 131 yX8_tellsOf ∈ tb := tb_mem 1062 (by decide +kernel) (by decide +kernel)
theorem ml_X8_134 : Cond.methodLink RX8 134 yX8_told0 ∈ tb := tb_mem 1066 (by decide +kernel) (by decide +kernel)
theorem ml_X8_137 : Cond.methodLink RX8 137 yX8_isUnder ∈ tb := tb_mem 1074 (by decide +kernel) (by decide +kernel)
theorem ml_X8_142 : Cond.methodLink RX8 142 yX8_becomes ∈ tb := tb_mem 1082 (by decide +kernel) (by decide +kernel)
theorem ml_X8_145 : Cond.methodLink RX8 145 yX8_isFact ∈ tb := tb_mem 1094 (by decide +kernel) (by decide +kernel)
theorem ml_X8_149 : Cond.methodLink RX8 149 yX8_draw ∈ tb := tb_mem 1105 (by decide +kernel) (by decide +kernel)
theorem ml_X8_153 : Cond.methodLink RX8 153 yX8_comesOut ∈ tb := tb_mem 1118 (by decide +kernel) (by decide +kernel)
theorem ml_X8_156 : Cond.methodLink RX8 156 yX8_passes ∈ tb := tb_mem 1134 (by decide +kernel) (by decide +kernel)
theorem ml_X8_159 : Cond.methodLink RX8 159 yX8_hour ∈ tb := tb_mem 1130 (by decide +kernel) (by decide +kernel)
theorem ml_X8_162 : Cond.methodLink RX8 162 yX8_goesOn ∈ tb := tb_mem 1126 (by decide +kernel) (by decide +kernel)
theorem ml_X8_165 : Cond.methodLink RX8 165 yX8_common ∈ tb := tb_mem 1142 (by decide +kernel) (by decide +kernel)
theorem ml_X8_168 : Cond.methodLink RX8 168 yX8_votes ∈ tb := tb_mem 1146 (by decide +kernel) (by decide +kernel)
theorem ml_X8_171 : Cond.methodLink RX8 171 yX8_knownAll ∈ tb := tb_mem 1150 (by decide +kernel) (by decide +kernel)
theorem ml_X8_174 : Cond.methodLink RX8 174 yX8_any ∈ tb := tb_mem 1154 (by decide +kernel) (by decide +kernel)
theorem ml_X8_177 : Cond.methodLink RX8 177 yX8_thinks ∈ tb := tb_mem 1162 (by decide +kernel) (by decide +kernel)
theorem ml_X8_180 : Cond.methodLink RX8 180 yX8_jury ∈ tb := tb_mem 1166 (by decide +kernel) (by decide +kernel)
theorem ml_X8_183 : Cond.methodLink RX8 183 yX8_putsBack ∈ tb := tb_mem 1167 (by decide +kernel) (by decide +kernel)
theorem ml_X8_186 : Cond.methodLink RX8 186 yX8_isKnown ∈ tb := tb_mem 1175 (by decide +kernel) (by decide +kernel)
theorem ml_X8_189 : Cond.methodLink RX8 189 yX8_votesBehind ∈ tb := tb_mem 1191 (by decide +kernel) (by decide +kernel)
theorem ml_X8_192 : Cond.methodLink RX8 192 yX8_isSheet ∈ tb := tb_mem 1203 (by decide +kernel) (by decide +kernel)
theorem ml_X8_196 : Cond.methodLink RX8 196 yX8_offBy ∈ tb := tb_mem 1207 (by decide +kernel) (by decide +kernel)
theorem ml_X8_215 : Cond.methodLink RX8 215 yX8_isLetter ∈ tb := tb_mem 1235 (by decide +kernel) (by decide +kernel)
theorem ml_X8_221 : Cond.methodLink RX8 221 yX8_isFigure ∈ tb := tb_mem 1239 (by decide +kernel) (by decide +kernel)
theorem ml_X8_227 : Cond.methodLink RX8 227 yX8_go ∈ tb := tb_mem 1231 (by decide +kernel) (by decide +kernel)
theorem ml_X8_233 : Cond.methodLink RX8 233 yX8_rank ∈ tb := tb_mem 1263 (by decide +kernel) (by decide +kernel)
theorem ml_X8_239 : Cond.methodLink RX8 239 yX8_nameOf ∈ tb := tb_mem 1255 (by decide +kernel) (by decide +kernel)
theorem ml_X8_245 : Cond.methodLink RX8 245 yX8_settle ∈ tb := tb_mem 1259 (by decide +kernel) (by decide +kernel)
theorem ml_X8_249 : Cond.methodLink RX8 249 yX8_takesPart ∈ tb := tb_mem 1251 (by decide +kernel) (by decide +kernel)
theorem ml_X8_253 : Cond.methodLink RX8 253 yX8_notsOpen ∈ tb := tb_mem 1266 (by decide +kernel) (by decide +kernel)
theorem ml_X8_256 : Cond.methodLink RX8 256 yX8_signHere ∈ tb := tb_mem 1270 (by decide +kernel) (by decide +kernel)
theorem ml_X8_259 : Cond.methodLink RX8 259 yX8_takesKey ∈ tb := tb_mem 1243 (by decide +kernel) (by decide +kernel)
theorem ml_X8_262 : Cond.methodLink RX8 262 yX8_takesE ∈ tb := tb_mem 1247 (by decide +kernel) (by decide +kernel)
theorem ml_X8_265 : Cond.methodLink RX8 265 yX8_two ∈ tb := tb_mem 1040 (by decide +kernel) (by decide +kernel)
theorem ml_X8_272 : Cond.methodLink RX8 272 yX8_isSlot ∈ tb := tb_mem 1310 (by decide +kernel) (by decide +kernel)
theorem ml_X8_283 : Cond.methodLink RX8 283 yX8_copyAll ∈ tb := tb_mem 1334 (by decide +kernel) (by decide +kernel)
theorem ml_J0_335 : Cond.methodLink RJ0 335 yJ0_coder_7d493 ∈ tb := tb_mem 625 (by decide +kernel) (by decide +kernel)
theorem ml_J0_492 : Cond.methodLink RJ0 492 yJ0_isLatin1_aae02 ∈ tb := tb_mem 635 (by decide +kernel) (by decide +kernel)
theorem ml_J0_495 : Cond.methodLink RJ0 495 yJ1_charAt_3b067 ∈ tb := tb_mem 639 (by decide +kernel) (by decide +kernel)
theorem ml_J0_498 : Cond.methodLink RJ0 498 yJ2_charAt_3b067 ∈ tb := tb_mem 650 (by decide +kernel) (by decide +kernel)
theorem ml_J0_505 : Cond.methodLink RJ0 505 yJ0_length_8abf5 ∈ tb := tb_mem 711 (by decide +kernel) (by decide +kernel)
theorem ml_J0_633 : Cond.methodLink RJ0 633 yJ0_indexOf_7cf53 ∈ tb := tb_mem 707 (by decide +kernel) (by decide +kernel)
theorem ml_J0_637 : Cond.methodLink RJ0 637 yJ1_indexOf_4cfef ∈ tb := tb_mem 712 (by decide +kernel) (by decide +kernel)
theorem ml_J0_640 : Cond.methodLink RJ0 640 yJ2_indexOf_4cfef ∈ tb := tb_mem 723 (by decide +kernel) (by decide +kernel)
theorem ml_J0_1059 : Cond.methodLink RJ0 1059 yJ3_checkIndex_8e157 ∈ tb := tb_mem 647 (by decide +kernel) (by decide +kernel)
theorem ml_J0_1062 : Cond.methodLink RJ0 1062 yJ3_checkFromToIndex_8c36e ∈ tb := tb_mem 738 (by decide +kernel) (by decide +kernel)
theorem ml_J1_9 : Cond.methodLink RJ1 9 yJ0_checkIndex_df160 ∈ tb := tb_mem 642 (by decide +kernel) (by decide +kernel)
theorem ml_J1_38 : Cond.methodLink RJ1 38 yJ9_min_7cf53 ∈ tb := tb_mem 719 (by decide +kernel) (by decide +kernel)
theorem ml_J1_88 : Cond.methodLink RJ1 88 yJ1_canEncode_9a6ad ∈ tb := tb_mem 715 (by decide +kernel) (by decide +kernel)
theorem ml_J1_92 : Cond.methodLink RJ1 92 yJ9_max_7cf53 ∈ tb := tb_mem 718 (by decide +kernel) (by decide +kernel)
theorem ml_J1_95 : Cond.methodLink RJ1 95 yJ1_indexOfChar_4cfef ∈ tb := tb_mem 720 (by decide +kernel) (by decide +kernel)
theorem ml_J2_48 : Cond.methodLink RJ2 48 yJ2_length_9d52b ∈ tb := tb_mem 656 (by decide +kernel) (by decide +kernel)
theorem ml_J2_67 : Cond.methodLink RJ2 67 yJ2_checkIndex_2214a ∈ tb := tb_mem 653 (by decide +kernel) (by decide +kernel)
theorem ml_J2_71 : Cond.methodLink RJ2 71 yJ2_getChar_3b067 ∈ tb := tb_mem 660 (by decide +kernel) (by decide +kernel)
theorem ml_J2_96 : Cond.methodLink RJ2 96 yJ2_checkBoundsBeginEnd_d044e ∈ tb := tb_mem 732 (by decide +kernel) (by decide +kernel)
theorem ml_J2_157 : Cond.methodLink RJ2 157 yJ11_highSurrogate_5068e ∈ tb := tb_mem 750 (by decide +kernel) (by decide +kernel)
theorem ml_J2_161 : Cond.methodLink RJ2 161 yJ11_lowSurrogate_5068e ∈ tb := tb_mem 754 (by decide +kernel) (by decide +kernel)
theorem ml_J2_164 : Cond.methodLink RJ2 164 yJ11_isValidCodePoint_9a6ad ∈ tb := tb_mem 747 (by decide +kernel) (by decide +kernel)
theorem ml_J2_183 : Cond.methodLink RJ2 183 yJ9_min_7cf53 ∈ tb := tb_mem 727 (by decide +kernel) (by decide +kernel)
theorem ml_J2_224 : Cond.methodLink RJ2 224 yJ9_max_7cf53 ∈ tb := tb_mem 726 (by decide +kernel) (by decide +kernel)
theorem ml_J2_228 : Cond.methodLink RJ2 228 yJ2_indexOfChar_4cfef ∈ tb := tb_mem 729 (by decide +kernel) (by decide +kernel)
theorem ml_J2_232 : Cond.methodLink RJ2 232 yJ2_indexOfSupplementary_4cfef ∈ tb := tb_mem 744 (by decide +kernel) (by decide +kernel)
theorem ml_J2_241 : Cond.methodLink RJ2 241 yJ0_checkBoundsBeginEnd_23922 ∈ tb := tb_mem 735 (by decide +kernel) (by decide +kernel)
theorem ml_J2_244 : Cond.methodLink RJ2 244 yJ2_indexOfCharUnsafe_4cfef ∈ tb := tb_mem 741 (by decide +kernel) (by decide +kernel)
theorem ml_J2_414 : Cond.methodLink RJ2 414 yJ0_checkIndex_df160 ∈ tb := tb_mem 659 (by decide +kernel) (by decide +kernel)
theorem kc_X7_60 : Cond.constant RX7 60 (-1000000001) ∈ tb := tb_mem 304 (by decide +kernel) (by decide +kernel)
theorem kc_X7_65 : Cond.constant RX7 65 (-1000000003) ∈ tb := tb_mem 305 (by decide +kernel) (by decide +kernel)
theorem kc_X7_109 : Cond.constant RX7 109 (-1000000005) ∈ tb := tb_mem 408 (by decide +kernel) (by decide +kernel)
theorem kc_X7_119 : Cond.constant RX7 119 (-1000000012) ∈ tb := tb_mem 420 (by decide +kernel) (by decide +kernel)
theorem kc_X7_192 : Cond.constant RX7 192 (-1000000011) ∈ tb := tb_mem 550 (by decide +kernel) (by decide +kernel)
theorem kc_X7_193 : Cond.constant RX7 193 (2147483647) ∈ tb := tb_mem 551 (by decide +kernel) (by decide +kernel)
theorem kc_X7_241 : Cond.constant RX7 241 (-1000000014) ∈ tb := tb_mem 801 (by decide +kernel) (by decide +kernel)
theorem kc_X7_247 : Cond.constant RX7 247 (-1000000013) ∈ tb := tb_mem 812 (by decide +kernel) (by decide +kernel)
theorem kc_X7_251 : Cond.constant RX7 251 (-99999) ∈ tb := tb_mem 813 (by decide +kernel) (by decide +kernel)
theorem kc_X7_252 : Cond.constant RX7 252 (99999) ∈ tb := tb_mem 814 (by decide +kernel) (by decide +kernel)
theorem kc_X7_285 : Cond.constant RX7 285 (-1000000002) ∈ tb := tb_mem 856 (by decide +kernel) (by decide +kernel)
theorem kc_X0_76 : Cond.constant RX0 76 (1103515245) ∈ tb := tb_mem 455 (by decide +kernel) (by decide +kernel)
theorem kc_X4_36 : Cond.constant RX4 36 (-1000000005) ∈ tb := tb_mem 563 (by decide +kernel) (by decide +kernel)
theorem kc_X8_79 : Cond.constant RX8 79 (-1000000005) ∈ tb := tb_mem 1069 (by decide +kernel) (by decide +kernel)
theorem kc_X8_88 : Cond.constant RX8 88 (-1000000001) ∈ tb := tb_mem 999 (by decide +kernel) (by decide +kernel)
theorem kc_X8_89 : Cond.constant RX8 89 (-1000000003) ∈ tb := tb_mem 1000 (by decide +kernel) (by decide +kernel)
theorem kc_X8_141 : Cond.constant RX8 141 (-1000000012) ∈ tb := tb_mem 1077 (by decide +kernel) (by decide +kernel)
theorem kc_X8_148 : Cond.constant RX8 148 (1103515245) ∈ tb := tb_mem 1109 (by decide +kernel) (by decide +kernel)
theorem kc_X8_195 : Cond.constant RX8 195 (-1000000011) ∈ tb := tb_mem 1206 (by decide +kernel) (by decide +kernel)
theorem kc_X8_268 : Cond.constant RX8 268 (-1000000014) ∈ tb := tb_mem 1286 (by decide +kernel) (by decide +kernel)
theorem kc_X8_269 : Cond.constant RX8 269 (-1000000013) ∈ tb := tb_mem 1291 (by decide +kernel) (by decide +kernel)
theorem kc_X8_270 : Cond.constant RX8 270 (-99999) ∈ tb := tb_mem 1292 (by decide +kernel) (by decide +kernel)
theorem kc_X8_271 : Cond.constant RX8 271 (99999) ∈ tb := tb_mem 1293 (by decide +kernel) (by decide +kernel)
theorem kc_X8_275 : Cond.constant RX8 275 (-1000000002) ∈ tb := tb_mem 1325 (by decide +kernel) (by decide +kernel)
theorem kc_J11_76 : Cond.constant RJ11 76 (56320) ∈ tb := tb_mem 757 (by decide +kernel) (by decide +kernel)
theorem kc_J11_110 : Cond.constant RJ11 110 (55232) ∈ tb := tb_mem 753 (by decide +kernel) (by decide +kernel)
theorem kc_J6_265 : Cond.constant RJ6 265 (1431655765) ∈ tb := tb_mem 329 (by decide +kernel) (by decide +kernel)
theorem kc_J6_266 : Cond.constant RJ6 266 (858993459) ∈ tb := tb_mem 330 (by decide +kernel) (by decide +kernel)
theorem kc_J6_267 : Cond.constant RJ6 267 (252645135) ∈ tb := tb_mem 331 (by decide +kernel) (by decide +kernel)
theorem kc_J2_227 : Cond.constant RJ2 227 (65536) ∈ tb := tb_mem 728 (by decide +kernel) (by decide +kernel)
theorem kl_X7_7 : Cond.classLink RX7 7 RX3 ∈ tb := tb_mem 78 (by decide +kernel) (by decide +kernel)
theorem kl_X7_16 : Cond.classLink RX7 16 RX6 ∈ tb := tb_mem 115 (by decide +kernel) (by decide +kernel)
theorem kl_X7_23 : Cond.classLink RX7 23 RX0 ∈ tb := tb_mem 147 (by decide +kernel) (by decide +kernel)
theorem kl_X7_38 : Cond.classLink RX7 38 RX4 ∈ tb := tb_mem 219 (by decide +kernel) (by decide +kernel)
theorem kl_X7_45 : Cond.classLink RX7 45 RX5 ∈ tb := tb_mem 239 (by decide +kernel) (by decide +kernel)
theorem kl_X3_15 : Cond.classLink RX3 15 RX2 ∈ tb := tb_mem 84 (by decide +kernel) (by decide +kernel)
theorem kl_X5_15 : Cond.classLink RX5 15 RX4 ∈ tb := tb_mem 246 (by decide +kernel) (by decide +kernel)
theorem kl_X6_15 : Cond.classLink RX6 15 RX2 ∈ tb := tb_mem 121 (by decide +kernel) (by decide +kernel)
theorem kl_L_7 : Cond.classLink RL 7 RX7 ∈ tb := tb_mem 70 (by decide +kernel) (by decide +kernel)
theorem kl_L_10 : Cond.classLink RL 10 RX8 ∈ tb := tb_mem 881 (by decide +kernel) (by decide +kernel)
end
section
theorem dX0_init_0 : decode cX0_init 0 = .ok (.aload_n 0, 1) := by decide +kernel
theorem dX0_init_1 : decode cX0_init 1 = .ok (.invokespecial 3, 3) := by decide +kernel
theorem dX0_init_4 : decode cX0_init 4 = .ok (.aload_n 0, 1) := by decide +kernel
theorem dX0_init_5 : decode cX0_init 5 = .ok (.bipush 10, 2) := by decide +kernel
theorem dX0_init_7 : decode cX0_init 7 = .ok (.newarray .int, 2) := by decide +kernel
theorem dX0_init_9 : decode cX0_init 9 = .ok (.putfield 9, 3) := by decide +kernel
theorem dX0_init_12 : decode cX0_init 12 = .ok (.aload_n 0, 1) := by decide +kernel
theorem dX0_init_13 : decode cX0_init 13 = .ok (.bipush 10, 2) := by decide +kernel
theorem dX0_init_15 : decode cX0_init 15 = .ok (.newarray .int, 2) := by decide +kernel
theorem dX0_init_17 : decode cX0_init 17 = .ok (.putfield 15, 3) := by decide +kernel
theorem dX0_init_20 : decode cX0_init 20 = .ok (.aload_n 0, 1) := by decide +kernel
theorem dX0_init_21 : decode cX0_init 21 = .ok (.bipush 10, 2) := by decide +kernel
theorem dX0_init_23 : decode cX0_init 23 = .ok (.newarray .int, 2) := by decide +kernel
theorem dX0_init_25 : decode cX0_init 25 = .ok (.putfield 18, 3) := by decide +kernel
theorem dX0_init_28 : decode cX0_init 28 = .ok (.aload_n 0, 1) := by decide +kernel
theorem dX0_init_29 : decode cX0_init 29 = .ok (.bipush 10, 2) := by decide +kernel
theorem dX0_init_31 : decode cX0_init 31 = .ok (.newarray .int, 2) := by decide +kernel
theorem dX0_init_33 : decode cX0_init 33 = .ok (.putfield 21, 3) := by decide +kernel
theorem dX0_init_36 : decode cX0_init 36 = .ok (.aload_n 0, 1) := by decide +kernel
theorem dX0_init_37 : decode cX0_init 37 = .ok (.bipush 10, 2) := by decide +kernel
theorem dX0_init_39 : decode cX0_init 39 = .ok (.newarray .int, 2) := by decide +kernel
theorem dX0_init_41 : decode cX0_init 41 = .ok (.putfield 24, 3) := by decide +kernel
theorem dX0_init_44 : decode cX0_init 44 = .ok (.aload_n 0, 1) := by decide +kernel
theorem dX0_init_45 : decode cX0_init 45 = .ok (.bipush 8, 2) := by decide +kernel
theorem dX0_init_47 : decode cX0_init 47 = .ok (.newarray .int, 2) := by decide +kernel
theorem dX0_init_49 : decode cX0_init 49 = .ok (.putfield 27, 3) := by decide +kernel
theorem dX0_init_52 : decode cX0_init 52 = .ok (.aload_n 0, 1) := by decide +kernel
theorem dX0_init_53 : decode cX0_init 53 = .ok (.iconst 3, 1) := by decide +kernel
theorem dX0_init_54 : decode cX0_init 54 = .ok (.newarray .int, 2) := by decide +kernel
theorem dX0_init_56 : decode cX0_init 56 = .ok (.dup, 1) := by decide +kernel
theorem dX0_init_57 : decode cX0_init 57 = .ok (.iconst 0, 1) := by decide +kernel
theorem dX0_init_58 : decode cX0_init 58 = .ok (.iconst (-1), 1) := by decide +kernel
theorem dX0_init_59 : decode cX0_init 59 = .ok (.iastore, 1) := by decide +kernel
theorem dX0_init_60 : decode cX0_init 60 = .ok (.dup, 1) := by decide +kernel
theorem dX0_init_61 : decode cX0_init 61 = .ok (.iconst 1, 1) := by decide +kernel
theorem dX0_init_62 : decode cX0_init 62 = .ok (.iconst (-1), 1) := by decide +kernel
theorem dX0_init_63 : decode cX0_init 63 = .ok (.iastore, 1) := by decide +kernel
theorem dX0_init_64 : decode cX0_init 64 = .ok (.dup, 1) := by decide +kernel
theorem dX0_init_65 : decode cX0_init 65 = .ok (.iconst 2, 1) := by decide +kernel
theorem dX0_init_66 : decode cX0_init 66 = .ok (.iconst (-1), 1) := by decide +kernel
theorem dX0_init_67 : decode cX0_init 67 = .ok (.iastore, 1) := by decide +kernel
theorem dX0_init_68 : decode cX0_init 68 = .ok (.putfield 30, 3) := by decide +kernel
theorem dX0_init_71 : decode cX0_init 71 = .ok (.aload_n 0, 1) := by decide +kernel
theorem dX0_init_72 : decode cX0_init 72 = .ok (.bipush 50, 2) := by decide +kernel
theorem dX0_init_74 : decode cX0_init 74 = .ok (.putfield 33, 3) := by decide +kernel
theorem dX0_init_77 : decode cX0_init 77 = .ok (.aload_n 0, 1) := by decide +kernel
theorem dX0_init_78 : decode cX0_init 78 = .ok (.bipush 10, 2) := by decide +kernel
theorem dX0_init_80 : decode cX0_init 80 = .ok (.putfield 37, 3) := by decide +kernel
theorem dX0_init_83 : decode cX0_init 83 = .ok (.aload_n 0, 1) := by decide +kernel
theorem dX0_init_84 : decode cX0_init 84 = .ok (.iconst 1, 1) := by decide +kernel
theorem dX0_init_85 : decode cX0_init 85 = .ok (.putfield 40, 3) := by decide +kernel
theorem dX0_init_88 : decode cX0_init 88 = .ok (.aload_n 0, 1) := by decide +kernel
theorem dX0_init_89 : decode cX0_init 89 = .ok (.aload_n 1, 1) := by decide +kernel
theorem dX0_init_90 : decode cX0_init 90 = .ok (.putfield 43, 3) := by decide +kernel
theorem dX0_init_93 : decode cX0_init 93 = .ok (.return_, 1) := by decide +kernel
theorem dX0_become_0 : decode cX0_become 0 = .ok (.aload_n 1, 1) := by decide +kernel
theorem dX0_become_1 : decode cX0_become 1 = .ok (.getfield 9, 3) := by decide +kernel
theorem dX0_become_4 : decode cX0_become 4 = .ok (.iconst 0, 1) := by decide +kernel
theorem dX0_become_5 : decode cX0_become 5 = .ok (.aload_n 0, 1) := by decide +kernel
theorem dX0_become_6 : decode cX0_become 6 = .ok (.getfield 9, 3) := by decide +kernel
theorem dX0_become_9 : decode cX0_become 9 = .ok (.iconst 0, 1) := by decide +kernel
theorem dX0_become_10 : decode cX0_become 10 = .ok (.bipush 10, 2) := by decide +kernel
theorem dX0_become_12 : decode cX0_become 12 = .ok (.invokestatic 47, 3) := by decide +kernel
theorem dX0_become_15 : decode cX0_become 15 = .ok (.aload_n 1, 1) := by decide +kernel
theorem dX0_become_16 : decode cX0_become 16 = .ok (.getfield 15, 3) := by decide +kernel
theorem dX0_become_19 : decode cX0_become 19 = .ok (.iconst 0, 1) := by decide +kernel
theorem dX0_become_20 : decode cX0_become 20 = .ok (.aload_n 0, 1) := by decide +kernel
theorem dX0_become_21 : decode cX0_become 21 = .ok (.getfield 15, 3) := by decide +kernel
theorem dX0_become_24 : decode cX0_become 24 = .ok (.iconst 0, 1) := by decide +kernel
theorem dX0_become_25 : decode cX0_become 25 = .ok (.bipush 10, 2) := by decide +kernel
theorem dX0_become_27 : decode cX0_become 27 = .ok (.invokestatic 47, 3) := by decide +kernel
theorem dX0_become_30 : decode cX0_become 30 = .ok (.aload_n 1, 1) := by decide +kernel
theorem dX0_become_31 : decode cX0_become 31 = .ok (.getfield 18, 3) := by decide +kernel
theorem dX0_become_34 : decode cX0_become 34 = .ok (.iconst 0, 1) := by decide +kernel
theorem dX0_become_35 : decode cX0_become 35 = .ok (.aload_n 0, 1) := by decide +kernel
theorem dX0_become_36 : decode cX0_become 36 = .ok (.getfield 18, 3) := by decide +kernel
theorem dX0_become_39 : decode cX0_become 39 = .ok (.iconst 0, 1) := by decide +kernel
theorem dX0_become_40 : decode cX0_become 40 = .ok (.bipush 10, 2) := by decide +kernel
theorem dX0_become_42 : decode cX0_become 42 = .ok (.invokestatic 47, 3) := by decide +kernel
theorem dX0_become_45 : decode cX0_become 45 = .ok (.aload_n 1, 1) := by decide +kernel
theorem dX0_become_46 : decode cX0_become 46 = .ok (.getfield 21, 3) := by decide +kernel
theorem dX0_become_49 : decode cX0_become 49 = .ok (.iconst 0, 1) := by decide +kernel
theorem dX0_become_50 : decode cX0_become 50 = .ok (.aload_n 0, 1) := by decide +kernel
theorem dX0_become_51 : decode cX0_become 51 = .ok (.getfield 21, 3) := by decide +kernel
theorem dX0_become_54 : decode cX0_become 54 = .ok (.iconst 0, 1) := by decide +kernel
theorem dX0_become_55 : decode cX0_become 55 = .ok (.bipush 10, 2) := by decide +kernel
theorem dX0_become_57 : decode cX0_become 57 = .ok (.invokestatic 47, 3) := by decide +kernel
theorem dX0_become_60 : decode cX0_become 60 = .ok (.aload_n 1, 1) := by decide +kernel
theorem dX0_become_61 : decode cX0_become 61 = .ok (.getfield 24, 3) := by decide +kernel
theorem dX0_become_64 : decode cX0_become 64 = .ok (.iconst 0, 1) := by decide +kernel
theorem dX0_become_65 : decode cX0_become 65 = .ok (.aload_n 0, 1) := by decide +kernel
theorem dX0_become_66 : decode cX0_become 66 = .ok (.getfield 24, 3) := by decide +kernel
theorem dX0_become_69 : decode cX0_become 69 = .ok (.iconst 0, 1) := by decide +kernel
theorem dX0_become_70 : decode cX0_become 70 = .ok (.bipush 10, 2) := by decide +kernel
theorem dX0_become_72 : decode cX0_become 72 = .ok (.invokestatic 47, 3) := by decide +kernel
theorem dX0_become_75 : decode cX0_become 75 = .ok (.aload_n 1, 1) := by decide +kernel
theorem dX0_become_76 : decode cX0_become 76 = .ok (.getfield 27, 3) := by decide +kernel
theorem dX0_become_79 : decode cX0_become 79 = .ok (.iconst 0, 1) := by decide +kernel
theorem dX0_become_80 : decode cX0_become 80 = .ok (.aload_n 0, 1) := by decide +kernel
theorem dX0_become_81 : decode cX0_become 81 = .ok (.getfield 27, 3) := by decide +kernel
theorem dX0_become_84 : decode cX0_become 84 = .ok (.iconst 0, 1) := by decide +kernel
theorem dX0_become_85 : decode cX0_become 85 = .ok (.bipush 8, 2) := by decide +kernel
theorem dX0_become_87 : decode cX0_become 87 = .ok (.invokestatic 47, 3) := by decide +kernel
theorem dX0_become_90 : decode cX0_become 90 = .ok (.aload_n 1, 1) := by decide +kernel
theorem dX0_become_91 : decode cX0_become 91 = .ok (.getfield 30, 3) := by decide +kernel
theorem dX0_become_94 : decode cX0_become 94 = .ok (.iconst 0, 1) := by decide +kernel
theorem dX0_become_95 : decode cX0_become 95 = .ok (.aload_n 0, 1) := by decide +kernel
theorem dX0_become_96 : decode cX0_become 96 = .ok (.getfield 30, 3) := by decide +kernel
theorem dX0_become_99 : decode cX0_become 99 = .ok (.iconst 0, 1) := by decide +kernel
theorem dX0_become_100 : decode cX0_become 100 = .ok (.iconst 3, 1) := by decide +kernel
theorem dX0_become_101 : decode cX0_become 101 = .ok (.invokestatic 47, 3) := by decide +kernel
theorem dX0_become_104 : decode cX0_become 104 = .ok (.aload_n 0, 1) := by decide +kernel
theorem dX0_become_105 : decode cX0_become 105 = .ok (.aload_n 1, 1) := by decide +kernel
theorem dX0_become_106 : decode cX0_become 106 = .ok (.getfield 53, 3) := by decide +kernel
theorem dX0_become_109 : decode cX0_become 109 = .ok (.putfield 53, 3) := by decide +kernel
theorem dX0_become_112 : decode cX0_become 112 = .ok (.aload_n 0, 1) := by decide +kernel
theorem dX0_become_113 : decode cX0_become 113 = .ok (.aload_n 1, 1) := by decide +kernel
theorem dX0_become_114 : decode cX0_become 114 = .ok (.getfield 33, 3) := by decide +kernel
theorem dX0_become_117 : decode cX0_become 117 = .ok (.putfield 33, 3) := by decide +kernel
theorem dX0_become_120 : decode cX0_become 120 = .ok (.aload_n 0, 1) := by decide +kernel
theorem dX0_become_121 : decode cX0_become 121 = .ok (.aload_n 1, 1) := by decide +kernel
theorem dX0_become_122 : decode cX0_become 122 = .ok (.getfield 37, 3) := by decide +kernel
theorem dX0_become_125 : decode cX0_become 125 = .ok (.putfield 37, 3) := by decide +kernel
theorem dX0_become_128 : decode cX0_become 128 = .ok (.aload_n 0, 1) := by decide +kernel
theorem dX0_become_129 : decode cX0_become 129 = .ok (.aload_n 1, 1) := by decide +kernel
theorem dX0_become_130 : decode cX0_become 130 = .ok (.getfield 56, 3) := by decide +kernel
theorem dX0_become_133 : decode cX0_become 133 = .ok (.putfield 56, 3) := by decide +kernel
theorem dX0_become_136 : decode cX0_become 136 = .ok (.aload_n 0, 1) := by decide +kernel
theorem dX0_become_137 : decode cX0_become 137 = .ok (.aload_n 1, 1) := by decide +kernel
theorem dX0_become_138 : decode cX0_become 138 = .ok (.getfield 59, 3) := by decide +kernel
theorem dX0_become_141 : decode cX0_become 141 = .ok (.putfield 59, 3) := by decide +kernel
theorem dX0_become_144 : decode cX0_become 144 = .ok (.aload_n 0, 1) := by decide +kernel
theorem dX0_become_145 : decode cX0_become 145 = .ok (.aload_n 1, 1) := by decide +kernel
theorem dX0_become_146 : decode cX0_become 146 = .ok (.getfield 62, 3) := by decide +kernel
theorem dX0_become_149 : decode cX0_become 149 = .ok (.putfield 62, 3) := by decide +kernel
theorem dX0_become_152 : decode cX0_become 152 = .ok (.aload_n 0, 1) := by decide +kernel
theorem dX0_become_153 : decode cX0_become 153 = .ok (.aload_n 1, 1) := by decide +kernel
theorem dX0_become_154 : decode cX0_become 154 = .ok (.getfield 40, 3) := by decide +kernel
theorem dX0_become_157 : decode cX0_become 157 = .ok (.putfield 40, 3) := by decide +kernel
theorem dX0_become_160 : decode cX0_become 160 = .ok (.aload_n 0, 1) := by decide +kernel
theorem dX0_become_161 : decode cX0_become 161 = .ok (.aload_n 1, 1) := by decide +kernel
theorem dX0_become_162 : decode cX0_become 162 = .ok (.getfield 65, 3) := by decide +kernel
theorem dX0_become_165 : decode cX0_become 165 = .ok (.putfield 65, 3) := by decide +kernel
theorem dX0_become_168 : decode cX0_become 168 = .ok (.return_, 1) := by decide +kernel
theorem dX0_has_0 : decode cX0_has 0 = .ok (.iload_n 1, 1) := by decide +kernel
theorem dX0_has_1 : decode cX0_has 1 = .ok (.ifCond .lt 15, 3) := by decide +kernel
theorem dX0_has_4 : decode cX0_has 4 = .ok (.iload_n 1, 1) := by decide +kernel
theorem dX0_has_5 : decode cX0_has 5 = .ok (.aload_n 0, 1) := by decide +kernel
theorem dX0_has_6 : decode cX0_has 6 = .ok (.getfield 53, 3) := by decide +kernel
theorem dX0_has_9 : decode cX0_has 9 = .ok (.if_icmp .ge 7, 3) := by decide +kernel
theorem dX0_has_12 : decode cX0_has 12 = .ok (.iconst 1, 1) := by decide +kernel
theorem dX0_has_13 : decode cX0_has 13 = .ok (.goto 4, 3) := by decide +kernel
theorem dX0_has_16 : decode cX0_has 16 = .ok (.iconst 0, 1) := by decide +kernel
theorem dX0_has_17 : decode cX0_has 17 = .ok (.ireturn, 1) := by decide +kernel
theorem dX0_add_0 : decode cX0_add 0 = .ok (.aload_n 0, 1) := by decide +kernel
theorem dX0_add_1 : decode cX0_add 1 = .ok (.getfield 53, 3) := by decide +kernel
theorem dX0_add_4 : decode cX0_add 4 = .ok (.bipush 10, 2) := by decide +kernel
theorem dX0_add_6 : decode cX0_add 6 = .ok (.if_icmp .lt 4, 3) := by decide +kernel
theorem dX0_add_9 : decode cX0_add 9 = .ok (.return_, 1) := by decide +kernel
theorem dX0_add_10 : decode cX0_add 10 = .ok (.aload_n 0, 1) := by decide +kernel
theorem dX0_add_11 : decode cX0_add 11 = .ok (.getfield 9, 3) := by decide +kernel
theorem dX0_add_14 : decode cX0_add 14 = .ok (.aload_n 0, 1) := by decide +kernel
theorem dX0_add_15 : decode cX0_add 15 = .ok (.getfield 53, 3) := by decide +kernel
theorem dX0_add_18 : decode cX0_add 18 = .ok (.iload_n 1, 1) := by decide +kernel
theorem dX0_add_19 : decode cX0_add 19 = .ok (.iastore, 1) := by decide +kernel
theorem dX0_add_20 : decode cX0_add 20 = .ok (.aload_n 0, 1) := by decide +kernel
theorem dX0_add_21 : decode cX0_add 21 = .ok (.getfield 15, 3) := by decide +kernel
theorem dX0_add_24 : decode cX0_add 24 = .ok (.aload_n 0, 1) := by decide +kernel
theorem dX0_add_25 : decode cX0_add 25 = .ok (.getfield 53, 3) := by decide +kernel
theorem dX0_add_28 : decode cX0_add 28 = .ok (.iload_n 2, 1) := by decide +kernel
theorem dX0_add_29 : decode cX0_add 29 = .ok (.iastore, 1) := by decide +kernel
theorem dX0_add_30 : decode cX0_add 30 = .ok (.aload_n 0, 1) := by decide +kernel
theorem dX0_add_31 : decode cX0_add 31 = .ok (.getfield 18, 3) := by decide +kernel
theorem dX0_add_34 : decode cX0_add 34 = .ok (.aload_n 0, 1) := by decide +kernel
theorem dX0_add_35 : decode cX0_add 35 = .ok (.getfield 53, 3) := by decide +kernel
theorem dX0_add_38 : decode cX0_add 38 = .ok (.iload_n 3, 1) := by decide +kernel
theorem dX0_add_39 : decode cX0_add 39 = .ok (.iastore, 1) := by decide +kernel
theorem dX0_add_40 : decode cX0_add 40 = .ok (.aload_n 0, 1) := by decide +kernel
theorem dX0_add_41 : decode cX0_add 41 = .ok (.getfield 21, 3) := by decide +kernel
theorem dX0_add_44 : decode cX0_add 44 = .ok (.aload_n 0, 1) := by decide +kernel
theorem dX0_add_45 : decode cX0_add 45 = .ok (.getfield 53, 3) := by decide +kernel
theorem dX0_add_48 : decode cX0_add 48 = .ok (.iload 4, 2) := by decide +kernel
theorem dX0_add_50 : decode cX0_add 50 = .ok (.iastore, 1) := by decide +kernel
theorem dX0_add_51 : decode cX0_add 51 = .ok (.aload_n 0, 1) := by decide +kernel
theorem dX0_add_52 : decode cX0_add 52 = .ok (.getfield 24, 3) := by decide +kernel
theorem dX0_add_55 : decode cX0_add 55 = .ok (.aload_n 0, 1) := by decide +kernel
theorem dX0_add_56 : decode cX0_add 56 = .ok (.getfield 53, 3) := by decide +kernel
theorem dX0_add_59 : decode cX0_add 59 = .ok (.iconst 0, 1) := by decide +kernel
theorem dX0_add_60 : decode cX0_add 60 = .ok (.iastore, 1) := by decide +kernel
theorem dX0_add_61 : decode cX0_add 61 = .ok (.aload_n 0, 1) := by decide +kernel
theorem dX0_add_62 : decode cX0_add 62 = .ok (.dup, 1) := by decide +kernel
theorem dX0_add_63 : decode cX0_add 63 = .ok (.getfield 53, 3) := by decide +kernel
theorem dX0_add_66 : decode cX0_add 66 = .ok (.iconst 1, 1) := by decide +kernel
theorem dX0_add_67 : decode cX0_add 67 = .ok (.iadd, 1) := by decide +kernel
theorem dX0_add_68 : decode cX0_add 68 = .ok (.putfield 53, 3) := by decide +kernel
theorem dX0_add_71 : decode cX0_add 71 = .ok (.return_, 1) := by decide +kernel
theorem dX0_addByLot_0 : decode cX0_addByLot 0 = .ok (.aload_n 0, 1) := by decide +kernel
theorem dX0_addByLot_1 : decode cX0_addByLot 1 = .ok (.invokevirtual 68, 3) := by decide +kernel
theorem dX0_addByLot_4 : decode cX0_addByLot 4 = .ok (.bipush 6, 2) := by decide +kernel
theorem dX0_addByLot_6 : decode cX0_addByLot 6 = .ok (.irem, 1) := by decide +kernel
theorem dX0_addByLot_7 : decode cX0_addByLot 7 = .ok (.istore_n 1, 1) := by decide +kernel
theorem dX0_addByLot_8 : decode cX0_addByLot 8 = .ok (.aload_n 0, 1) := by decide +kernel
theorem dX0_addByLot_9 : decode cX0_addByLot 9 = .ok (.invokevirtual 68, 3) := by decide +kernel
theorem dX0_addByLot_12 : decode cX0_addByLot 12 = .ok (.iconst 2, 1) := by decide +kernel
theorem dX0_addByLot_13 : decode cX0_addByLot 13 = .ok (.irem, 1) := by decide +kernel
theorem dX0_addByLot_14 : decode cX0_addByLot 14 = .ok (.istore_n 2, 1) := by decide +kernel
theorem dX0_addByLot_15 : decode cX0_addByLot 15 = .ok (.aload_n 0, 1) := by decide +kernel
theorem dX0_addByLot_16 : decode cX0_addByLot 16 = .ok (.invokevirtual 68, 3) := by decide +kernel
theorem dX0_addByLot_19 : decode cX0_addByLot 19 = .ok (.sipush 256, 3) := by decide +kernel
theorem dX0_addByLot_22 : decode cX0_addByLot 22 = .ok (.irem, 1) := by decide +kernel
theorem dX0_addByLot_23 : decode cX0_addByLot 23 = .ok (.istore_n 3, 1) := by decide +kernel
theorem dX0_addByLot_24 : decode cX0_addByLot 24 = .ok (.aload_n 0, 1) := by decide +kernel
theorem dX0_addByLot_25 : decode cX0_addByLot 25 = .ok (.invokevirtual 68, 3) := by decide +kernel
theorem dX0_addByLot_28 : decode cX0_addByLot 28 = .ok (.bipush 30, 2) := by decide +kernel
theorem dX0_addByLot_30 : decode cX0_addByLot 30 = .ok (.irem, 1) := by decide +kernel
theorem dX0_addByLot_31 : decode cX0_addByLot 31 = .ok (.istore 4, 2) := by decide +kernel
theorem dX0_addByLot_33 : decode cX0_addByLot 33 = .ok (.aload_n 0, 1) := by decide +kernel
theorem dX0_addByLot_34 : decode cX0_addByLot 34 = .ok (.iload_n 1, 1) := by decide +kernel
theorem dX0_addByLot_35 : decode cX0_addByLot 35 = .ok (.iload_n 2, 1) := by decide +kernel
theorem dX0_addByLot_36 : decode cX0_addByLot 36 = .ok (.iload_n 3, 1) := by decide +kernel
theorem dX0_addByLot_37 : decode cX0_addByLot 37 = .ok (.iload 4, 2) := by decide +kernel
theorem dX0_addByLot_39 : decode cX0_addByLot 39 = .ok (.invokevirtual 72, 3) := by decide +kernel
theorem dX0_addByLot_42 : decode cX0_addByLot 42 = .ok (.return_, 1) := by decide +kernel
theorem dX0_draw_0 : decode cX0_draw 0 = .ok (.aload_n 0, 1) := by decide +kernel
theorem dX0_draw_1 : decode cX0_draw 1 = .ok (.aload_n 0, 1) := by decide +kernel
theorem dX0_draw_2 : decode cX0_draw 2 = .ok (.getfield 40, 3) := by decide +kernel
theorem dX0_draw_5 : decode cX0_draw 5 = .ok (.ldc 76, 2) := by decide +kernel
theorem dX0_draw_7 : decode cX0_draw 7 = .ok (.imul, 1) := by decide +kernel
theorem dX0_draw_8 : decode cX0_draw 8 = .ok (.sipush 12345, 3) := by decide +kernel
theorem dX0_draw_11 : decode cX0_draw 11 = .ok (.iadd, 1) := by decide +kernel
theorem dX0_draw_12 : decode cX0_draw 12 = .ok (.putfield 40, 3) := by decide +kernel
theorem dX0_draw_15 : decode cX0_draw 15 = .ok (.aload_n 0, 1) := by decide +kernel
theorem dX0_draw_16 : decode cX0_draw 16 = .ok (.getfield 40, 3) := by decide +kernel
theorem dX0_draw_19 : decode cX0_draw 19 = .ok (.bipush 8, 2) := by decide +kernel
theorem dX0_draw_21 : decode cX0_draw 21 = .ok (.iushr, 1) := by decide +kernel
theorem dX0_draw_22 : decode cX0_draw 22 = .ok (.ireturn, 1) := by decide +kernel
theorem dX0_comesOut_0 : decode cX0_comesOut 0 = .ok (.iconst 1, 1) := by decide +kernel
theorem dX0_comesOut_1 : decode cX0_comesOut 1 = .ok (.iload_n 1, 1) := by decide +kernel
theorem dX0_comesOut_2 : decode cX0_comesOut 2 = .ok (.ishl, 1) := by decide +kernel
theorem dX0_comesOut_3 : decode cX0_comesOut 3 = .ok (.istore_n 3, 1) := by decide +kernel
theorem dX0_comesOut_4 : decode cX0_comesOut 4 = .ok (.iconst 0, 1) := by decide +kernel
theorem dX0_comesOut_5 : decode cX0_comesOut 5 = .ok (.istore 4, 2) := by decide +kernel
theorem dX0_comesOut_7 : decode cX0_comesOut 7 = .ok (.iconst 0, 1) := by decide +kernel
theorem dX0_comesOut_8 : decode cX0_comesOut 8 = .ok (.istore 5, 2) := by decide +kernel
theorem dX0_comesOut_10 : decode cX0_comesOut 10 = .ok (.iload 5, 2) := by decide +kernel
theorem dX0_comesOut_12 : decode cX0_comesOut 12 = .ok (.aload_n 0, 1) := by decide +kernel
theorem dX0_comesOut_13 : decode cX0_comesOut 13 = .ok (.getfield 53, 3) := by decide +kernel
theorem dX0_comesOut_16 : decode cX0_comesOut 16 = .ok (.if_icmp .ge 46, 3) := by decide +kernel
theorem dX0_comesOut_19 : decode cX0_comesOut 19 = .ok (.aload_n 0, 1) := by decide +kernel
theorem dX0_comesOut_20 : decode cX0_comesOut 20 = .ok (.getfield 15, 3) := by decide +kernel
theorem dX0_comesOut_23 : decode cX0_comesOut 23 = .ok (.iload 5, 2) := by decide +kernel
theorem dX0_comesOut_25 : decode cX0_comesOut 25 = .ok (.iaload, 1) := by decide +kernel
theorem dX0_comesOut_26 : decode cX0_comesOut 26 = .ok (.iload_n 2, 1) := by decide +kernel
theorem dX0_comesOut_27 : decode cX0_comesOut 27 = .ok (.if_icmp .ne 29, 3) := by decide +kernel
theorem dX0_comesOut_30 : decode cX0_comesOut 30 = .ok (.aload_n 0, 1) := by decide +kernel
theorem dX0_comesOut_31 : decode cX0_comesOut 31 = .ok (.getfield 18, 3) := by decide +kernel
theorem dX0_comesOut_34 : decode cX0_comesOut 34 = .ok (.iload 5, 2) := by decide +kernel
theorem dX0_comesOut_36 : decode cX0_comesOut 36 = .ok (.iaload, 1) := by decide +kernel
theorem dX0_comesOut_37 : decode cX0_comesOut 37 = .ok (.iload_n 3, 1) := by decide +kernel
theorem dX0_comesOut_38 : decode cX0_comesOut 38 = .ok (.iand, 1) := by decide +kernel
theorem dX0_comesOut_39 : decode cX0_comesOut 39 = .ok (.ifCond .ne 17, 3) := by decide +kernel
theorem dX0_comesOut_42 : decode cX0_comesOut 42 = .ok (.aload_n 0, 1) := by decide +kernel
theorem dX0_comesOut_43 : decode cX0_comesOut 43 = .ok (.getfield 18, 3) := by decide +kernel
theorem dX0_comesOut_46 : decode cX0_comesOut 46 = .ok (.iload 5, 2) := by decide +kernel
theorem dX0_comesOut_48 : decode cX0_comesOut 48 = .ok (.dup2, 1) := by decide +kernel
theorem dX0_comesOut_49 : decode cX0_comesOut 49 = .ok (.iaload, 1) := by decide +kernel
theorem dX0_comesOut_50 : decode cX0_comesOut 50 = .ok (.iload_n 3, 1) := by decide +kernel
theorem dX0_comesOut_51 : decode cX0_comesOut 51 = .ok (.ior, 1) := by decide +kernel
theorem dX0_comesOut_52 : decode cX0_comesOut 52 = .ok (.iastore, 1) := by decide +kernel
theorem dX0_comesOut_53 : decode cX0_comesOut 53 = .ok (.iinc 4 1, 3) := by decide +kernel
theorem dX0_comesOut_56 : decode cX0_comesOut 56 = .ok (.iinc 5 1, 3) := by decide +kernel
theorem dX0_comesOut_59 : decode cX0_comesOut 59 = .ok (.goto (-49), 3) := by decide +kernel
theorem dX0_comesOut_62 : decode cX0_comesOut 62 = .ok (.iload 4, 2) := by decide +kernel
theorem dX0_comesOut_64 : decode cX0_comesOut 64 = .ok (.ireturn, 1) := by decide +kernel
theorem dX0_partner_0 : decode cX0_partner 0 = .ok (.aload_n 0, 1) := by decide +kernel
theorem dX0_partner_1 : decode cX0_partner 1 = .ok (.getfield 53, 3) := by decide +kernel
theorem dX0_partner_4 : decode cX0_partner 4 = .ok (.iconst 1, 1) := by decide +kernel
theorem dX0_partner_5 : decode cX0_partner 5 = .ok (.if_icmp .ge 7, 3) := by decide +kernel
theorem dX0_partner_8 : decode cX0_partner 8 = .ok (.iload_n 1, 1) := by decide +kernel
theorem dX0_partner_9 : decode cX0_partner 9 = .ok (.goto 21, 3) := by decide +kernel
theorem dX0_partner_12 : decode cX0_partner 12 = .ok (.aload_n 0, 1) := by decide +kernel
theorem dX0_partner_13 : decode cX0_partner 13 = .ok (.getfield 62, 3) := by decide +kernel
theorem dX0_partner_16 : decode cX0_partner 16 = .ok (.aload_n 0, 1) := by decide +kernel
theorem dX0_partner_17 : decode cX0_partner 17 = .ok (.getfield 56, 3) := by decide +kernel
theorem dX0_partner_20 : decode cX0_partner 20 = .ok (.iadd, 1) := by decide +kernel
theorem dX0_partner_21 : decode cX0_partner 21 = .ok (.iload_n 1, 1) := by decide +kernel
theorem dX0_partner_22 : decode cX0_partner 22 = .ok (.isub, 1) := by decide +kernel
theorem dX0_partner_23 : decode cX0_partner 23 = .ok (.aload_n 0, 1) := by decide +kernel
theorem dX0_partner_24 : decode cX0_partner 24 = .ok (.getfield 53, 3) := by decide +kernel
theorem dX0_partner_27 : decode cX0_partner 27 = .ok (.invokestatic 77, 3) := by decide +kernel
theorem dX0_partner_30 : decode cX0_partner 30 = .ok (.ireturn, 1) := by decide +kernel
theorem dX0_swaying_0 : decode cX0_swaying 0 = .ok (.iconst 0, 1) := by decide +kernel
theorem dX0_swaying_1 : decode cX0_swaying 1 = .ok (.istore_n 1, 1) := by decide +kernel
theorem dX0_swaying_2 : decode cX0_swaying 2 = .ok (.iconst 0, 1) := by decide +kernel
theorem dX0_swaying_3 : decode cX0_swaying 3 = .ok (.istore_n 2, 1) := by decide +kernel
theorem dX0_swaying_4 : decode cX0_swaying 4 = .ok (.iload_n 2, 1) := by decide +kernel
theorem dX0_swaying_5 : decode cX0_swaying 5 = .ok (.bipush 8, 2) := by decide +kernel
theorem dX0_swaying_7 : decode cX0_swaying 7 = .ok (.if_icmp .ge 24, 3) := by decide +kernel
theorem dX0_swaying_10 : decode cX0_swaying 10 = .ok (.aload_n 0, 1) := by decide +kernel
theorem dX0_swaying_11 : decode cX0_swaying 11 = .ok (.getfield 27, 3) := by decide +kernel
theorem dX0_swaying_14 : decode cX0_swaying 14 = .ok (.iload_n 2, 1) := by decide +kernel
theorem dX0_swaying_15 : decode cX0_swaying 15 = .ok (.iaload, 1) := by decide +kernel
theorem dX0_swaying_16 : decode cX0_swaying 16 = .ok (.ifCond .le 9, 3) := by decide +kernel
theorem dX0_swaying_19 : decode cX0_swaying 19 = .ok (.iload_n 1, 1) := by decide +kernel
theorem dX0_swaying_20 : decode cX0_swaying 20 = .ok (.iconst 1, 1) := by decide +kernel
theorem dX0_swaying_21 : decode cX0_swaying 21 = .ok (.iload_n 2, 1) := by decide +kernel
theorem dX0_swaying_22 : decode cX0_swaying 22 = .ok (.ishl, 1) := by decide +kernel
theorem dX0_swaying_23 : decode cX0_swaying 23 = .ok (.ior, 1) := by decide +kernel
theorem dX0_swaying_24 : decode cX0_swaying 24 = .ok (.istore_n 1, 1) := by decide +kernel
theorem dX0_swaying_25 : decode cX0_swaying 25 = .ok (.iinc 2 1, 3) := by decide +kernel
theorem dX0_swaying_28 : decode cX0_swaying 28 = .ok (.goto (-24), 3) := by decide +kernel
theorem dX0_swaying_31 : decode cX0_swaying 31 = .ok (.iload_n 1, 1) := by decide +kernel
theorem dX0_swaying_32 : decode cX0_swaying 32 = .ok (.ireturn, 1) := by decide +kernel
theorem dX0_pass_0 : decode cX0_pass 0 = .ok (.iconst 0, 1) := by decide +kernel
theorem dX0_pass_1 : decode cX0_pass 1 = .ok (.istore_n 3, 1) := by decide +kernel
theorem dX0_pass_2 : decode cX0_pass 2 = .ok (.iconst 0, 1) := by decide +kernel
theorem dX0_pass_3 : decode cX0_pass 3 = .ok (.istore 4, 2) := by decide +kernel
theorem dX0_pass_5 : decode cX0_pass 5 = .ok (.iload 4, 2) := by decide +kernel
theorem dX0_pass_7 : decode cX0_pass 7 = .ok (.iload_n 1, 1) := by decide +kernel
theorem dX0_pass_8 : decode cX0_pass 8 = .ok (.if_icmp .ge 17, 3) := by decide +kernel
theorem dX0_pass_11 : decode cX0_pass 11 = .ok (.iload_n 3, 1) := by decide +kernel
theorem dX0_pass_12 : decode cX0_pass 12 = .ok (.aload_n 0, 1) := by decide +kernel
theorem dX0_pass_13 : decode cX0_pass 13 = .ok (.iload_n 2, 1) := by decide +kernel
theorem dX0_pass_14 : decode cX0_pass 14 = .ok (.invokevirtual 83, 3) := by decide +kernel
theorem dX0_pass_17 : decode cX0_pass 17 = .ok (.iadd, 1) := by decide +kernel
theorem dX0_pass_18 : decode cX0_pass 18 = .ok (.istore_n 3, 1) := by decide +kernel
theorem dX0_pass_19 : decode cX0_pass 19 = .ok (.iinc 4 1, 3) := by decide +kernel
theorem dX0_pass_22 : decode cX0_pass 22 = .ok (.goto (-17), 3) := by decide +kernel
theorem dX0_pass_25 : decode cX0_pass 25 = .ok (.iload_n 3, 1) := by decide +kernel
theorem dX0_pass_26 : decode cX0_pass 26 = .ok (.ireturn, 1) := by decide +kernel
theorem dX0_anHour_0 : decode cX0_anHour 0 = .ok (.iconst 0, 1) := by decide +kernel
theorem dX0_anHour_1 : decode cX0_anHour 1 = .ok (.istore_n 2, 1) := by decide +kernel
theorem dX0_anHour_2 : decode cX0_anHour 2 = .ok (.iconst 0, 1) := by decide +kernel
theorem dX0_anHour_3 : decode cX0_anHour 3 = .ok (.istore_n 3, 1) := by decide +kernel
theorem dX0_anHour_4 : decode cX0_anHour 4 = .ok (.iload_n 3, 1) := by decide +kernel
theorem dX0_anHour_5 : decode cX0_anHour 5 = .ok (.aload_n 0, 1) := by decide +kernel
theorem dX0_anHour_6 : decode cX0_anHour 6 = .ok (.getfield 53, 3) := by decide +kernel
theorem dX0_anHour_9 : decode cX0_anHour 9 = .ok (.if_icmp .ge 60, 3) := by decide +kernel
theorem dX0_anHour_12 : decode cX0_anHour 12 = .ok (.aload_n 0, 1) := by decide +kernel
theorem dX0_anHour_13 : decode cX0_anHour 13 = .ok (.iload_n 3, 1) := by decide +kernel
theorem dX0_anHour_14 : decode cX0_anHour 14 = .ok (.invokevirtual 87, 3) := by decide +kernel
theorem dX0_anHour_17 : decode cX0_anHour 17 = .ok (.istore 4, 2) := by decide +kernel
theorem dX0_anHour_19 : decode cX0_anHour 19 = .ok (.iload 4, 2) := by decide +kernel
theorem dX0_anHour_21 : decode cX0_anHour 21 = .ok (.iload_n 3, 1) := by decide +kernel
theorem dX0_anHour_22 : decode cX0_anHour 22 = .ok (.if_icmp .le 41, 3) := by decide +kernel
theorem dX0_anHour_25 : decode cX0_anHour 25 = .ok (.aload_n 0, 1) := by decide +kernel
theorem dX0_anHour_26 : decode cX0_anHour 26 = .ok (.invokevirtual 68, 3) := by decide +kernel
theorem dX0_anHour_29 : decode cX0_anHour 29 = .ok (.bipush 100, 2) := by decide +kernel
theorem dX0_anHour_31 : decode cX0_anHour 31 = .ok (.irem, 1) := by decide +kernel
theorem dX0_anHour_32 : decode cX0_anHour 32 = .ok (.aload_n 0, 1) := by decide +kernel
theorem dX0_anHour_33 : decode cX0_anHour 33 = .ok (.getfield 37, 3) := by decide +kernel
theorem dX0_anHour_36 : decode cX0_anHour 36 = .ok (.if_icmp .ge 16, 3) := by decide +kernel
theorem dX0_anHour_39 : decode cX0_anHour 39 = .ok (.aload_n 0, 1) := by decide +kernel
theorem dX0_anHour_40 : decode cX0_anHour 40 = .ok (.dup, 1) := by decide +kernel
theorem dX0_anHour_41 : decode cX0_anHour 41 = .ok (.getfield 59, 3) := by decide +kernel
theorem dX0_anHour_44 : decode cX0_anHour 44 = .ok (.iconst 1, 1) := by decide +kernel
theorem dX0_anHour_45 : decode cX0_anHour 45 = .ok (.iadd, 1) := by decide +kernel
theorem dX0_anHour_46 : decode cX0_anHour 46 = .ok (.putfield 59, 3) := by decide +kernel
theorem dX0_anHour_49 : decode cX0_anHour 49 = .ok (.goto 14, 3) := by decide +kernel
theorem dX0_anHour_52 : decode cX0_anHour 52 = .ok (.iload_n 2, 1) := by decide +kernel
theorem dX0_anHour_53 : decode cX0_anHour 53 = .ok (.aload_n 0, 1) := by decide +kernel
theorem dX0_anHour_54 : decode cX0_anHour 54 = .ok (.iload_n 3, 1) := by decide +kernel
theorem dX0_anHour_55 : decode cX0_anHour 55 = .ok (.iload 4, 2) := by decide +kernel
theorem dX0_anHour_57 : decode cX0_anHour 57 = .ok (.iload_n 1, 1) := by decide +kernel
theorem dX0_anHour_58 : decode cX0_anHour 58 = .ok (.invokevirtual 90, 3) := by decide +kernel
theorem dX0_anHour_61 : decode cX0_anHour 61 = .ok (.iadd, 1) := by decide +kernel
theorem dX0_anHour_62 : decode cX0_anHour 62 = .ok (.istore_n 2, 1) := by decide +kernel
theorem dX0_anHour_63 : decode cX0_anHour 63 = .ok (.iinc 3 1, 3) := by decide +kernel
theorem dX0_anHour_66 : decode cX0_anHour 66 = .ok (.goto (-62), 3) := by decide +kernel
theorem dX0_anHour_69 : decode cX0_anHour 69 = .ok (.aload_n 0, 1) := by decide +kernel
theorem dX0_anHour_70 : decode cX0_anHour 70 = .ok (.dup, 1) := by decide +kernel
theorem dX0_anHour_71 : decode cX0_anHour 71 = .ok (.getfield 62, 3) := by decide +kernel
theorem dX0_anHour_74 : decode cX0_anHour 74 = .ok (.iconst 1, 1) := by decide +kernel
theorem dX0_anHour_75 : decode cX0_anHour 75 = .ok (.iadd, 1) := by decide +kernel
theorem dX0_anHour_76 : decode cX0_anHour 76 = .ok (.putfield 62, 3) := by decide +kernel
theorem dX0_anHour_79 : decode cX0_anHour 79 = .ok (.iload_n 2, 1) := by decide +kernel
theorem dX0_anHour_80 : decode cX0_anHour 80 = .ok (.ireturn, 1) := by decide +kernel
theorem dX0_palms_0 : decode cX0_palms 0 = .ok (.iload_n 1, 1) := by decide +kernel
theorem dX0_palms_1 : decode cX0_palms 1 = .ok (.iload_n 3, 1) := by decide +kernel
theorem dX0_palms_2 : decode cX0_palms 2 = .ok (.if_icmp .ne 7, 3) := by decide +kernel
theorem dX0_palms_5 : decode cX0_palms 5 = .ok (.iconst 0, 1) := by decide +kernel
theorem dX0_palms_6 : decode cX0_palms 6 = .ok (.goto 9, 3) := by decide +kernel
theorem dX0_palms_9 : decode cX0_palms 9 = .ok (.aload_n 0, 1) := by decide +kernel
theorem dX0_palms_10 : decode cX0_palms 10 = .ok (.iload_n 1, 1) := by decide +kernel
theorem dX0_palms_11 : decode cX0_palms 11 = .ok (.iload_n 2, 1) := by decide +kernel
theorem dX0_palms_12 : decode cX0_palms 12 = .ok (.invokestatic 94, 3) := by decide +kernel
theorem dX0_palms_15 : decode cX0_palms 15 = .ok (.istore 4, 2) := by decide +kernel
theorem dX0_palms_17 : decode cX0_palms 17 = .ok (.iload_n 2, 1) := by decide +kernel
theorem dX0_palms_18 : decode cX0_palms 18 = .ok (.iload_n 3, 1) := by decide +kernel
theorem dX0_palms_19 : decode cX0_palms 19 = .ok (.if_icmp .ne 7, 3) := by decide +kernel
theorem dX0_palms_22 : decode cX0_palms 22 = .ok (.iconst 0, 1) := by decide +kernel
theorem dX0_palms_23 : decode cX0_palms 23 = .ok (.goto 9, 3) := by decide +kernel
theorem dX0_palms_26 : decode cX0_palms 26 = .ok (.aload_n 0, 1) := by decide +kernel
theorem dX0_palms_27 : decode cX0_palms 27 = .ok (.iload_n 2, 1) := by decide +kernel
theorem dX0_palms_28 : decode cX0_palms 28 = .ok (.iload_n 1, 1) := by decide +kernel
theorem dX0_palms_29 : decode cX0_palms 29 = .ok (.invokestatic 94, 3) := by decide +kernel
theorem dX0_palms_32 : decode cX0_palms 32 = .ok (.istore 5, 2) := by decide +kernel
theorem dX0_palms_34 : decode cX0_palms 34 = .ok (.aload_n 0, 1) := by decide +kernel
theorem dX0_palms_35 : decode cX0_palms 35 = .ok (.getfield 18, 3) := by decide +kernel
theorem dX0_palms_38 : decode cX0_palms 38 = .ok (.iload_n 2, 1) := by decide +kernel
theorem dX0_palms_39 : decode cX0_palms 39 = .ok (.dup2, 1) := by decide +kernel
theorem dX0_palms_40 : decode cX0_palms 40 = .ok (.iaload, 1) := by decide +kernel
theorem dX0_palms_41 : decode cX0_palms 41 = .ok (.iload 4, 2) := by decide +kernel
theorem dX0_palms_43 : decode cX0_palms 43 = .ok (.ior, 1) := by decide +kernel
theorem dX0_palms_44 : decode cX0_palms 44 = .ok (.iastore, 1) := by decide +kernel
theorem dX0_palms_45 : decode cX0_palms 45 = .ok (.aload_n 0, 1) := by decide +kernel
theorem dX0_palms_46 : decode cX0_palms 46 = .ok (.getfield 18, 3) := by decide +kernel
theorem dX0_palms_49 : decode cX0_palms 49 = .ok (.iload_n 1, 1) := by decide +kernel
theorem dX0_palms_50 : decode cX0_palms 50 = .ok (.dup2, 1) := by decide +kernel
theorem dX0_palms_51 : decode cX0_palms 51 = .ok (.iaload, 1) := by decide +kernel
theorem dX0_palms_52 : decode cX0_palms 52 = .ok (.iload 5, 2) := by decide +kernel
theorem dX0_palms_54 : decode cX0_palms 54 = .ok (.ior, 1) := by decide +kernel
theorem dX0_palms_55 : decode cX0_palms 55 = .ok (.iastore, 1) := by decide +kernel
theorem dX0_palms_56 : decode cX0_palms 56 = .ok (.iload 4, 2) := by decide +kernel
theorem dX0_palms_58 : decode cX0_palms 58 = .ok (.ifCond .ne 7, 3) := by decide +kernel
theorem dX0_palms_61 : decode cX0_palms 61 = .ok (.iconst 0, 1) := by decide +kernel
theorem dX0_palms_62 : decode cX0_palms 62 = .ok (.goto 4, 3) := by decide +kernel
theorem dX0_palms_65 : decode cX0_palms 65 = .ok (.iconst 1, 1) := by decide +kernel
theorem dX0_palms_66 : decode cX0_palms 66 = .ok (.istore 6, 2) := by decide +kernel
theorem dX0_palms_68 : decode cX0_palms 68 = .ok (.iload 5, 2) := by decide +kernel
theorem dX0_palms_70 : decode cX0_palms 70 = .ok (.ifCond .ne 7, 3) := by decide +kernel
theorem dX0_palms_73 : decode cX0_palms 73 = .ok (.iconst 0, 1) := by decide +kernel
theorem dX0_palms_74 : decode cX0_palms 74 = .ok (.goto 4, 3) := by decide +kernel
theorem dX0_palms_77 : decode cX0_palms 77 = .ok (.iconst 1, 1) := by decide +kernel
theorem dX0_palms_78 : decode cX0_palms 78 = .ok (.istore 7, 2) := by decide +kernel
theorem dX0_palms_80 : decode cX0_palms 80 = .ok (.aload_n 0, 1) := by decide +kernel
theorem dX0_palms_81 : decode cX0_palms 81 = .ok (.getfield 24, 3) := by decide +kernel
theorem dX0_palms_84 : decode cX0_palms 84 = .ok (.iload_n 1, 1) := by decide +kernel
theorem dX0_palms_85 : decode cX0_palms 85 = .ok (.dup2, 1) := by decide +kernel
theorem dX0_palms_86 : decode cX0_palms 86 = .ok (.iaload, 1) := by decide +kernel
theorem dX0_palms_87 : decode cX0_palms 87 = .ok (.iload 6, 2) := by decide +kernel
theorem dX0_palms_89 : decode cX0_palms 89 = .ok (.iadd, 1) := by decide +kernel
theorem dX0_palms_90 : decode cX0_palms 90 = .ok (.iastore, 1) := by decide +kernel
theorem dX0_palms_91 : decode cX0_palms 91 = .ok (.aload_n 0, 1) := by decide +kernel
theorem dX0_palms_92 : decode cX0_palms 92 = .ok (.getfield 24, 3) := by decide +kernel
theorem dX0_palms_95 : decode cX0_palms 95 = .ok (.iload_n 2, 1) := by decide +kernel
theorem dX0_palms_96 : decode cX0_palms 96 = .ok (.dup2, 1) := by decide +kernel
theorem dX0_palms_97 : decode cX0_palms 97 = .ok (.iaload, 1) := by decide +kernel
theorem dX0_palms_98 : decode cX0_palms 98 = .ok (.iload 7, 2) := by decide +kernel
theorem dX0_palms_100 : decode cX0_palms 100 = .ok (.iadd, 1) := by decide +kernel
theorem dX0_palms_101 : decode cX0_palms 101 = .ok (.iastore, 1) := by decide +kernel
theorem dX0_palms_102 : decode cX0_palms 102 = .ok (.iload 6, 2) := by decide +kernel
theorem dX0_palms_104 : decode cX0_palms 104 = .ok (.iload 7, 2) := by decide +kernel
theorem dX0_palms_106 : decode cX0_palms 106 = .ok (.iadd, 1) := by decide +kernel
theorem dX0_palms_107 : decode cX0_palms 107 = .ok (.ireturn, 1) := by decide +kernel
theorem dX0_believes_0 : decode cX0_believes 0 = .ok (.aload_n 0, 1) := by decide +kernel
theorem dX0_believes_1 : decode cX0_believes 1 = .ok (.getfield 9, 3) := by decide +kernel
theorem dX0_believes_4 : decode cX0_believes 4 = .ok (.iload_n 1, 1) := by decide +kernel
theorem dX0_believes_5 : decode cX0_believes 5 = .ok (.iaload, 1) := by decide +kernel
theorem dX0_believes_6 : decode cX0_believes 6 = .ok (.aload_n 0, 1) := by decide +kernel
theorem dX0_believes_7 : decode cX0_believes 7 = .ok (.iload_n 1, 1) := by decide +kernel
theorem dX0_believes_8 : decode cX0_believes 8 = .ok (.invokevirtual 100, 3) := by decide +kernel
theorem dX0_believes_11 : decode cX0_believes 11 = .ok (.aload_n 0, 1) := by decide +kernel
theorem dX0_believes_12 : decode cX0_believes 12 = .ok (.getfield 21, 3) := by decide +kernel
theorem dX0_believes_15 : decode cX0_believes 15 = .ok (.iload_n 1, 1) := by decide +kernel
theorem dX0_believes_16 : decode cX0_believes 16 = .ok (.iaload, 1) := by decide +kernel
theorem dX0_believes_17 : decode cX0_believes 17 = .ok (.invokestatic 103, 3) := by decide +kernel
theorem dX0_believes_20 : decode cX0_believes 20 = .ok (.ireturn, 1) := by decide +kernel
theorem dX0_trusts_0 : decode cX0_trusts 0 = .ok (.iconst 0, 1) := by decide +kernel
theorem dX0_trusts_1 : decode cX0_trusts 1 = .ok (.istore_n 2, 1) := by decide +kernel
theorem dX0_trusts_2 : decode cX0_trusts 2 = .ok (.iconst 0, 1) := by decide +kernel
theorem dX0_trusts_3 : decode cX0_trusts 3 = .ok (.istore_n 3, 1) := by decide +kernel
theorem dX0_trusts_4 : decode cX0_trusts 4 = .ok (.iload_n 3, 1) := by decide +kernel
theorem dX0_trusts_5 : decode cX0_trusts 5 = .ok (.bipush 8, 2) := by decide +kernel
theorem dX0_trusts_7 : decode cX0_trusts 7 = .ok (.if_icmp .ge 31, 3) := by decide +kernel
theorem dX0_trusts_10 : decode cX0_trusts 10 = .ok (.aload_n 0, 1) := by decide +kernel
theorem dX0_trusts_11 : decode cX0_trusts 11 = .ok (.getfield 18, 3) := by decide +kernel
theorem dX0_trusts_14 : decode cX0_trusts 14 = .ok (.iload_n 1, 1) := by decide +kernel
theorem dX0_trusts_15 : decode cX0_trusts 15 = .ok (.iaload, 1) := by decide +kernel
theorem dX0_trusts_16 : decode cX0_trusts 16 = .ok (.iload_n 3, 1) := by decide +kernel
theorem dX0_trusts_17 : decode cX0_trusts 17 = .ok (.ishr, 1) := by decide +kernel
theorem dX0_trusts_18 : decode cX0_trusts 18 = .ok (.iconst 1, 1) := by decide +kernel
theorem dX0_trusts_19 : decode cX0_trusts 19 = .ok (.iand, 1) := by decide +kernel
theorem dX0_trusts_20 : decode cX0_trusts 20 = .ok (.ifCond .eq 12, 3) := by decide +kernel
theorem dX0_trusts_23 : decode cX0_trusts 23 = .ok (.iload_n 2, 1) := by decide +kernel
theorem dX0_trusts_24 : decode cX0_trusts 24 = .ok (.aload_n 0, 1) := by decide +kernel
theorem dX0_trusts_25 : decode cX0_trusts 25 = .ok (.getfield 27, 3) := by decide +kernel
theorem dX0_trusts_28 : decode cX0_trusts 28 = .ok (.iload_n 3, 1) := by decide +kernel
theorem dX0_trusts_29 : decode cX0_trusts 29 = .ok (.iaload, 1) := by decide +kernel
theorem dX0_trusts_30 : decode cX0_trusts 30 = .ok (.iadd, 1) := by decide +kernel
theorem dX0_trusts_31 : decode cX0_trusts 31 = .ok (.istore_n 2, 1) := by decide +kernel
theorem dX0_trusts_32 : decode cX0_trusts 32 = .ok (.iinc 3 1, 3) := by decide +kernel
theorem dX0_trusts_35 : decode cX0_trusts 35 = .ok (.goto (-31), 3) := by decide +kernel
theorem dX0_trusts_38 : decode cX0_trusts 38 = .ok (.aload_n 0, 1) := by decide +kernel
theorem dX0_trusts_39 : decode cX0_trusts 39 = .ok (.getfield 30, 3) := by decide +kernel
theorem dX0_trusts_42 : decode cX0_trusts 42 = .ok (.iconst 0, 1) := by decide +kernel
theorem dX0_trusts_43 : decode cX0_trusts 43 = .ok (.iaload, 1) := by decide +kernel
theorem dX0_trusts_44 : decode cX0_trusts 44 = .ok (.istore_n 3, 1) := by decide +kernel
theorem dX0_trusts_45 : decode cX0_trusts 45 = .ok (.iload_n 3, 1) := by decide +kernel
theorem dX0_trusts_46 : decode cX0_trusts 46 = .ok (.ifCond .ge 10, 3) := by decide +kernel
theorem dX0_trusts_49 : decode cX0_trusts 49 = .ok (.bipush 50, 2) := by decide +kernel
theorem dX0_trusts_51 : decode cX0_trusts 51 = .ok (.iload_n 2, 1) := by decide +kernel
theorem dX0_trusts_52 : decode cX0_trusts 52 = .ok (.iadd, 1) := by decide +kernel
theorem dX0_trusts_53 : decode cX0_trusts 53 = .ok (.goto 27, 3) := by decide +kernel
theorem dX0_trusts_56 : decode cX0_trusts 56 = .ok (.aload_n 0, 1) := by decide +kernel
theorem dX0_trusts_57 : decode cX0_trusts 57 = .ok (.getfield 43, 3) := by decide +kernel
theorem dX0_trusts_60 : decode cX0_trusts 60 = .ok (.iload_n 3, 1) := by decide +kernel
theorem dX0_trusts_61 : decode cX0_trusts 61 = .ok (.aload_n 0, 1) := by decide +kernel
theorem dX0_trusts_62 : decode cX0_trusts 62 = .ok (.getfield 18, 3) := by decide +kernel
theorem dX0_trusts_65 : decode cX0_trusts 65 = .ok (.iload_n 1, 1) := by decide +kernel
theorem dX0_trusts_66 : decode cX0_trusts 66 = .ok (.iaload, 1) := by decide +kernel
theorem dX0_trusts_67 : decode cX0_trusts 67 = .ok (.invokestatic 106, 3) := by decide +kernel
theorem dX0_trusts_70 : decode cX0_trusts 70 = .ok (.iload_n 2, 1) := by decide +kernel
theorem dX0_trusts_71 : decode cX0_trusts 71 = .ok (.aload_n 0, 1) := by decide +kernel
theorem dX0_trusts_72 : decode cX0_trusts 72 = .ok (.getfield 21, 3) := by decide +kernel
theorem dX0_trusts_75 : decode cX0_trusts 75 = .ok (.iload_n 1, 1) := by decide +kernel
theorem dX0_trusts_76 : decode cX0_trusts 76 = .ok (.iaload, 1) := by decide +kernel
theorem dX0_trusts_77 : decode cX0_trusts 77 = .ok (.invokevirtual 111, 3) := by decide +kernel
theorem dX0_trusts_80 : decode cX0_trusts 80 = .ok (.istore 4, 2) := by decide +kernel
theorem dX0_trusts_82 : decode cX0_trusts 82 = .ok (.iload 4, 2) := by decide +kernel
theorem dX0_trusts_84 : decode cX0_trusts 84 = .ok (.iconst 0, 1) := by decide +kernel
theorem dX0_trusts_85 : decode cX0_trusts 85 = .ok (.bipush 100, 2) := by decide +kernel
theorem dX0_trusts_87 : decode cX0_trusts 87 = .ok (.invokestatic 117, 3) := by decide +kernel
theorem dX0_trusts_90 : decode cX0_trusts 90 = .ok (.ireturn, 1) := by decide +kernel
theorem dX0_verdict_0 : decode cX0_verdict 0 = .ok (.aload_n 0, 1) := by decide +kernel
theorem dX0_verdict_1 : decode cX0_verdict 1 = .ok (.iload_n 1, 1) := by decide +kernel
theorem dX0_verdict_2 : decode cX0_verdict 2 = .ok (.invokevirtual 120, 3) := by decide +kernel
theorem dX0_verdict_5 : decode cX0_verdict 5 = .ok (.aload_n 0, 1) := by decide +kernel
theorem dX0_verdict_6 : decode cX0_verdict 6 = .ok (.getfield 33, 3) := by decide +kernel
theorem dX0_verdict_9 : decode cX0_verdict 9 = .ok (.if_icmp .lt 7, 3) := by decide +kernel
theorem dX0_verdict_12 : decode cX0_verdict 12 = .ok (.iconst 1, 1) := by decide +kernel
theorem dX0_verdict_13 : decode cX0_verdict 13 = .ok (.goto 4, 3) := by decide +kernel
theorem dX0_verdict_16 : decode cX0_verdict 16 = .ok (.iconst 0, 1) := by decide +kernel
theorem dX0_verdict_17 : decode cX0_verdict 17 = .ok (.ireturn, 1) := by decide +kernel
theorem dX0_votes_0 : decode cX0_votes 0 = .ok (.iconst 0, 1) := by decide +kernel
theorem dX0_votes_1 : decode cX0_votes 1 = .ok (.istore_n 1, 1) := by decide +kernel
theorem dX0_votes_2 : decode cX0_votes 2 = .ok (.iconst 0, 1) := by decide +kernel
theorem dX0_votes_3 : decode cX0_votes 3 = .ok (.istore_n 2, 1) := by decide +kernel
theorem dX0_votes_4 : decode cX0_votes 4 = .ok (.iload_n 2, 1) := by decide +kernel
theorem dX0_votes_5 : decode cX0_votes 5 = .ok (.aload_n 0, 1) := by decide +kernel
theorem dX0_votes_6 : decode cX0_votes 6 = .ok (.getfield 53, 3) := by decide +kernel
theorem dX0_votes_9 : decode cX0_votes 9 = .ok (.if_icmp .ge 24, 3) := by decide +kernel
theorem dX0_votes_12 : decode cX0_votes 12 = .ok (.aload_n 0, 1) := by decide +kernel
theorem dX0_votes_13 : decode cX0_votes 13 = .ok (.iload_n 2, 1) := by decide +kernel
theorem dX0_votes_14 : decode cX0_votes 14 = .ok (.invokevirtual 120, 3) := by decide +kernel
theorem dX0_votes_17 : decode cX0_votes 17 = .ok (.aload_n 0, 1) := by decide +kernel
theorem dX0_votes_18 : decode cX0_votes 18 = .ok (.getfield 33, 3) := by decide +kernel
theorem dX0_votes_21 : decode cX0_votes 21 = .ok (.if_icmp .lt 6, 3) := by decide +kernel
theorem dX0_votes_24 : decode cX0_votes 24 = .ok (.iinc 1 1, 3) := by decide +kernel
theorem dX0_votes_27 : decode cX0_votes 27 = .ok (.iinc 2 1, 3) := by decide +kernel
theorem dX0_votes_30 : decode cX0_votes 30 = .ok (.goto (-26), 3) := by decide +kernel
theorem dX0_votes_33 : decode cX0_votes 33 = .ok (.iload_n 1, 1) := by decide +kernel
theorem dX0_votes_34 : decode cX0_votes 34 = .ok (.ireturn, 1) := by decide +kernel
theorem dX0_common_0 : decode cX0_common 0 = .ok (.sipush 255, 3) := by decide +kernel
theorem dX0_common_3 : decode cX0_common 3 = .ok (.istore_n 1, 1) := by decide +kernel
theorem dX0_common_4 : decode cX0_common 4 = .ok (.iconst 0, 1) := by decide +kernel
theorem dX0_common_5 : decode cX0_common 5 = .ok (.istore_n 2, 1) := by decide +kernel
theorem dX0_common_6 : decode cX0_common 6 = .ok (.iload_n 2, 1) := by decide +kernel
theorem dX0_common_7 : decode cX0_common 7 = .ok (.aload_n 0, 1) := by decide +kernel
theorem dX0_common_8 : decode cX0_common 8 = .ok (.getfield 53, 3) := by decide +kernel
theorem dX0_common_11 : decode cX0_common 11 = .ok (.if_icmp .ge 18, 3) := by decide +kernel
theorem dX0_common_14 : decode cX0_common 14 = .ok (.iload_n 1, 1) := by decide +kernel
theorem dX0_common_15 : decode cX0_common 15 = .ok (.aload_n 0, 1) := by decide +kernel
theorem dX0_common_16 : decode cX0_common 16 = .ok (.getfield 18, 3) := by decide +kernel
theorem dX0_common_19 : decode cX0_common 19 = .ok (.iload_n 2, 1) := by decide +kernel
theorem dX0_common_20 : decode cX0_common 20 = .ok (.iaload, 1) := by decide +kernel
theorem dX0_common_21 : decode cX0_common 21 = .ok (.iand, 1) := by decide +kernel
theorem dX0_common_22 : decode cX0_common 22 = .ok (.istore_n 1, 1) := by decide +kernel
theorem dX0_common_23 : decode cX0_common 23 = .ok (.iinc 2 1, 3) := by decide +kernel
theorem dX0_common_26 : decode cX0_common 26 = .ok (.goto (-20), 3) := by decide +kernel
theorem dX0_common_29 : decode cX0_common 29 = .ok (.iload_n 1, 1) := by decide +kernel
theorem dX0_common_30 : decode cX0_common 30 = .ok (.ireturn, 1) := by decide +kernel
theorem dX0_any_0 : decode cX0_any 0 = .ok (.iconst 0, 1) := by decide +kernel
theorem dX0_any_1 : decode cX0_any 1 = .ok (.istore_n 1, 1) := by decide +kernel
theorem dX0_any_2 : decode cX0_any 2 = .ok (.iconst 0, 1) := by decide +kernel
theorem dX0_any_3 : decode cX0_any 3 = .ok (.istore_n 2, 1) := by decide +kernel
theorem dX0_any_4 : decode cX0_any 4 = .ok (.iload_n 2, 1) := by decide +kernel
theorem dX0_any_5 : decode cX0_any 5 = .ok (.aload_n 0, 1) := by decide +kernel
theorem dX0_any_6 : decode cX0_any 6 = .ok (.getfield 53, 3) := by decide +kernel
theorem dX0_any_9 : decode cX0_any 9 = .ok (.if_icmp .ge 18, 3) := by decide +kernel
theorem dX0_any_12 : decode cX0_any 12 = .ok (.iload_n 1, 1) := by decide +kernel
theorem dX0_any_13 : decode cX0_any 13 = .ok (.aload_n 0, 1) := by decide +kernel
theorem dX0_any_14 : decode cX0_any 14 = .ok (.getfield 18, 3) := by decide +kernel
theorem dX0_any_17 : decode cX0_any 17 = .ok (.iload_n 2, 1) := by decide +kernel
theorem dX0_any_18 : decode cX0_any 18 = .ok (.iaload, 1) := by decide +kernel
theorem dX0_any_19 : decode cX0_any 19 = .ok (.ior, 1) := by decide +kernel
theorem dX0_any_20 : decode cX0_any 20 = .ok (.istore_n 1, 1) := by decide +kernel
theorem dX0_any_21 : decode cX0_any 21 = .ok (.iinc 2 1, 3) := by decide +kernel
theorem dX0_any_24 : decode cX0_any 24 = .ok (.goto (-20), 3) := by decide +kernel
theorem dX0_any_27 : decode cX0_any 27 = .ok (.iload_n 1, 1) := by decide +kernel
theorem dX0_any_28 : decode cX0_any 28 = .ok (.ireturn, 1) := by decide +kernel
theorem dX0_known_0 : decode cX0_known 0 = .ok (.iconst 0, 1) := by decide +kernel
theorem dX0_known_1 : decode cX0_known 1 = .ok (.istore_n 1, 1) := by decide +kernel
theorem dX0_known_2 : decode cX0_known 2 = .ok (.iconst 0, 1) := by decide +kernel
theorem dX0_known_3 : decode cX0_known 3 = .ok (.istore_n 2, 1) := by decide +kernel
theorem dX0_known_4 : decode cX0_known 4 = .ok (.iload_n 2, 1) := by decide +kernel
theorem dX0_known_5 : decode cX0_known 5 = .ok (.aload_n 0, 1) := by decide +kernel
theorem dX0_known_6 : decode cX0_known 6 = .ok (.getfield 53, 3) := by decide +kernel
theorem dX0_known_9 : decode cX0_known 9 = .ok (.if_icmp .ge 21, 3) := by decide +kernel
theorem dX0_known_12 : decode cX0_known 12 = .ok (.iload_n 1, 1) := by decide +kernel
theorem dX0_known_13 : decode cX0_known 13 = .ok (.aload_n 0, 1) := by decide +kernel
theorem dX0_known_14 : decode cX0_known 14 = .ok (.getfield 18, 3) := by decide +kernel
theorem dX0_known_17 : decode cX0_known 17 = .ok (.iload_n 2, 1) := by decide +kernel
theorem dX0_known_18 : decode cX0_known 18 = .ok (.iaload, 1) := by decide +kernel
theorem dX0_known_19 : decode cX0_known 19 = .ok (.invokestatic 106, 3) := by decide +kernel
theorem dX0_known_22 : decode cX0_known 22 = .ok (.iadd, 1) := by decide +kernel
theorem dX0_known_23 : decode cX0_known 23 = .ok (.istore_n 1, 1) := by decide +kernel
theorem dX0_known_24 : decode cX0_known 24 = .ok (.iinc 2 1, 3) := by decide +kernel
theorem dX0_known_27 : decode cX0_known 27 = .ok (.goto (-23), 3) := by decide +kernel
theorem dX0_known_30 : decode cX0_known 30 = .ok (.iload_n 1, 1) := by decide +kernel
theorem dX0_known_31 : decode cX0_known 31 = .ok (.ireturn, 1) := by decide +kernel
theorem dX1_above_0 : decode cX1_above 0 = .ok (.iload_n 0, 1) := by decide +kernel
theorem dX1_above_1 : decode cX1_above 1 = .ok (.lookupswitch 31 #[(3, 27), (4, 29)], 27) := by decide +kernel
theorem dX1_above_28 : decode cX1_above 28 = .ok (.iconst 1, 1) := by decide +kernel
theorem dX1_above_29 : decode cX1_above 29 = .ok (.ireturn, 1) := by decide +kernel
theorem dX1_above_30 : decode cX1_above 30 = .ok (.iconst 2, 1) := by decide +kernel
theorem dX1_above_31 : decode cX1_above 31 = .ok (.ireturn, 1) := by decide +kernel
theorem dX1_above_32 : decode cX1_above 32 = .ok (.iconst 0, 1) := by decide +kernel
theorem dX1_above_33 : decode cX1_above 33 = .ok (.ireturn, 1) := by decide +kernel
theorem dX1_isOf_0 : decode cX1_isOf 0 = .ok (.iload_n 0, 1) := by decide +kernel
theorem dX1_isOf_1 : decode cX1_isOf 1 = .ok (.iload_n 1, 1) := by decide +kernel
theorem dX1_isOf_2 : decode cX1_isOf 2 = .ok (.if_icmp .eq 15, 3) := by decide +kernel
theorem dX1_isOf_5 : decode cX1_isOf 5 = .ok (.iload_n 0, 1) := by decide +kernel
theorem dX1_isOf_6 : decode cX1_isOf 6 = .ok (.invokestatic 9, 3) := by decide +kernel
theorem dX1_isOf_9 : decode cX1_isOf 9 = .ok (.iload_n 1, 1) := by decide +kernel
theorem dX1_isOf_10 : decode cX1_isOf 10 = .ok (.if_icmp .eq 7, 3) := by decide +kernel
theorem dX1_isOf_13 : decode cX1_isOf 13 = .ok (.iload_n 1, 1) := by decide +kernel
theorem dX1_isOf_14 : decode cX1_isOf 14 = .ok (.ifCond .ne 7, 3) := by decide +kernel
theorem dX1_isOf_17 : decode cX1_isOf 17 = .ok (.iconst 1, 1) := by decide +kernel
theorem dX1_isOf_18 : decode cX1_isOf 18 = .ok (.goto 4, 3) := by decide +kernel
theorem dX1_isOf_21 : decode cX1_isOf 21 = .ok (.iconst 0, 1) := by decide +kernel
theorem dX1_isOf_22 : decode cX1_isOf 22 = .ok (.ireturn, 1) := by decide +kernel
theorem dX1_worth_0 : decode cX1_worth 0 = .ok (.iload_n 0, 1) := by decide +kernel
theorem dX1_worth_1 : decode cX1_worth 1 = .ok (.tableswitch 62 1 5 #[35, 47, 40, 52, 60], 35) := by decide +kernel
theorem dX1_worth_36 : decode cX1_worth 36 = .ok (.iload_n 1, 1) := by decide +kernel
theorem dX1_worth_37 : decode cX1_worth 37 = .ok (.invokestatic 15, 3) := by decide +kernel
theorem dX1_worth_40 : decode cX1_worth 40 = .ok (.ireturn, 1) := by decide +kernel
theorem dX1_worth_41 : decode cX1_worth 41 = .ok (.iconst 2, 1) := by decide +kernel
theorem dX1_worth_42 : decode cX1_worth 42 = .ok (.iload_n 1, 1) := by decide +kernel
theorem dX1_worth_43 : decode cX1_worth 43 = .ok (.invokestatic 15, 3) := by decide +kernel
theorem dX1_worth_46 : decode cX1_worth 46 = .ok (.imul, 1) := by decide +kernel
theorem dX1_worth_47 : decode cX1_worth 47 = .ok (.ireturn, 1) := by decide +kernel
theorem dX1_worth_48 : decode cX1_worth 48 = .ok (.iload_n 1, 1) := by decide +kernel
theorem dX1_worth_49 : decode cX1_worth 49 = .ok (.invokestatic 18, 3) := by decide +kernel
theorem dX1_worth_52 : decode cX1_worth 52 = .ok (.ireturn, 1) := by decide +kernel
theorem dX1_worth_53 : decode cX1_worth 53 = .ok (.iload_n 1, 1) := by decide +kernel
theorem dX1_worth_54 : decode cX1_worth 54 = .ok (.invokestatic 18, 3) := by decide +kernel
theorem dX1_worth_57 : decode cX1_worth 57 = .ok (.bipush 7, 2) := by decide +kernel
theorem dX1_worth_59 : decode cX1_worth 59 = .ok (.isub, 1) := by decide +kernel
theorem dX1_worth_60 : decode cX1_worth 60 = .ok (.ireturn, 1) := by decide +kernel
theorem dX1_worth_61 : decode cX1_worth 61 = .ok (.iconst 2, 1) := by decide +kernel
theorem dX1_worth_62 : decode cX1_worth 62 = .ok (.ireturn, 1) := by decide +kernel
theorem dX1_worth_63 : decode cX1_worth 63 = .ok (.iload_n 1, 1) := by decide +kernel
theorem dX1_worth_64 : decode cX1_worth 64 = .ok (.ireturn, 1) := by decide +kernel
theorem dX1_doubtingWorth_0 : decode cX1_doubtingWorth 0 = .ok (.iload_n 0, 1) := by decide +kernel
theorem dX1_doubtingWorth_1 : decode cX1_doubtingWorth 1 = .ok (.iconst 5, 1) := by decide +kernel
theorem dX1_doubtingWorth_2 : decode cX1_doubtingWorth 2 = .ok (.iadd, 1) := by decide +kernel
theorem dX1_doubtingWorth_3 : decode cX1_doubtingWorth 3 = .ok (.ireturn, 1) := by decide +kernel
theorem dX1_swayedWorth_0 : decode cX1_swayedWorth 0 = .ok (.bipush 99, 2) := by decide +kernel
theorem dX1_swayedWorth_2 : decode cX1_swayedWorth 2 = .ok (.iload_n 0, 1) := by decide +kernel
theorem dX1_swayedWorth_3 : decode cX1_swayedWorth 3 = .ok (.isub, 1) := by decide +kernel
theorem dX1_swayedWorth_4 : decode cX1_swayedWorth 4 = .ok (.ireturn, 1) := by decide +kernel
theorem dX1_belief_0 : decode cX1_belief 0 = .ok (.iload_n 0, 1) := by decide +kernel
theorem dX1_belief_1 : decode cX1_belief 1 = .ok (.tableswitch 61 1 4 #[31, 48, 37, 53], 31) := by decide +kernel
theorem dX1_belief_32 : decode cX1_belief 32 = .ok (.iload_n 1, 1) := by decide +kernel
theorem dX1_belief_33 : decode cX1_belief 33 = .ok (.iload_n 2, 1) := by decide +kernel
theorem dX1_belief_34 : decode cX1_belief 34 = .ok (.invokestatic 21, 3) := by decide +kernel
theorem dX1_belief_37 : decode cX1_belief 37 = .ok (.ireturn, 1) := by decide +kernel
theorem dX1_belief_38 : decode cX1_belief 38 = .ok (.iload_n 1, 1) := by decide +kernel
theorem dX1_belief_39 : decode cX1_belief 39 = .ok (.iload_n 2, 1) := by decide +kernel
theorem dX1_belief_40 : decode cX1_belief 40 = .ok (.invokestatic 21, 3) := by decide +kernel
theorem dX1_belief_43 : decode cX1_belief 43 = .ok (.bipush 50, 2) := by decide +kernel
theorem dX1_belief_45 : decode cX1_belief 45 = .ok (.iadd, 1) := by decide +kernel
theorem dX1_belief_46 : decode cX1_belief 46 = .ok (.iconst 2, 1) := by decide +kernel
theorem dX1_belief_47 : decode cX1_belief 47 = .ok (.idiv, 1) := by decide +kernel
theorem dX1_belief_48 : decode cX1_belief 48 = .ok (.ireturn, 1) := by decide +kernel
theorem dX1_belief_49 : decode cX1_belief 49 = .ok (.iload_n 1, 1) := by decide +kernel
theorem dX1_belief_50 : decode cX1_belief 50 = .ok (.invokestatic 25, 3) := by decide +kernel
theorem dX1_belief_53 : decode cX1_belief 53 = .ok (.ireturn, 1) := by decide +kernel
theorem dX1_belief_54 : decode cX1_belief 54 = .ok (.bipush 100, 2) := by decide +kernel
theorem dX1_belief_56 : decode cX1_belief 56 = .ok (.iload_n 1, 1) := by decide +kernel
theorem dX1_belief_57 : decode cX1_belief 57 = .ok (.invokestatic 25, 3) := by decide +kernel
theorem dX1_belief_60 : decode cX1_belief 60 = .ok (.isub, 1) := by decide +kernel
theorem dX1_belief_61 : decode cX1_belief 61 = .ok (.ireturn, 1) := by decide +kernel
theorem dX1_belief_62 : decode cX1_belief 62 = .ok (.iload_n 1, 1) := by decide +kernel
theorem dX1_belief_63 : decode cX1_belief 63 = .ok (.ireturn, 1) := by decide +kernel
theorem dX1_doubtingBelief_0 : decode cX1_doubtingBelief 0 = .ok (.iconst 0, 1) := by decide +kernel
theorem dX1_doubtingBelief_1 : decode cX1_doubtingBelief 1 = .ok (.iload_n 0, 1) := by decide +kernel
theorem dX1_doubtingBelief_2 : decode cX1_doubtingBelief 2 = .ok (.iload_n 1, 1) := by decide +kernel
theorem dX1_doubtingBelief_3 : decode cX1_doubtingBelief 3 = .ok (.isub, 1) := by decide +kernel
theorem dX1_doubtingBelief_4 : decode cX1_doubtingBelief 4 = .ok (.invokestatic 28, 3) := by decide +kernel
theorem dX1_doubtingBelief_7 : decode cX1_doubtingBelief 7 = .ok (.ireturn, 1) := by decide +kernel
theorem dX1_swayedBelief_0 : decode cX1_swayedBelief 0 = .ok (.iload_n 0, 1) := by decide +kernel
theorem dX1_swayedBelief_1 : decode cX1_swayedBelief 1 = .ok (.bipush 50, 2) := by decide +kernel
theorem dX1_swayedBelief_3 : decode cX1_swayedBelief 3 = .ok (.if_icmp .le 8, 3) := by decide +kernel
theorem dX1_swayedBelief_6 : decode cX1_swayedBelief 6 = .ok (.bipush 10, 2) := by decide +kernel
theorem dX1_swayedBelief_8 : decode cX1_swayedBelief 8 = .ok (.goto 15, 3) := by decide +kernel
theorem dX1_swayedBelief_11 : decode cX1_swayedBelief 11 = .ok (.iload_n 0, 1) := by decide +kernel
theorem dX1_swayedBelief_12 : decode cX1_swayedBelief 12 = .ok (.bipush 50, 2) := by decide +kernel
theorem dX1_swayedBelief_14 : decode cX1_swayedBelief 14 = .ok (.if_icmp .ge 8, 3) := by decide +kernel
theorem dX1_swayedBelief_17 : decode cX1_swayedBelief 17 = .ok (.bipush (-10), 2) := by decide +kernel
theorem dX1_swayedBelief_19 : decode cX1_swayedBelief 19 = .ok (.goto 4, 3) := by decide +kernel
theorem dX1_swayedBelief_22 : decode cX1_swayedBelief 22 = .ok (.iconst 0, 1) := by decide +kernel
theorem dX1_swayedBelief_23 : decode cX1_swayedBelief 23 = .ok (.istore_n 1, 1) := by decide +kernel
theorem dX1_swayedBelief_24 : decode cX1_swayedBelief 24 = .ok (.iload_n 0, 1) := by decide +kernel
theorem dX1_swayedBelief_25 : decode cX1_swayedBelief 25 = .ok (.iload_n 1, 1) := by decide +kernel
theorem dX1_swayedBelief_26 : decode cX1_swayedBelief 26 = .ok (.iadd, 1) := by decide +kernel
theorem dX1_swayedBelief_27 : decode cX1_swayedBelief 27 = .ok (.iconst 0, 1) := by decide +kernel
theorem dX1_swayedBelief_28 : decode cX1_swayedBelief 28 = .ok (.bipush 100, 2) := by decide +kernel
theorem dX1_swayedBelief_30 : decode cX1_swayedBelief 30 = .ok (.invokestatic 33, 3) := by decide +kernel
theorem dX1_swayedBelief_33 : decode cX1_swayedBelief 33 = .ok (.ireturn, 1) := by decide +kernel
theorem dX1_passes_0 : decode cX1_passes 0 = .ok (.aload_n 0, 1) := by decide +kernel
theorem dX1_passes_1 : decode cX1_passes 1 = .ok (.getfield 37, 3) := by decide +kernel
theorem dX1_passes_4 : decode cX1_passes 4 = .ok (.iload_n 1, 1) := by decide +kernel
theorem dX1_passes_5 : decode cX1_passes 5 = .ok (.iaload, 1) := by decide +kernel
theorem dX1_passes_6 : decode cX1_passes 6 = .ok (.aload_n 0, 1) := by decide +kernel
theorem dX1_passes_7 : decode cX1_passes 7 = .ok (.getfield 37, 3) := by decide +kernel
theorem dX1_passes_10 : decode cX1_passes 10 = .ok (.iload_n 2, 1) := by decide +kernel
theorem dX1_passes_11 : decode cX1_passes 11 = .ok (.iaload, 1) := by decide +kernel
theorem dX1_passes_12 : decode cX1_passes 12 = .ok (.iconst (-1), 1) := by decide +kernel
theorem dX1_passes_13 : decode cX1_passes 13 = .ok (.ixor, 1) := by decide +kernel
theorem dX1_passes_14 : decode cX1_passes 14 = .ok (.iand, 1) := by decide +kernel
theorem dX1_passes_15 : decode cX1_passes 15 = .ok (.istore_n 3, 1) := by decide +kernel
theorem dX1_passes_16 : decode cX1_passes 16 = .ok (.aload_n 0, 1) := by decide +kernel
theorem dX1_passes_17 : decode cX1_passes 17 = .ok (.getfield 43, 3) := by decide +kernel
theorem dX1_passes_20 : decode cX1_passes 20 = .ok (.iload_n 1, 1) := by decide +kernel
theorem dX1_passes_21 : decode cX1_passes 21 = .ok (.iaload, 1) := by decide +kernel
theorem dX1_passes_22 : decode cX1_passes 22 = .ok (.tableswitch 51 1 5 #[34, 39, 34, 39, 49], 34) := by decide +kernel
theorem dX1_passes_56 : decode cX1_passes 56 = .ok (.iload_n 3, 1) := by decide +kernel
theorem dX1_passes_57 : decode cX1_passes 57 = .ok (.invokestatic 46, 3) := by decide +kernel
theorem dX1_passes_60 : decode cX1_passes 60 = .ok (.ireturn, 1) := by decide +kernel
theorem dX1_passes_61 : decode cX1_passes 61 = .ok (.iload_n 3, 1) := by decide +kernel
theorem dX1_passes_62 : decode cX1_passes 62 = .ok (.aload_n 0, 1) := by decide +kernel
theorem dX1_passes_63 : decode cX1_passes 63 = .ok (.invokevirtual 49, 3) := by decide +kernel
theorem dX1_passes_66 : decode cX1_passes 66 = .ok (.iand, 1) := by decide +kernel
theorem dX1_passes_67 : decode cX1_passes 67 = .ok (.invokestatic 53, 3) := by decide +kernel
theorem dX1_passes_70 : decode cX1_passes 70 = .ok (.ireturn, 1) := by decide +kernel
theorem dX1_passes_71 : decode cX1_passes 71 = .ok (.iconst 0, 1) := by decide +kernel
theorem dX1_passes_72 : decode cX1_passes 72 = .ok (.ireturn, 1) := by decide +kernel
theorem dX1_passes_73 : decode cX1_passes 73 = .ok (.iload_n 3, 1) := by decide +kernel
theorem dX1_passes_74 : decode cX1_passes 74 = .ok (.invokestatic 53, 3) := by decide +kernel
theorem dX1_passes_77 : decode cX1_passes 77 = .ok (.ireturn, 1) := by decide +kernel
theorem dX1_least_0 : decode cX1_least 0 = .ok (.iload_n 0, 1) := by decide +kernel
theorem dX1_least_1 : decode cX1_least 1 = .ok (.iload_n 0, 1) := by decide +kernel
theorem dX1_least_2 : decode cX1_least 2 = .ok (.ineg, 1) := by decide +kernel
theorem dX1_least_3 : decode cX1_least 3 = .ok (.iand, 1) := by decide +kernel
theorem dX1_least_4 : decode cX1_least 4 = .ok (.ireturn, 1) := by decide +kernel
theorem dX1_greatest_0 : decode cX1_greatest 0 = .ok (.bipush 7, 2) := by decide +kernel
theorem dX1_greatest_2 : decode cX1_greatest 2 = .ok (.istore_n 1, 1) := by decide +kernel
theorem dX1_greatest_3 : decode cX1_greatest 3 = .ok (.iload_n 1, 1) := by decide +kernel
theorem dX1_greatest_4 : decode cX1_greatest 4 = .ok (.ifCond .lt 21, 3) := by decide +kernel
theorem dX1_greatest_7 : decode cX1_greatest 7 = .ok (.iload_n 0, 1) := by decide +kernel
theorem dX1_greatest_8 : decode cX1_greatest 8 = .ok (.iload_n 1, 1) := by decide +kernel
theorem dX1_greatest_9 : decode cX1_greatest 9 = .ok (.ishr, 1) := by decide +kernel
theorem dX1_greatest_10 : decode cX1_greatest 10 = .ok (.iconst 1, 1) := by decide +kernel
theorem dX1_greatest_11 : decode cX1_greatest 11 = .ok (.iand, 1) := by decide +kernel
theorem dX1_greatest_12 : decode cX1_greatest 12 = .ok (.ifCond .eq 7, 3) := by decide +kernel
theorem dX1_greatest_15 : decode cX1_greatest 15 = .ok (.iconst 1, 1) := by decide +kernel
theorem dX1_greatest_16 : decode cX1_greatest 16 = .ok (.iload_n 1, 1) := by decide +kernel
theorem dX1_greatest_17 : decode cX1_greatest 17 = .ok (.ishl, 1) := by decide +kernel
theorem dX1_greatest_18 : decode cX1_greatest 18 = .ok (.ireturn, 1) := by decide +kernel
theorem dX1_greatest_19 : decode cX1_greatest 19 = .ok (.iinc 1 (-1), 3) := by decide +kernel
theorem dX1_greatest_22 : decode cX1_greatest 22 = .ok (.goto (-19), 3) := by decide +kernel
theorem dX1_greatest_25 : decode cX1_greatest 25 = .ok (.iconst 0, 1) := by decide +kernel
theorem dX1_greatest_26 : decode cX1_greatest 26 = .ok (.ireturn, 1) := by decide +kernel
theorem dX2_init_0 : decode cX2_init 0 = .ok (.aload_n 0, 1) := by decide +kernel
theorem dX2_init_1 : decode cX2_init 1 = .ok (.invokespecial 3, 3) := by decide +kernel
theorem dX2_init_4 : decode cX2_init 4 = .ok (.aload_n 0, 1) := by decide +kernel
theorem dX2_init_5 : decode cX2_init 5 = .ok (.bipush 96, 2) := by decide +kernel
theorem dX2_init_7 : decode cX2_init 7 = .ok (.newarray .int, 2) := by decide +kernel
theorem dX2_init_9 : decode cX2_init 9 = .ok (.putfield 9, 3) := by decide +kernel
theorem dX2_init_12 : decode cX2_init 12 = .ok (.return_, 1) := by decide +kernel
theorem dX2_begin_0 : decode cX2_begin 0 = .ok (.aload_n 0, 1) := by decide +kernel
theorem dX2_begin_1 : decode cX2_begin 1 = .ok (.iload_n 1, 1) := by decide +kernel
theorem dX2_begin_2 : decode cX2_begin 2 = .ok (.putfield 15, 3) := by decide +kernel
theorem dX2_begin_5 : decode cX2_begin 5 = .ok (.aload_n 0, 1) := by decide +kernel
theorem dX2_begin_6 : decode cX2_begin 6 = .ok (.iconst 0, 1) := by decide +kernel
theorem dX2_begin_7 : decode cX2_begin 7 = .ok (.putfield 19, 3) := by decide +kernel
theorem dX2_begin_10 : decode cX2_begin 10 = .ok (.aload_n 0, 1) := by decide +kernel
theorem dX2_begin_11 : decode cX2_begin 11 = .ok (.iconst 0, 1) := by decide +kernel
theorem dX2_begin_12 : decode cX2_begin 12 = .ok (.putfield 22, 3) := by decide +kernel
theorem dX2_begin_15 : decode cX2_begin 15 = .ok (.return_, 1) := by decide +kernel
theorem dX2_become_0 : decode cX2_become 0 = .ok (.aload_n 0, 1) := by decide +kernel
theorem dX2_become_1 : decode cX2_become 1 = .ok (.aload_n 1, 1) := by decide +kernel
theorem dX2_become_2 : decode cX2_become 2 = .ok (.getfield 15, 3) := by decide +kernel
theorem dX2_become_5 : decode cX2_become 5 = .ok (.putfield 15, 3) := by decide +kernel
theorem dX2_become_8 : decode cX2_become 8 = .ok (.aload_n 0, 1) := by decide +kernel
theorem dX2_become_9 : decode cX2_become 9 = .ok (.aload_n 1, 1) := by decide +kernel
theorem dX2_become_10 : decode cX2_become 10 = .ok (.getfield 19, 3) := by decide +kernel
theorem dX2_become_13 : decode cX2_become 13 = .ok (.putfield 19, 3) := by decide +kernel
theorem dX2_become_16 : decode cX2_become 16 = .ok (.aload_n 0, 1) := by decide +kernel
theorem dX2_become_17 : decode cX2_become 17 = .ok (.aload_n 1, 1) := by decide +kernel
theorem dX2_become_18 : decode cX2_become 18 = .ok (.getfield 22, 3) := by decide +kernel
theorem dX2_become_21 : decode cX2_become 21 = .ok (.putfield 22, 3) := by decide +kernel
theorem dX2_become_24 : decode cX2_become 24 = .ok (.aload_n 1, 1) := by decide +kernel
theorem dX2_become_25 : decode cX2_become 25 = .ok (.getfield 9, 3) := by decide +kernel
theorem dX2_become_28 : decode cX2_become 28 = .ok (.iconst 0, 1) := by decide +kernel
theorem dX2_become_29 : decode cX2_become 29 = .ok (.aload_n 0, 1) := by decide +kernel
theorem dX2_become_30 : decode cX2_become 30 = .ok (.getfield 9, 3) := by decide +kernel
theorem dX2_become_33 : decode cX2_become 33 = .ok (.iconst 0, 1) := by decide +kernel
theorem dX2_become_34 : decode cX2_become 34 = .ok (.bipush 96, 2) := by decide +kernel
theorem dX2_become_36 : decode cX2_become 36 = .ok (.invokestatic 25, 3) := by decide +kernel
theorem dX2_become_39 : decode cX2_become 39 = .ok (.return_, 1) := by decide +kernel
theorem dX2_addNumber_0 : decode cX2_addNumber 0 = .ok (.aload_n 0, 1) := by decide +kernel
theorem dX2_addNumber_1 : decode cX2_addNumber 1 = .ok (.dup, 1) := by decide +kernel
theorem dX2_addNumber_2 : decode cX2_addNumber 2 = .ok (.getfield 19, 3) := by decide +kernel
theorem dX2_addNumber_5 : decode cX2_addNumber 5 = .ok (.iconst 1, 1) := by decide +kernel
theorem dX2_addNumber_6 : decode cX2_addNumber 6 = .ok (.iadd, 1) := by decide +kernel
theorem dX2_addNumber_7 : decode cX2_addNumber 7 = .ok (.putfield 19, 3) := by decide +kernel
theorem dX2_addNumber_10 : decode cX2_addNumber 10 = .ok (.aload_n 0, 1) := by decide +kernel
theorem dX2_addNumber_11 : decode cX2_addNumber 11 = .ok (.iload_n 1, 1) := by decide +kernel
theorem dX2_addNumber_12 : decode cX2_addNumber 12 = .ok (.invokevirtual 31, 3) := by decide +kernel
theorem dX2_addNumber_15 : decode cX2_addNumber 15 = .ok (.return_, 1) := by decide +kernel
theorem dX2_addName_0 : decode cX2_addName 0 = .ok (.aload_n 0, 1) := by decide +kernel
theorem dX2_addName_1 : decode cX2_addName 1 = .ok (.dup, 1) := by decide +kernel
theorem dX2_addName_2 : decode cX2_addName 2 = .ok (.getfield 19, 3) := by decide +kernel
theorem dX2_addName_5 : decode cX2_addName 5 = .ok (.iconst 1, 1) := by decide +kernel
theorem dX2_addName_6 : decode cX2_addName 6 = .ok (.iadd, 1) := by decide +kernel
theorem dX2_addName_7 : decode cX2_addName 7 = .ok (.putfield 19, 3) := by decide +kernel
theorem dX2_addName_10 : decode cX2_addName 10 = .ok (.aload_n 0, 1) := by decide +kernel
theorem dX2_addName_11 : decode cX2_addName 11 = .ok (.iconst (-1), 1) := by decide +kernel
theorem dX2_addName_12 : decode cX2_addName 12 = .ok (.iload_n 1, 1) := by decide +kernel
theorem dX2_addName_13 : decode cX2_addName 13 = .ok (.isub, 1) := by decide +kernel
theorem dX2_addName_14 : decode cX2_addName 14 = .ok (.invokevirtual 31, 3) := by decide +kernel
theorem dX2_addName_17 : decode cX2_addName 17 = .ok (.return_, 1) := by decide +kernel
theorem dX2_addSign_0 : decode cX2_addSign 0 = .ok (.aload_n 0, 1) := by decide +kernel
theorem dX2_addSign_1 : decode cX2_addSign 1 = .ok (.iload_n 1, 1) := by decide +kernel
theorem dX2_addSign_2 : decode cX2_addSign 2 = .ok (.ineg, 1) := by decide +kernel
theorem dX2_addSign_3 : decode cX2_addSign 3 = .ok (.invokevirtual 31, 3) := by decide +kernel
theorem dX2_addSign_6 : decode cX2_addSign 6 = .ok (.return_, 1) := by decide +kernel
theorem dX2_add_0 : decode cX2_add 0 = .ok (.aload_n 0, 1) := by decide +kernel
theorem dX2_add_1 : decode cX2_add 1 = .ok (.getfield 22, 3) := by decide +kernel
theorem dX2_add_4 : decode cX2_add 4 = .ok (.bipush 96, 2) := by decide +kernel
theorem dX2_add_6 : decode cX2_add 6 = .ok (.if_icmp .ge 23, 3) := by decide +kernel
theorem dX2_add_9 : decode cX2_add 9 = .ok (.aload_n 0, 1) := by decide +kernel
theorem dX2_add_10 : decode cX2_add 10 = .ok (.getfield 9, 3) := by decide +kernel
theorem dX2_add_13 : decode cX2_add 13 = .ok (.aload_n 0, 1) := by decide +kernel
theorem dX2_add_14 : decode cX2_add 14 = .ok (.getfield 22, 3) := by decide +kernel
theorem dX2_add_17 : decode cX2_add 17 = .ok (.iload_n 1, 1) := by decide +kernel
theorem dX2_add_18 : decode cX2_add 18 = .ok (.iastore, 1) := by decide +kernel
theorem dX2_add_19 : decode cX2_add 19 = .ok (.aload_n 0, 1) := by decide +kernel
theorem dX2_add_20 : decode cX2_add 20 = .ok (.dup, 1) := by decide +kernel
theorem dX2_add_21 : decode cX2_add 21 = .ok (.getfield 22, 3) := by decide +kernel
theorem dX2_add_24 : decode cX2_add 24 = .ok (.iconst 1, 1) := by decide +kernel
theorem dX2_add_25 : decode cX2_add 25 = .ok (.iadd, 1) := by decide +kernel
theorem dX2_add_26 : decode cX2_add 26 = .ok (.putfield 22, 3) := by decide +kernel
theorem dX2_add_29 : decode cX2_add 29 = .ok (.return_, 1) := by decide +kernel
theorem dX2_work_0 : decode cX2_work 0 = .ok (.iconst 0, 1) := by decide +kernel
theorem dX2_work_1 : decode cX2_work 1 = .ok (.istore 5, 2) := by decide +kernel
theorem dX2_work_3 : decode cX2_work 3 = .ok (.iconst 0, 1) := by decide +kernel
theorem dX2_work_4 : decode cX2_work 4 = .ok (.istore 6, 2) := by decide +kernel
theorem dX2_work_6 : decode cX2_work 6 = .ok (.iload 6, 2) := by decide +kernel
theorem dX2_work_8 : decode cX2_work 8 = .ok (.aload_n 0, 1) := by decide +kernel
theorem dX2_work_9 : decode cX2_work 9 = .ok (.getfield 22, 3) := by decide +kernel
theorem dX2_work_12 : decode cX2_work 12 = .ok (.if_icmp .ge 134, 3) := by decide +kernel
theorem dX2_work_15 : decode cX2_work 15 = .ok (.aload_n 0, 1) := by decide +kernel
theorem dX2_work_16 : decode cX2_work 16 = .ok (.getfield 9, 3) := by decide +kernel
theorem dX2_work_19 : decode cX2_work 19 = .ok (.iload 6, 2) := by decide +kernel
theorem dX2_work_21 : decode cX2_work 21 = .ok (.iaload, 1) := by decide +kernel
theorem dX2_work_22 : decode cX2_work 22 = .ok (.istore 7, 2) := by decide +kernel
theorem dX2_work_24 : decode cX2_work 24 = .ok (.iload 7, 2) := by decide +kernel
theorem dX2_work_26 : decode cX2_work 26 = .ok (.bipush (-3), 2) := by decide +kernel
theorem dX2_work_28 : decode cX2_work 28 = .ok (.if_icmp .lt 41, 3) := by decide +kernel
theorem dX2_work_31 : decode cX2_work 31 = .ok (.iload 5, 2) := by decide +kernel
theorem dX2_work_33 : decode cX2_work 33 = .ok (.aload_n 1, 1) := by decide +kernel
theorem dX2_work_34 : decode cX2_work 34 = .ok (.arraylength, 1) := by decide +kernel
theorem dX2_work_35 : decode cX2_work 35 = .ok (.if_icmp .lt 5, 3) := by decide +kernel
theorem dX2_work_38 : decode cX2_work 38 = .ok (.iconst 0, 1) := by decide +kernel
theorem dX2_work_39 : decode cX2_work 39 = .ok (.ireturn, 1) := by decide +kernel
theorem dX2_work_40 : decode cX2_work 40 = .ok (.aload_n 1, 1) := by decide +kernel
theorem dX2_work_41 : decode cX2_work 41 = .ok (.iload 5, 2) := by decide +kernel
theorem dX2_work_43 : decode cX2_work 43 = .ok (.iload 7, 2) := by decide +kernel
theorem dX2_work_45 : decode cX2_work 45 = .ok (.ifCond .lt 8, 3) := by decide +kernel
theorem dX2_work_48 : decode cX2_work 48 = .ok (.iload 7, 2) := by decide +kernel
theorem dX2_work_50 : decode cX2_work 50 = .ok (.goto 12, 3) := by decide +kernel
theorem dX2_work_53 : decode cX2_work 53 = .ok (.iload 7, 2) := by decide +kernel
theorem dX2_work_55 : decode cX2_work 55 = .ok (.iload_n 2, 1) := by decide +kernel
theorem dX2_work_56 : decode cX2_work 56 = .ok (.iload_n 3, 1) := by decide +kernel
theorem dX2_work_57 : decode cX2_work 57 = .ok (.iload 4, 2) := by decide +kernel
theorem dX2_work_59 : decode cX2_work 59 = .ok (.invokestatic 35, 3) := by decide +kernel
theorem dX2_work_62 : decode cX2_work 62 = .ok (.iastore, 1) := by decide +kernel
theorem dX2_work_63 : decode cX2_work 63 = .ok (.iinc 5 1, 3) := by decide +kernel
theorem dX2_work_66 : decode cX2_work 66 = .ok (.goto 74, 3) := by decide +kernel
theorem dX2_work_69 : decode cX2_work 69 = .ok (.iload 7, 2) := by decide +kernel
theorem dX2_work_71 : decode cX2_work 71 = .ok (.bipush (-33), 2) := by decide +kernel
theorem dX2_work_73 : decode cX2_work 73 = .ok (.if_icmp .ne 34, 3) := by decide +kernel
theorem dX2_work_76 : decode cX2_work 76 = .ok (.iload 5, 2) := by decide +kernel
theorem dX2_work_78 : decode cX2_work 78 = .ok (.iconst 1, 1) := by decide +kernel
theorem dX2_work_79 : decode cX2_work 79 = .ok (.if_icmp .ge 5, 3) := by decide +kernel
theorem dX2_work_82 : decode cX2_work 82 = .ok (.iconst 0, 1) := by decide +kernel
theorem dX2_work_83 : decode cX2_work 83 = .ok (.ireturn, 1) := by decide +kernel
theorem dX2_work_84 : decode cX2_work 84 = .ok (.aload_n 1, 1) := by decide +kernel
theorem dX2_work_85 : decode cX2_work 85 = .ok (.iload 5, 2) := by decide +kernel
theorem dX2_work_87 : decode cX2_work 87 = .ok (.iconst 1, 1) := by decide +kernel
theorem dX2_work_88 : decode cX2_work 88 = .ok (.isub, 1) := by decide +kernel
theorem dX2_work_89 : decode cX2_work 89 = .ok (.aload_n 1, 1) := by decide +kernel
theorem dX2_work_90 : decode cX2_work 90 = .ok (.iload 5, 2) := by decide +kernel
theorem dX2_work_92 : decode cX2_work 92 = .ok (.iconst 1, 1) := by decide +kernel
theorem dX2_work_93 : decode cX2_work 93 = .ok (.isub, 1) := by decide +kernel
theorem dX2_work_94 : decode cX2_work 94 = .ok (.iaload, 1) := by decide +kernel
theorem dX2_work_95 : decode cX2_work 95 = .ok (.ifCond .ne 7, 3) := by decide +kernel
theorem dX2_work_98 : decode cX2_work 98 = .ok (.iconst 1, 1) := by decide +kernel
theorem dX2_work_99 : decode cX2_work 99 = .ok (.goto 4, 3) := by decide +kernel
theorem dX2_work_102 : decode cX2_work 102 = .ok (.iconst 0, 1) := by decide +kernel
theorem dX2_work_103 : decode cX2_work 103 = .ok (.iastore, 1) := by decide +kernel
theorem dX2_work_104 : decode cX2_work 104 = .ok (.goto 36, 3) := by decide +kernel
theorem dX2_work_107 : decode cX2_work 107 = .ok (.iload 5, 2) := by decide +kernel
theorem dX2_work_109 : decode cX2_work 109 = .ok (.iconst 2, 1) := by decide +kernel
theorem dX2_work_110 : decode cX2_work 110 = .ok (.if_icmp .ge 5, 3) := by decide +kernel
theorem dX2_work_113 : decode cX2_work 113 = .ok (.iconst 0, 1) := by decide +kernel
theorem dX2_work_114 : decode cX2_work 114 = .ok (.ireturn, 1) := by decide +kernel
theorem dX2_work_115 : decode cX2_work 115 = .ok (.iinc 5 (-1), 3) := by decide +kernel
theorem dX2_work_118 : decode cX2_work 118 = .ok (.aload_n 1, 1) := by decide +kernel
theorem dX2_work_119 : decode cX2_work 119 = .ok (.iload 5, 2) := by decide +kernel
theorem dX2_work_121 : decode cX2_work 121 = .ok (.iconst 1, 1) := by decide +kernel
theorem dX2_work_122 : decode cX2_work 122 = .ok (.isub, 1) := by decide +kernel
theorem dX2_work_123 : decode cX2_work 123 = .ok (.iload 7, 2) := by decide +kernel
theorem dX2_work_125 : decode cX2_work 125 = .ok (.ineg, 1) := by decide +kernel
theorem dX2_work_126 : decode cX2_work 126 = .ok (.aload_n 1, 1) := by decide +kernel
theorem dX2_work_127 : decode cX2_work 127 = .ok (.iload 5, 2) := by decide +kernel
theorem dX2_work_129 : decode cX2_work 129 = .ok (.iconst 1, 1) := by decide +kernel
theorem dX2_work_130 : decode cX2_work 130 = .ok (.isub, 1) := by decide +kernel
theorem dX2_work_131 : decode cX2_work 131 = .ok (.iaload, 1) := by decide +kernel
theorem dX2_work_132 : decode cX2_work 132 = .ok (.aload_n 1, 1) := by decide +kernel
theorem dX2_work_133 : decode cX2_work 133 = .ok (.iload 5, 2) := by decide +kernel
theorem dX2_work_135 : decode cX2_work 135 = .ok (.iaload, 1) := by decide +kernel
theorem dX2_work_136 : decode cX2_work 136 = .ok (.invokestatic 39, 3) := by decide +kernel
theorem dX2_work_139 : decode cX2_work 139 = .ok (.iastore, 1) := by decide +kernel
theorem dX2_work_140 : decode cX2_work 140 = .ok (.iinc 6 1, 3) := by decide +kernel
theorem dX2_work_143 : decode cX2_work 143 = .ok (.goto (-137), 3) := by decide +kernel
theorem dX2_work_146 : decode cX2_work 146 = .ok (.iload 5, 2) := by decide +kernel
theorem dX2_work_148 : decode cX2_work 148 = .ok (.iconst 1, 1) := by decide +kernel
theorem dX2_work_149 : decode cX2_work 149 = .ok (.if_icmp .ge 7, 3) := by decide +kernel
theorem dX2_work_152 : decode cX2_work 152 = .ok (.iconst 0, 1) := by decide +kernel
theorem dX2_work_153 : decode cX2_work 153 = .ok (.goto 6, 3) := by decide +kernel
theorem dX2_work_156 : decode cX2_work 156 = .ok (.aload_n 1, 1) := by decide +kernel
theorem dX2_work_157 : decode cX2_work 157 = .ok (.iconst 0, 1) := by decide +kernel
theorem dX2_work_158 : decode cX2_work 158 = .ok (.iaload, 1) := by decide +kernel
theorem dX2_work_159 : decode cX2_work 159 = .ok (.ireturn, 1) := by decide +kernel
theorem dX2_named_0 : decode cX2_named 0 = .ok (.iload_n 0, 1) := by decide +kernel
theorem dX2_named_1 : decode cX2_named 1 = .ok (.lookupswitch 31 #[(-2, 29), (-1, 27)], 27) := by decide +kernel
theorem dX2_named_28 : decode cX2_named 28 = .ok (.iload_n 1, 1) := by decide +kernel
theorem dX2_named_29 : decode cX2_named 29 = .ok (.ireturn, 1) := by decide +kernel
theorem dX2_named_30 : decode cX2_named 30 = .ok (.iload_n 2, 1) := by decide +kernel
theorem dX2_named_31 : decode cX2_named 31 = .ok (.ireturn, 1) := by decide +kernel
theorem dX2_named_32 : decode cX2_named 32 = .ok (.iload_n 3, 1) := by decide +kernel
theorem dX2_named_33 : decode cX2_named 33 = .ok (.ireturn, 1) := by decide +kernel
theorem dX2_joined_0 : decode cX2_joined 0 = .ok (.iload_n 0, 1) := by decide +kernel
theorem dX2_joined_1 : decode cX2_joined 1 = .ok (.tableswitch 186 38 62 #[172, 186, 186, 186, 123, 115, 186, 119, 186, 127, 186, 186, 186, 186, 186, 186, 186, 186, 186, 186, 186, 186, 139, 150, 161], 115) := by decide +kernel
theorem dX2_joined_116 : decode cX2_joined 116 = .ok (.iload_n 1, 1) := by decide +kernel
theorem dX2_joined_117 : decode cX2_joined 117 = .ok (.iload_n 2, 1) := by decide +kernel
theorem dX2_joined_118 : decode cX2_joined 118 = .ok (.iadd, 1) := by decide +kernel
theorem dX2_joined_119 : decode cX2_joined 119 = .ok (.ireturn, 1) := by decide +kernel
theorem dX2_joined_120 : decode cX2_joined 120 = .ok (.iload_n 1, 1) := by decide +kernel
theorem dX2_joined_121 : decode cX2_joined 121 = .ok (.iload_n 2, 1) := by decide +kernel
theorem dX2_joined_122 : decode cX2_joined 122 = .ok (.isub, 1) := by decide +kernel
theorem dX2_joined_123 : decode cX2_joined 123 = .ok (.ireturn, 1) := by decide +kernel
theorem dX2_joined_124 : decode cX2_joined 124 = .ok (.iload_n 1, 1) := by decide +kernel
theorem dX2_joined_125 : decode cX2_joined 125 = .ok (.iload_n 2, 1) := by decide +kernel
theorem dX2_joined_126 : decode cX2_joined 126 = .ok (.imul, 1) := by decide +kernel
theorem dX2_joined_127 : decode cX2_joined 127 = .ok (.ireturn, 1) := by decide +kernel
theorem dX2_joined_128 : decode cX2_joined 128 = .ok (.iload_n 2, 1) := by decide +kernel
theorem dX2_joined_129 : decode cX2_joined 129 = .ok (.ifCond .ne 7, 3) := by decide +kernel
theorem dX2_joined_132 : decode cX2_joined 132 = .ok (.iconst 0, 1) := by decide +kernel
theorem dX2_joined_133 : decode cX2_joined 133 = .ok (.goto 6, 3) := by decide +kernel
theorem dX2_joined_136 : decode cX2_joined 136 = .ok (.iload_n 1, 1) := by decide +kernel
theorem dX2_joined_137 : decode cX2_joined 137 = .ok (.iload_n 2, 1) := by decide +kernel
theorem dX2_joined_138 : decode cX2_joined 138 = .ok (.idiv, 1) := by decide +kernel
theorem dX2_joined_139 : decode cX2_joined 139 = .ok (.ireturn, 1) := by decide +kernel
theorem dX2_joined_140 : decode cX2_joined 140 = .ok (.iload_n 1, 1) := by decide +kernel
theorem dX2_joined_141 : decode cX2_joined 141 = .ok (.iload_n 2, 1) := by decide +kernel
theorem dX2_joined_142 : decode cX2_joined 142 = .ok (.if_icmp .ge 7, 3) := by decide +kernel
theorem dX2_joined_145 : decode cX2_joined 145 = .ok (.iconst 1, 1) := by decide +kernel
theorem dX2_joined_146 : decode cX2_joined 146 = .ok (.goto 4, 3) := by decide +kernel
theorem dX2_joined_149 : decode cX2_joined 149 = .ok (.iconst 0, 1) := by decide +kernel
theorem dX2_joined_150 : decode cX2_joined 150 = .ok (.ireturn, 1) := by decide +kernel
theorem dX2_joined_151 : decode cX2_joined 151 = .ok (.iload_n 1, 1) := by decide +kernel
theorem dX2_joined_152 : decode cX2_joined 152 = .ok (.iload_n 2, 1) := by decide +kernel
theorem dX2_joined_153 : decode cX2_joined 153 = .ok (.if_icmp .ne 7, 3) := by decide +kernel
theorem dX2_joined_156 : decode cX2_joined 156 = .ok (.iconst 1, 1) := by decide +kernel
theorem dX2_joined_157 : decode cX2_joined 157 = .ok (.goto 4, 3) := by decide +kernel
theorem dX2_joined_160 : decode cX2_joined 160 = .ok (.iconst 0, 1) := by decide +kernel
theorem dX2_joined_161 : decode cX2_joined 161 = .ok (.ireturn, 1) := by decide +kernel
theorem dX2_joined_162 : decode cX2_joined 162 = .ok (.iload_n 1, 1) := by decide +kernel
theorem dX2_joined_163 : decode cX2_joined 163 = .ok (.iload_n 2, 1) := by decide +kernel
theorem dX2_joined_164 : decode cX2_joined 164 = .ok (.if_icmp .le 7, 3) := by decide +kernel
theorem dX2_joined_167 : decode cX2_joined 167 = .ok (.iconst 1, 1) := by decide +kernel
theorem dX2_joined_168 : decode cX2_joined 168 = .ok (.goto 4, 3) := by decide +kernel
theorem dX2_joined_171 : decode cX2_joined 171 = .ok (.iconst 0, 1) := by decide +kernel
theorem dX2_joined_172 : decode cX2_joined 172 = .ok (.ireturn, 1) := by decide +kernel
theorem dX2_joined_173 : decode cX2_joined 173 = .ok (.iload_n 1, 1) := by decide +kernel
theorem dX2_joined_174 : decode cX2_joined 174 = .ok (.ifCond .eq 11, 3) := by decide +kernel
theorem dX2_joined_177 : decode cX2_joined 177 = .ok (.iload_n 2, 1) := by decide +kernel
theorem dX2_joined_178 : decode cX2_joined 178 = .ok (.ifCond .eq 7, 3) := by decide +kernel
theorem dX2_joined_181 : decode cX2_joined 181 = .ok (.iconst 1, 1) := by decide +kernel
theorem dX2_joined_182 : decode cX2_joined 182 = .ok (.goto 4, 3) := by decide +kernel
theorem dX2_joined_185 : decode cX2_joined 185 = .ok (.iconst 0, 1) := by decide +kernel
theorem dX2_joined_186 : decode cX2_joined 186 = .ok (.ireturn, 1) := by decide +kernel
theorem dX2_joined_187 : decode cX2_joined 187 = .ok (.iload_n 1, 1) := by decide +kernel
theorem dX2_joined_188 : decode cX2_joined 188 = .ok (.ifCond .ne 7, 3) := by decide +kernel
theorem dX2_joined_191 : decode cX2_joined 191 = .ok (.iload_n 2, 1) := by decide +kernel
theorem dX2_joined_192 : decode cX2_joined 192 = .ok (.ifCond .eq 7, 3) := by decide +kernel
theorem dX2_joined_195 : decode cX2_joined 195 = .ok (.iconst 1, 1) := by decide +kernel
theorem dX2_joined_196 : decode cX2_joined 196 = .ok (.goto 4, 3) := by decide +kernel
theorem dX2_joined_199 : decode cX2_joined 199 = .ok (.iconst 0, 1) := by decide +kernel
theorem dX2_joined_200 : decode cX2_joined 200 = .ok (.ireturn, 1) := by decide +kernel
theorem dX3_init_0 : decode cX3_init 0 = .ok (.aload_n 0, 1) := by decide +kernel
theorem dX3_init_1 : decode cX3_init 1 = .ok (.invokespecial 3, 3) := by decide +kernel
theorem dX3_init_4 : decode cX3_init 4 = .ok (.aload_n 0, 1) := by decide +kernel
theorem dX3_init_5 : decode cX3_init 5 = .ok (.bipush 96, 2) := by decide +kernel
theorem dX3_init_7 : decode cX3_init 7 = .ok (.newarray .int, 2) := by decide +kernel
theorem dX3_init_9 : decode cX3_init 9 = .ok (.putfield 9, 3) := by decide +kernel
theorem dX3_init_12 : decode cX3_init 12 = .ok (.aload_n 0, 1) := by decide +kernel
theorem dX3_init_13 : decode cX3_init 13 = .ok (.bipush 14, 2) := by decide +kernel
theorem dX3_init_15 : decode cX3_init 15 = .ok (.anewarray 15, 3) := by decide +kernel
theorem dX3_init_18 : decode cX3_init 18 = .ok (.putfield 17, 3) := by decide +kernel
theorem dX3_init_21 : decode cX3_init 21 = .ok (.iconst 0, 1) := by decide +kernel
theorem dX3_init_22 : decode cX3_init 22 = .ok (.istore_n 1, 1) := by decide +kernel
theorem dX3_init_23 : decode cX3_init 23 = .ok (.iload_n 1, 1) := by decide +kernel
theorem dX3_init_24 : decode cX3_init 24 = .ok (.bipush 14, 2) := by decide +kernel
theorem dX3_init_26 : decode cX3_init 26 = .ok (.if_icmp .ge 22, 3) := by decide +kernel
theorem dX3_init_29 : decode cX3_init 29 = .ok (.aload_n 0, 1) := by decide +kernel
theorem dX3_init_30 : decode cX3_init 30 = .ok (.getfield 17, 3) := by decide +kernel
theorem dX3_init_33 : decode cX3_init 33 = .ok (.iload_n 1, 1) := by decide +kernel
theorem dX3_init_34 : decode cX3_init 34 = .ok (.new 15, 3) := by decide +kernel
theorem dX3_init_37 : decode cX3_init 37 = .ok (.dup, 1) := by decide +kernel
theorem dX3_init_38 : decode cX3_init 38 = .ok (.invokespecial 21, 3) := by decide +kernel
theorem dX3_init_41 : decode cX3_init 41 = .ok (.aastore, 1) := by decide +kernel
theorem dX3_init_42 : decode cX3_init 42 = .ok (.iinc 1 1, 3) := by decide +kernel
theorem dX3_init_45 : decode cX3_init 45 = .ok (.goto (-22), 3) := by decide +kernel
theorem dX3_init_48 : decode cX3_init 48 = .ok (.return_, 1) := by decide +kernel
theorem dX3_at_0 : decode cX3_at 0 = .ok (.aload_n 0, 1) := by decide +kernel
theorem dX3_at_1 : decode cX3_at 1 = .ok (.getfield 17, 3) := by decide +kernel
theorem dX3_at_4 : decode cX3_at 4 = .ok (.iload_n 1, 1) := by decide +kernel
theorem dX3_at_5 : decode cX3_at 5 = .ok (.ifCond .lt 13, 3) := by decide +kernel
theorem dX3_at_8 : decode cX3_at 8 = .ok (.iload_n 1, 1) := by decide +kernel
theorem dX3_at_9 : decode cX3_at 9 = .ok (.bipush 14, 2) := by decide +kernel
theorem dX3_at_11 : decode cX3_at 11 = .ok (.if_icmp .ge 7, 3) := by decide +kernel
theorem dX3_at_14 : decode cX3_at 14 = .ok (.iload_n 1, 1) := by decide +kernel
theorem dX3_at_15 : decode cX3_at 15 = .ok (.goto 4, 3) := by decide +kernel
theorem dX3_at_18 : decode cX3_at 18 = .ok (.iconst 0, 1) := by decide +kernel
theorem dX3_at_19 : decode cX3_at 19 = .ok (.aaload, 1) := by decide +kernel
theorem dX3_at_20 : decode cX3_at 20 = .ok (.areturn, 1) := by decide +kernel
theorem dX3_gives_0 : decode cX3_gives 0 = .ok (.aload_n 0, 1) := by decide +kernel
theorem dX3_gives_1 : decode cX3_gives 1 = .ok (.iload_n 1, 1) := by decide +kernel
theorem dX3_gives_2 : decode cX3_gives 2 = .ok (.invokevirtual 22, 3) := by decide +kernel
theorem dX3_gives_5 : decode cX3_gives 5 = .ok (.aload_n 0, 1) := by decide +kernel
theorem dX3_gives_6 : decode cX3_gives 6 = .ok (.getfield 9, 3) := by decide +kernel
theorem dX3_gives_9 : decode cX3_gives 9 = .ok (.iload_n 2, 1) := by decide +kernel
theorem dX3_gives_10 : decode cX3_gives 10 = .ok (.iload_n 3, 1) := by decide +kernel
theorem dX3_gives_11 : decode cX3_gives 11 = .ok (.iload 4, 2) := by decide +kernel
theorem dX3_gives_13 : decode cX3_gives 13 = .ok (.invokevirtual 26, 3) := by decide +kernel
theorem dX3_gives_16 : decode cX3_gives 16 = .ok (.ireturn, 1) := by decide +kernel
theorem dX4_init_0 : decode cX4_init 0 = .ok (.aload_n 0, 1) := by decide +kernel
theorem dX4_init_1 : decode cX4_init 1 = .ok (.invokespecial 3, 3) := by decide +kernel
theorem dX4_init_4 : decode cX4_init 4 = .ok (.aload_n 0, 1) := by decide +kernel
theorem dX4_init_5 : decode cX4_init 5 = .ok (.iconst (-1), 1) := by decide +kernel
theorem dX4_init_6 : decode cX4_init 6 = .ok (.putfield 9, 3) := by decide +kernel
theorem dX4_init_9 : decode cX4_init 9 = .ok (.aload_n 0, 1) := by decide +kernel
theorem dX4_init_10 : decode cX4_init 10 = .ok (.bipush 24, 2) := by decide +kernel
theorem dX4_init_12 : decode cX4_init 12 = .ok (.newarray .int, 2) := by decide +kernel
theorem dX4_init_14 : decode cX4_init 14 = .ok (.putfield 15, 3) := by decide +kernel
theorem dX4_init_17 : decode cX4_init 17 = .ok (.return_, 1) := by decide +kernel
theorem dX4_begin_0 : decode cX4_begin 0 = .ok (.aload_n 0, 1) := by decide +kernel
theorem dX4_begin_1 : decode cX4_begin 1 = .ok (.iload_n 1, 1) := by decide +kernel
theorem dX4_begin_2 : decode cX4_begin 2 = .ok (.putfield 9, 3) := by decide +kernel
theorem dX4_begin_5 : decode cX4_begin 5 = .ok (.aload_n 0, 1) := by decide +kernel
theorem dX4_begin_6 : decode cX4_begin 6 = .ok (.iload_n 2, 1) := by decide +kernel
theorem dX4_begin_7 : decode cX4_begin 7 = .ok (.iconst 0, 1) := by decide +kernel
theorem dX4_begin_8 : decode cX4_begin 8 = .ok (.bipush 24, 2) := by decide +kernel
theorem dX4_begin_10 : decode cX4_begin 10 = .ok (.invokestatic 19, 3) := by decide +kernel
theorem dX4_begin_13 : decode cX4_begin 13 = .ok (.putfield 23, 3) := by decide +kernel
theorem dX4_begin_16 : decode cX4_begin 16 = .ok (.iconst 0, 1) := by decide +kernel
theorem dX4_begin_17 : decode cX4_begin 17 = .ok (.istore_n 3, 1) := by decide +kernel
theorem dX4_begin_18 : decode cX4_begin 18 = .ok (.iload_n 3, 1) := by decide +kernel
theorem dX4_begin_19 : decode cX4_begin 19 = .ok (.bipush 24, 2) := by decide +kernel
theorem dX4_begin_21 : decode cX4_begin 21 = .ok (.if_icmp .ge 16, 3) := by decide +kernel
theorem dX4_begin_24 : decode cX4_begin 24 = .ok (.aload_n 0, 1) := by decide +kernel
theorem dX4_begin_25 : decode cX4_begin 25 = .ok (.getfield 15, 3) := by decide +kernel
theorem dX4_begin_28 : decode cX4_begin 28 = .ok (.iload_n 3, 1) := by decide +kernel
theorem dX4_begin_29 : decode cX4_begin 29 = .ok (.iconst 0, 1) := by decide +kernel
theorem dX4_begin_30 : decode cX4_begin 30 = .ok (.iastore, 1) := by decide +kernel
theorem dX4_begin_31 : decode cX4_begin 31 = .ok (.iinc 3 1, 3) := by decide +kernel
theorem dX4_begin_34 : decode cX4_begin 34 = .ok (.goto (-16), 3) := by decide +kernel
theorem dX4_begin_37 : decode cX4_begin 37 = .ok (.return_, 1) := by decide +kernel
theorem dX4_become_0 : decode cX4_become 0 = .ok (.aload_n 0, 1) := by decide +kernel
theorem dX4_become_1 : decode cX4_become 1 = .ok (.aload_n 1, 1) := by decide +kernel
theorem dX4_become_2 : decode cX4_become 2 = .ok (.getfield 9, 3) := by decide +kernel
theorem dX4_become_5 : decode cX4_become 5 = .ok (.putfield 9, 3) := by decide +kernel
theorem dX4_become_8 : decode cX4_become 8 = .ok (.aload_n 0, 1) := by decide +kernel
theorem dX4_become_9 : decode cX4_become 9 = .ok (.aload_n 1, 1) := by decide +kernel
theorem dX4_become_10 : decode cX4_become 10 = .ok (.getfield 23, 3) := by decide +kernel
theorem dX4_become_13 : decode cX4_become 13 = .ok (.putfield 23, 3) := by decide +kernel
theorem dX4_become_16 : decode cX4_become 16 = .ok (.aload_n 1, 1) := by decide +kernel
theorem dX4_become_17 : decode cX4_become 17 = .ok (.getfield 15, 3) := by decide +kernel
theorem dX4_become_20 : decode cX4_become 20 = .ok (.iconst 0, 1) := by decide +kernel
theorem dX4_become_21 : decode cX4_become 21 = .ok (.aload_n 0, 1) := by decide +kernel
theorem dX4_become_22 : decode cX4_become 22 = .ok (.getfield 15, 3) := by decide +kernel
theorem dX4_become_25 : decode cX4_become 25 = .ok (.iconst 0, 1) := by decide +kernel
theorem dX4_become_26 : decode cX4_become 26 = .ok (.bipush 24, 2) := by decide +kernel
theorem dX4_become_28 : decode cX4_become 28 = .ok (.invokestatic 26, 3) := by decide +kernel
theorem dX4_become_31 : decode cX4_become 31 = .ok (.return_, 1) := by decide +kernel
theorem dX4_has_0 : decode cX4_has 0 = .ok (.iload_n 1, 1) := by decide +kernel
theorem dX4_has_1 : decode cX4_has 1 = .ok (.ifCond .lt 15, 3) := by decide +kernel
theorem dX4_has_4 : decode cX4_has 4 = .ok (.iload_n 1, 1) := by decide +kernel
theorem dX4_has_5 : decode cX4_has 5 = .ok (.aload_n 0, 1) := by decide +kernel
theorem dX4_has_6 : decode cX4_has 6 = .ok (.getfield 23, 3) := by decide +kernel
theorem dX4_has_9 : decode cX4_has 9 = .ok (.if_icmp .ge 7, 3) := by decide +kernel
theorem dX4_has_12 : decode cX4_has 12 = .ok (.iconst 1, 1) := by decide +kernel
theorem dX4_has_13 : decode cX4_has 13 = .ok (.goto 4, 3) := by decide +kernel
theorem dX4_has_16 : decode cX4_has 16 = .ok (.iconst 0, 1) := by decide +kernel
theorem dX4_has_17 : decode cX4_has 17 = .ok (.ireturn, 1) := by decide +kernel
theorem dX4_hasNumber_0 : decode cX4_hasNumber 0 = .ok (.aload_n 0, 1) := by decide +kernel
theorem dX4_hasNumber_1 : decode cX4_hasNumber 1 = .ok (.iload_n 1, 1) := by decide +kernel
theorem dX4_hasNumber_2 : decode cX4_hasNumber 2 = .ok (.invokevirtual 32, 3) := by decide +kernel
theorem dX4_hasNumber_5 : decode cX4_hasNumber 5 = .ok (.ifCond .eq 18, 3) := by decide +kernel
theorem dX4_hasNumber_8 : decode cX4_hasNumber 8 = .ok (.aload_n 0, 1) := by decide +kernel
theorem dX4_hasNumber_9 : decode cX4_hasNumber 9 = .ok (.getfield 15, 3) := by decide +kernel
theorem dX4_hasNumber_12 : decode cX4_hasNumber 12 = .ok (.iload_n 1, 1) := by decide +kernel
theorem dX4_hasNumber_13 : decode cX4_hasNumber 13 = .ok (.iaload, 1) := by decide +kernel
theorem dX4_hasNumber_14 : decode cX4_hasNumber 14 = .ok (.ldc 36, 2) := by decide +kernel
theorem dX4_hasNumber_16 : decode cX4_hasNumber 16 = .ok (.if_icmp .eq 7, 3) := by decide +kernel
theorem dX4_hasNumber_19 : decode cX4_hasNumber 19 = .ok (.iconst 1, 1) := by decide +kernel
theorem dX4_hasNumber_20 : decode cX4_hasNumber 20 = .ok (.goto 4, 3) := by decide +kernel
theorem dX4_hasNumber_23 : decode cX4_hasNumber 23 = .ok (.iconst 0, 1) := by decide +kernel
theorem dX4_hasNumber_24 : decode cX4_hasNumber 24 = .ok (.ireturn, 1) := by decide +kernel
theorem dX4_hasStretch_0 : decode cX4_hasStretch 0 = .ok (.iload_n 1, 1) := by decide +kernel
theorem dX4_hasStretch_1 : decode cX4_hasStretch 1 = .ok (.ifCond .lt 29, 3) := by decide +kernel
theorem dX4_hasStretch_4 : decode cX4_hasStretch 4 = .ok (.iload_n 2, 1) := by decide +kernel
theorem dX4_hasStretch_5 : decode cX4_hasStretch 5 = .ok (.ifCond .lt 25, 3) := by decide +kernel
theorem dX4_hasStretch_8 : decode cX4_hasStretch 8 = .ok (.iload_n 2, 1) := by decide +kernel
theorem dX4_hasStretch_9 : decode cX4_hasStretch 9 = .ok (.aload_n 0, 1) := by decide +kernel
theorem dX4_hasStretch_10 : decode cX4_hasStretch 10 = .ok (.getfield 23, 3) := by decide +kernel
theorem dX4_hasStretch_13 : decode cX4_hasStretch 13 = .ok (.if_icmp .gt 17, 3) := by decide +kernel
theorem dX4_hasStretch_16 : decode cX4_hasStretch 16 = .ok (.iload_n 1, 1) := by decide +kernel
theorem dX4_hasStretch_17 : decode cX4_hasStretch 17 = .ok (.aload_n 0, 1) := by decide +kernel
theorem dX4_hasStretch_18 : decode cX4_hasStretch 18 = .ok (.getfield 23, 3) := by decide +kernel
theorem dX4_hasStretch_21 : decode cX4_hasStretch 21 = .ok (.iload_n 2, 1) := by decide +kernel
theorem dX4_hasStretch_22 : decode cX4_hasStretch 22 = .ok (.isub, 1) := by decide +kernel
theorem dX4_hasStretch_23 : decode cX4_hasStretch 23 = .ok (.if_icmp .gt 7, 3) := by decide +kernel
theorem dX4_hasStretch_26 : decode cX4_hasStretch 26 = .ok (.iconst 1, 1) := by decide +kernel
theorem dX4_hasStretch_27 : decode cX4_hasStretch 27 = .ok (.goto 4, 3) := by decide +kernel
theorem dX4_hasStretch_30 : decode cX4_hasStretch 30 = .ok (.iconst 0, 1) := by decide +kernel
theorem dX4_hasStretch_31 : decode cX4_hasStretch 31 = .ok (.ireturn, 1) := by decide +kernel
theorem dX5_init_0 : decode cX5_init 0 = .ok (.aload_n 0, 1) := by decide +kernel
theorem dX5_init_1 : decode cX5_init 1 = .ok (.invokespecial 3, 3) := by decide +kernel
theorem dX5_init_4 : decode cX5_init 4 = .ok (.aload_n 0, 1) := by decide +kernel
theorem dX5_init_5 : decode cX5_init 5 = .ok (.iconst 0, 1) := by decide +kernel
theorem dX5_init_6 : decode cX5_init 6 = .ok (.putfield 9, 3) := by decide +kernel
theorem dX5_init_9 : decode cX5_init 9 = .ok (.aload_n 0, 1) := by decide +kernel
theorem dX5_init_10 : decode cX5_init 10 = .ok (.new 15, 3) := by decide +kernel
theorem dX5_init_13 : decode cX5_init 13 = .ok (.dup, 1) := by decide +kernel
theorem dX5_init_14 : decode cX5_init 14 = .ok (.invokespecial 17, 3) := by decide +kernel
theorem dX5_init_17 : decode cX5_init 17 = .ok (.putfield 18, 3) := by decide +kernel
theorem dX5_init_20 : decode cX5_init 20 = .ok (.return_, 1) := by decide +kernel
theorem dX6_init_0 : decode cX6_init 0 = .ok (.aload_n 0, 1) := by decide +kernel
theorem dX6_init_1 : decode cX6_init 1 = .ok (.invokespecial 3, 3) := by decide +kernel
theorem dX6_init_4 : decode cX6_init 4 = .ok (.aload_n 0, 1) := by decide +kernel
theorem dX6_init_5 : decode cX6_init 5 = .ok (.bipush 96, 2) := by decide +kernel
theorem dX6_init_7 : decode cX6_init 7 = .ok (.newarray .int, 2) := by decide +kernel
theorem dX6_init_9 : decode cX6_init 9 = .ok (.putfield 9, 3) := by decide +kernel
theorem dX6_init_12 : decode cX6_init 12 = .ok (.aload_n 0, 1) := by decide +kernel
theorem dX6_init_13 : decode cX6_init 13 = .ok (.new 15, 3) := by decide +kernel
theorem dX6_init_16 : decode cX6_init 16 = .ok (.dup, 1) := by decide +kernel
theorem dX6_init_17 : decode cX6_init 17 = .ok (.invokespecial 17, 3) := by decide +kernel
theorem dX6_init_20 : decode cX6_init 20 = .ok (.putfield 18, 3) := by decide +kernel
theorem dX6_init_23 : decode cX6_init 23 = .ok (.return_, 1) := by decide +kernel
theorem dX6_takes_0 : decode cX6_takes 0 = .ok (.bipush 24, 2) := by decide +kernel
theorem dX6_takes_2 : decode cX6_takes 2 = .ok (.istore_n 2, 1) := by decide +kernel
theorem dX6_takes_3 : decode cX6_takes 3 = .ok (.iload_n 2, 1) := by decide +kernel
theorem dX6_takes_4 : decode cX6_takes 4 = .ok (.ifCond .lt 44, 3) := by decide +kernel
theorem dX6_takes_7 : decode cX6_takes 7 = .ok (.aload_n 0, 1) := by decide +kernel
theorem dX6_takes_8 : decode cX6_takes 8 = .ok (.getfield 22, 3) := by decide +kernel
theorem dX6_takes_11 : decode cX6_takes 11 = .ok (.bipush 96, 2) := by decide +kernel
theorem dX6_takes_13 : decode cX6_takes 13 = .ok (.if_icmp .ge 29, 3) := by decide +kernel
theorem dX6_takes_16 : decode cX6_takes 16 = .ok (.aload_n 0, 1) := by decide +kernel
theorem dX6_takes_17 : decode cX6_takes 17 = .ok (.getfield 9, 3) := by decide +kernel
theorem dX6_takes_20 : decode cX6_takes 20 = .ok (.aload_n 0, 1) := by decide +kernel
theorem dX6_takes_21 : decode cX6_takes 21 = .ok (.getfield 22, 3) := by decide +kernel
theorem dX6_takes_24 : decode cX6_takes 24 = .ok (.iload_n 1, 1) := by decide +kernel
theorem dX6_takes_25 : decode cX6_takes 25 = .ok (.iload_n 2, 1) := by decide +kernel
theorem dX6_takes_26 : decode cX6_takes 26 = .ok (.iushr, 1) := by decide +kernel
theorem dX6_takes_27 : decode cX6_takes 27 = .ok (.sipush 255, 3) := by decide +kernel
theorem dX6_takes_30 : decode cX6_takes 30 = .ok (.iand, 1) := by decide +kernel
theorem dX6_takes_31 : decode cX6_takes 31 = .ok (.iastore, 1) := by decide +kernel
theorem dX6_takes_32 : decode cX6_takes 32 = .ok (.aload_n 0, 1) := by decide +kernel
theorem dX6_takes_33 : decode cX6_takes 33 = .ok (.dup, 1) := by decide +kernel
theorem dX6_takes_34 : decode cX6_takes 34 = .ok (.getfield 22, 3) := by decide +kernel
theorem dX6_takes_37 : decode cX6_takes 37 = .ok (.iconst 1, 1) := by decide +kernel
theorem dX6_takes_38 : decode cX6_takes 38 = .ok (.iadd, 1) := by decide +kernel
theorem dX6_takes_39 : decode cX6_takes 39 = .ok (.putfield 22, 3) := by decide +kernel
theorem dX6_takes_42 : decode cX6_takes 42 = .ok (.iinc 2 (-8), 3) := by decide +kernel
theorem dX6_takes_45 : decode cX6_takes 45 = .ok (.goto (-42), 3) := by decide +kernel
theorem dX6_takes_48 : decode cX6_takes 48 = .ok (.return_, 1) := by decide +kernel
theorem dX6_faultOfText_0 : decode cX6_faultOfText 0 = .ok (.aload_n 0, 1) := by decide +kernel
theorem dX6_faultOfText_1 : decode cX6_faultOfText 1 = .ok (.iconst 0, 1) := by decide +kernel
theorem dX6_faultOfText_2 : decode cX6_faultOfText 2 = .ok (.putfield 26, 3) := by decide +kernel
theorem dX6_faultOfText_5 : decode cX6_faultOfText 5 = .ok (.aload_n 0, 1) := by decide +kernel
theorem dX6_faultOfText_6 : decode cX6_faultOfText 6 = .ok (.iconst 3, 1) := by decide +kernel
theorem dX6_faultOfText_7 : decode cX6_faultOfText 7 = .ok (.putfield 29, 3) := by decide +kernel
theorem dX6_faultOfText_10 : decode cX6_faultOfText 10 = .ok (.aload_n 0, 1) := by decide +kernel
theorem dX6_faultOfText_11 : decode cX6_faultOfText 11 = .ok (.invokevirtual 32, 3) := by decide +kernel
theorem dX6_faultOfText_14 : decode cX6_faultOfText 14 = .ok (.aload_n 0, 1) := by decide +kernel
theorem dX6_faultOfText_15 : decode cX6_faultOfText 15 = .ok (.invokevirtual 35, 3) := by decide +kernel
theorem dX6_faultOfText_18 : decode cX6_faultOfText 18 = .ok (.istore_n 1, 1) := by decide +kernel
theorem dX6_faultOfText_19 : decode cX6_faultOfText 19 = .ok (.iload_n 1, 1) := by decide +kernel
theorem dX6_faultOfText_20 : decode cX6_faultOfText 20 = .ok (.ifCond .ge 8, 3) := by decide +kernel
theorem dX6_faultOfText_23 : decode cX6_faultOfText 23 = .ok (.aload_n 0, 1) := by decide +kernel
theorem dX6_faultOfText_24 : decode cX6_faultOfText 24 = .ok (.getfield 39, 3) := by decide +kernel
theorem dX6_faultOfText_27 : decode cX6_faultOfText 27 = .ok (.ireturn, 1) := by decide +kernel
theorem dX6_faultOfText_28 : decode cX6_faultOfText 28 = .ok (.aload_n 0, 1) := by decide +kernel
theorem dX6_faultOfText_29 : decode cX6_faultOfText 29 = .ok (.getfield 18, 3) := by decide +kernel
theorem dX6_faultOfText_32 : decode cX6_faultOfText 32 = .ok (.iload_n 1, 1) := by decide +kernel
theorem dX6_faultOfText_33 : decode cX6_faultOfText 33 = .ok (.invokevirtual 42, 3) := by decide +kernel
theorem dX6_faultOfText_36 : decode cX6_faultOfText 36 = .ok (.aload_n 0, 1) := by decide +kernel
theorem dX6_faultOfText_37 : decode cX6_faultOfText 37 = .ok (.invokevirtual 32, 3) := by decide +kernel
theorem dX6_faultOfText_40 : decode cX6_faultOfText 40 = .ok (.aload_n 0, 1) := by decide +kernel
theorem dX6_faultOfText_41 : decode cX6_faultOfText 41 = .ok (.iconst 0, 1) := by decide +kernel
theorem dX6_faultOfText_42 : decode cX6_faultOfText 42 = .ok (.iconst 0, 1) := by decide +kernel
theorem dX6_faultOfText_43 : decode cX6_faultOfText 43 = .ok (.iconst 0, 1) := by decide +kernel
theorem dX6_faultOfText_44 : decode cX6_faultOfText 44 = .ok (.invokevirtual 46, 3) := by decide +kernel
theorem dX6_faultOfText_47 : decode cX6_faultOfText 47 = .ok (.ifCond .eq 14, 3) := by decide +kernel
theorem dX6_faultOfText_50 : decode cX6_faultOfText 50 = .ok (.aload_n 0, 1) := by decide +kernel
theorem dX6_faultOfText_51 : decode cX6_faultOfText 51 = .ok (.getfield 29, 3) := by decide +kernel
theorem dX6_faultOfText_54 : decode cX6_faultOfText 54 = .ok (.ifCond .ne 7, 3) := by decide +kernel
theorem dX6_faultOfText_57 : decode cX6_faultOfText 57 = .ok (.iconst (-1), 1) := by decide +kernel
theorem dX6_faultOfText_58 : decode cX6_faultOfText 58 = .ok (.goto 7, 3) := by decide +kernel
theorem dX6_faultOfText_61 : decode cX6_faultOfText 61 = .ok (.aload_n 0, 1) := by decide +kernel
theorem dX6_faultOfText_62 : decode cX6_faultOfText 62 = .ok (.getfield 39, 3) := by decide +kernel
theorem dX6_faultOfText_65 : decode cX6_faultOfText 65 = .ok (.ireturn, 1) := by decide +kernel
theorem dX6_byteAt_0 : decode cX6_byteAt 0 = .ok (.iload_n 1, 1) := by decide +kernel
theorem dX6_byteAt_1 : decode cX6_byteAt 1 = .ok (.ifCond .lt 26, 3) := by decide +kernel
theorem dX6_byteAt_4 : decode cX6_byteAt 4 = .ok (.iload_n 1, 1) := by decide +kernel
theorem dX6_byteAt_5 : decode cX6_byteAt 5 = .ok (.aload_n 0, 1) := by decide +kernel
theorem dX6_byteAt_6 : decode cX6_byteAt 6 = .ok (.getfield 22, 3) := by decide +kernel
theorem dX6_byteAt_9 : decode cX6_byteAt 9 = .ok (.if_icmp .ge 18, 3) := by decide +kernel
theorem dX6_byteAt_12 : decode cX6_byteAt 12 = .ok (.iload_n 1, 1) := by decide +kernel
theorem dX6_byteAt_13 : decode cX6_byteAt 13 = .ok (.bipush 96, 2) := by decide +kernel
theorem dX6_byteAt_15 : decode cX6_byteAt 15 = .ok (.if_icmp .ge 12, 3) := by decide +kernel
theorem dX6_byteAt_18 : decode cX6_byteAt 18 = .ok (.aload_n 0, 1) := by decide +kernel
theorem dX6_byteAt_19 : decode cX6_byteAt 19 = .ok (.getfield 9, 3) := by decide +kernel
theorem dX6_byteAt_22 : decode cX6_byteAt 22 = .ok (.iload_n 1, 1) := by decide +kernel
theorem dX6_byteAt_23 : decode cX6_byteAt 23 = .ok (.iaload, 1) := by decide +kernel
theorem dX6_byteAt_24 : decode cX6_byteAt 24 = .ok (.goto 4, 3) := by decide +kernel
theorem dX6_byteAt_27 : decode cX6_byteAt 27 = .ok (.iconst (-1), 1) := by decide +kernel
theorem dX6_byteAt_28 : decode cX6_byteAt 28 = .ok (.ireturn, 1) := by decide +kernel
theorem dX6_sortOf_0 : decode cX6_sortOf 0 = .ok (.iload_n 0, 1) := by decide +kernel
theorem dX6_sortOf_1 : decode cX6_sortOf 1 = .ok (.ifCond .ge 5, 3) := by decide +kernel
theorem dX6_sortOf_4 : decode cX6_sortOf 4 = .ok (.iconst 0, 1) := by decide +kernel
theorem dX6_sortOf_5 : decode cX6_sortOf 5 = .ok (.ireturn, 1) := by decide +kernel
theorem dX6_sortOf_6 : decode cX6_sortOf 6 = .ok (.iload_n 0, 1) := by decide +kernel
theorem dX6_sortOf_7 : decode cX6_sortOf 7 = .ok (.bipush 97, 2) := by decide +kernel
theorem dX6_sortOf_9 : decode cX6_sortOf 9 = .ok (.if_icmp .lt 11, 3) := by decide +kernel
theorem dX6_sortOf_12 : decode cX6_sortOf 12 = .ok (.iload_n 0, 1) := by decide +kernel
theorem dX6_sortOf_13 : decode cX6_sortOf 13 = .ok (.bipush 122, 2) := by decide +kernel
theorem dX6_sortOf_15 : decode cX6_sortOf 15 = .ok (.if_icmp .gt 5, 3) := by decide +kernel
theorem dX6_sortOf_18 : decode cX6_sortOf 18 = .ok (.iconst 1, 1) := by decide +kernel
theorem dX6_sortOf_19 : decode cX6_sortOf 19 = .ok (.ireturn, 1) := by decide +kernel
theorem dX6_sortOf_20 : decode cX6_sortOf 20 = .ok (.iload_n 0, 1) := by decide +kernel
theorem dX6_sortOf_21 : decode cX6_sortOf 21 = .ok (.bipush 48, 2) := by decide +kernel
theorem dX6_sortOf_23 : decode cX6_sortOf 23 = .ok (.if_icmp .lt 13, 3) := by decide +kernel
theorem dX6_sortOf_26 : decode cX6_sortOf 26 = .ok (.iload_n 0, 1) := by decide +kernel
theorem dX6_sortOf_27 : decode cX6_sortOf 27 = .ok (.bipush 57, 2) := by decide +kernel
theorem dX6_sortOf_29 : decode cX6_sortOf 29 = .ok (.if_icmp .gt 7, 3) := by decide +kernel
theorem dX6_sortOf_32 : decode cX6_sortOf 32 = .ok (.iconst 2, 1) := by decide +kernel
theorem dX6_sortOf_33 : decode cX6_sortOf 33 = .ok (.goto 4, 3) := by decide +kernel
theorem dX6_sortOf_36 : decode cX6_sortOf 36 = .ok (.iconst 3, 1) := by decide +kernel
theorem dX6_sortOf_37 : decode cX6_sortOf 37 = .ok (.ireturn, 1) := by decide +kernel
theorem dX6_step_0 : decode cX6_step 0 = .ok (.aload_n 0, 1) := by decide +kernel
theorem dX6_step_1 : decode cX6_step 1 = .ok (.getfield 26, 3) := by decide +kernel
theorem dX6_step_4 : decode cX6_step 4 = .ok (.istore_n 1, 1) := by decide +kernel
theorem dX6_step_5 : decode cX6_step 5 = .ok (.aload_n 0, 1) := by decide +kernel
theorem dX6_step_6 : decode cX6_step 6 = .ok (.getfield 29, 3) := by decide +kernel
theorem dX6_step_9 : decode cX6_step 9 = .ok (.iconst 1, 1) := by decide +kernel
theorem dX6_step_10 : decode cX6_step 10 = .ok (.if_icmp .eq 11, 3) := by decide +kernel
theorem dX6_step_13 : decode cX6_step 13 = .ok (.aload_n 0, 1) := by decide +kernel
theorem dX6_step_14 : decode cX6_step 14 = .ok (.getfield 29, 3) := by decide +kernel
theorem dX6_step_17 : decode cX6_step 17 = .ok (.iconst 2, 1) := by decide +kernel
theorem dX6_step_18 : decode cX6_step 18 = .ok (.if_icmp .ne 7, 3) := by decide +kernel
theorem dX6_step_21 : decode cX6_step 21 = .ok (.iconst 1, 1) := by decide +kernel
theorem dX6_step_22 : decode cX6_step 22 = .ok (.goto 4, 3) := by decide +kernel
theorem dX6_step_25 : decode cX6_step 25 = .ok (.iconst 0, 1) := by decide +kernel
theorem dX6_step_26 : decode cX6_step 26 = .ok (.istore_n 2, 1) := by decide +kernel
theorem dX6_step_27 : decode cX6_step 27 = .ok (.aload_n 0, 1) := by decide +kernel
theorem dX6_step_28 : decode cX6_step 28 = .ok (.aload_n 0, 1) := by decide +kernel
theorem dX6_step_29 : decode cX6_step 29 = .ok (.getfield 26, 3) := by decide +kernel
theorem dX6_step_32 : decode cX6_step 32 = .ok (.putfield 39, 3) := by decide +kernel
theorem dX6_step_35 : decode cX6_step 35 = .ok (.aload_n 0, 1) := by decide +kernel
theorem dX6_step_36 : decode cX6_step 36 = .ok (.getfield 39, 3) := by decide +kernel
theorem dX6_step_39 : decode cX6_step 39 = .ok (.aload_n 0, 1) := by decide +kernel
theorem dX6_step_40 : decode cX6_step 40 = .ok (.getfield 22, 3) := by decide +kernel
theorem dX6_step_43 : decode cX6_step 43 = .ok (.if_icmp .ge 29, 3) := by decide +kernel
theorem dX6_step_46 : decode cX6_step 46 = .ok (.aload_n 0, 1) := by decide +kernel
theorem dX6_step_47 : decode cX6_step 47 = .ok (.aload_n 0, 1) := by decide +kernel
theorem dX6_step_48 : decode cX6_step 48 = .ok (.getfield 39, 3) := by decide +kernel
theorem dX6_step_51 : decode cX6_step 51 = .ok (.invokevirtual 50, 3) := by decide +kernel
theorem dX6_step_54 : decode cX6_step 54 = .ok (.bipush 32, 2) := by decide +kernel
theorem dX6_step_56 : decode cX6_step 56 = .ok (.if_icmp .ne 16, 3) := by decide +kernel
theorem dX6_step_59 : decode cX6_step 59 = .ok (.aload_n 0, 1) := by decide +kernel
theorem dX6_step_60 : decode cX6_step 60 = .ok (.dup, 1) := by decide +kernel
theorem dX6_step_61 : decode cX6_step 61 = .ok (.getfield 39, 3) := by decide +kernel
theorem dX6_step_64 : decode cX6_step 64 = .ok (.iconst 1, 1) := by decide +kernel
theorem dX6_step_65 : decode cX6_step 65 = .ok (.iadd, 1) := by decide +kernel
theorem dX6_step_66 : decode cX6_step 66 = .ok (.putfield 39, 3) := by decide +kernel
theorem dX6_step_69 : decode cX6_step 69 = .ok (.goto (-34), 3) := by decide +kernel
theorem dX6_step_72 : decode cX6_step 72 = .ok (.aload_n 0, 1) := by decide +kernel
theorem dX6_step_73 : decode cX6_step 73 = .ok (.aload_n 0, 1) := by decide +kernel
theorem dX6_step_74 : decode cX6_step 74 = .ok (.aload_n 0, 1) := by decide +kernel
theorem dX6_step_75 : decode cX6_step 75 = .ok (.getfield 39, 3) := by decide +kernel
theorem dX6_step_78 : decode cX6_step 78 = .ok (.invokevirtual 50, 3) := by decide +kernel
theorem dX6_step_81 : decode cX6_step 81 = .ok (.invokestatic 54, 3) := by decide +kernel
theorem dX6_step_84 : decode cX6_step 84 = .ok (.putfield 29, 3) := by decide +kernel
theorem dX6_step_87 : decode cX6_step 87 = .ok (.aload_n 0, 1) := by decide +kernel
theorem dX6_step_88 : decode cX6_step 88 = .ok (.iload_n 2, 1) := by decide +kernel
theorem dX6_step_89 : decode cX6_step 89 = .ok (.ifCond .eq 31, 3) := by decide +kernel
theorem dX6_step_92 : decode cX6_step 92 = .ok (.aload_n 0, 1) := by decide +kernel
theorem dX6_step_93 : decode cX6_step 93 = .ok (.getfield 39, 3) := by decide +kernel
theorem dX6_step_96 : decode cX6_step 96 = .ok (.iload_n 1, 1) := by decide +kernel
theorem dX6_step_97 : decode cX6_step 97 = .ok (.if_icmp .ne 23, 3) := by decide +kernel
theorem dX6_step_100 : decode cX6_step 100 = .ok (.aload_n 0, 1) := by decide +kernel
theorem dX6_step_101 : decode cX6_step 101 = .ok (.getfield 29, 3) := by decide +kernel
theorem dX6_step_104 : decode cX6_step 104 = .ok (.iconst 1, 1) := by decide +kernel
theorem dX6_step_105 : decode cX6_step 105 = .ok (.if_icmp .eq 11, 3) := by decide +kernel
theorem dX6_step_108 : decode cX6_step 108 = .ok (.aload_n 0, 1) := by decide +kernel
theorem dX6_step_109 : decode cX6_step 109 = .ok (.getfield 29, 3) := by decide +kernel
theorem dX6_step_112 : decode cX6_step 112 = .ok (.iconst 2, 1) := by decide +kernel
theorem dX6_step_113 : decode cX6_step 113 = .ok (.if_icmp .ne 7, 3) := by decide +kernel
theorem dX6_step_116 : decode cX6_step 116 = .ok (.iconst 1, 1) := by decide +kernel
theorem dX6_step_117 : decode cX6_step 117 = .ok (.goto 4, 3) := by decide +kernel
theorem dX6_step_120 : decode cX6_step 120 = .ok (.iconst 0, 1) := by decide +kernel
theorem dX6_step_121 : decode cX6_step 121 = .ok (.putfield 57, 3) := by decide +kernel
theorem dX6_step_124 : decode cX6_step 124 = .ok (.aload_n 0, 1) := by decide +kernel
theorem dX6_step_125 : decode cX6_step 125 = .ok (.getfield 29, 3) := by decide +kernel
theorem dX6_step_128 : decode cX6_step 128 = .ok (.ifCond .ne 12, 3) := by decide +kernel
theorem dX6_step_131 : decode cX6_step 131 = .ok (.aload_n 0, 1) := by decide +kernel
theorem dX6_step_132 : decode cX6_step 132 = .ok (.aload_n 0, 1) := by decide +kernel
theorem dX6_step_133 : decode cX6_step 133 = .ok (.getfield 39, 3) := by decide +kernel
theorem dX6_step_136 : decode cX6_step 136 = .ok (.putfield 26, 3) := by decide +kernel
theorem dX6_step_139 : decode cX6_step 139 = .ok (.return_, 1) := by decide +kernel
theorem dX6_step_140 : decode cX6_step 140 = .ok (.aload_n 0, 1) := by decide +kernel
theorem dX6_step_141 : decode cX6_step 141 = .ok (.aload_n 0, 1) := by decide +kernel
theorem dX6_step_142 : decode cX6_step 142 = .ok (.getfield 39, 3) := by decide +kernel
theorem dX6_step_145 : decode cX6_step 145 = .ok (.iconst 1, 1) := by decide +kernel
theorem dX6_step_146 : decode cX6_step 146 = .ok (.iadd, 1) := by decide +kernel
theorem dX6_step_147 : decode cX6_step 147 = .ok (.putfield 26, 3) := by decide +kernel
theorem dX6_step_150 : decode cX6_step 150 = .ok (.aload_n 0, 1) := by decide +kernel
theorem dX6_step_151 : decode cX6_step 151 = .ok (.getfield 29, 3) := by decide +kernel
theorem dX6_step_154 : decode cX6_step 154 = .ok (.iconst 3, 1) := by decide +kernel
theorem dX6_step_155 : decode cX6_step 155 = .ok (.if_icmp .eq 45, 3) := by decide +kernel
theorem dX6_step_158 : decode cX6_step 158 = .ok (.aload_n 0, 1) := by decide +kernel
theorem dX6_step_159 : decode cX6_step 159 = .ok (.getfield 26, 3) := by decide +kernel
theorem dX6_step_162 : decode cX6_step 162 = .ok (.aload_n 0, 1) := by decide +kernel
theorem dX6_step_163 : decode cX6_step 163 = .ok (.getfield 22, 3) := by decide +kernel
theorem dX6_step_166 : decode cX6_step 166 = .ok (.if_icmp .ge 34, 3) := by decide +kernel
theorem dX6_step_169 : decode cX6_step 169 = .ok (.aload_n 0, 1) := by decide +kernel
theorem dX6_step_170 : decode cX6_step 170 = .ok (.aload_n 0, 1) := by decide +kernel
theorem dX6_step_171 : decode cX6_step 171 = .ok (.getfield 26, 3) := by decide +kernel
theorem dX6_step_174 : decode cX6_step 174 = .ok (.invokevirtual 50, 3) := by decide +kernel
theorem dX6_step_177 : decode cX6_step 177 = .ok (.invokestatic 54, 3) := by decide +kernel
theorem dX6_step_180 : decode cX6_step 180 = .ok (.aload_n 0, 1) := by decide +kernel
theorem dX6_step_181 : decode cX6_step 181 = .ok (.getfield 29, 3) := by decide +kernel
theorem dX6_step_184 : decode cX6_step 184 = .ok (.if_icmp .ne 16, 3) := by decide +kernel
theorem dX6_step_187 : decode cX6_step 187 = .ok (.aload_n 0, 1) := by decide +kernel
theorem dX6_step_188 : decode cX6_step 188 = .ok (.dup, 1) := by decide +kernel
theorem dX6_step_189 : decode cX6_step 189 = .ok (.getfield 26, 3) := by decide +kernel
theorem dX6_step_192 : decode cX6_step 192 = .ok (.iconst 1, 1) := by decide +kernel
theorem dX6_step_193 : decode cX6_step 193 = .ok (.iadd, 1) := by decide +kernel
theorem dX6_step_194 : decode cX6_step 194 = .ok (.putfield 26, 3) := by decide +kernel
theorem dX6_step_197 : decode cX6_step 197 = .ok (.goto (-47), 3) := by decide +kernel
theorem dX6_step_200 : decode cX6_step 200 = .ok (.return_, 1) := by decide +kernel
theorem dX6_keyAtHand_0 : decode cX6_keyAtHand 0 = .ok (.iconst 0, 1) := by decide +kernel
theorem dX6_keyAtHand_1 : decode cX6_keyAtHand 1 = .ok (.istore_n 1, 1) := by decide +kernel
theorem dX6_keyAtHand_2 : decode cX6_keyAtHand 2 = .ok (.iload_n 1, 1) := by decide +kernel
theorem dX6_keyAtHand_3 : decode cX6_keyAtHand 3 = .ok (.iconst 2, 1) := by decide +kernel
theorem dX6_keyAtHand_4 : decode cX6_keyAtHand 4 = .ok (.if_icmp .gt 22, 3) := by decide +kernel
theorem dX6_keyAtHand_7 : decode cX6_keyAtHand 7 = .ok (.aload_n 0, 1) := by decide +kernel
theorem dX6_keyAtHand_8 : decode cX6_keyAtHand 8 = .ok (.iload_n 1, 1) := by decide +kernel
theorem dX6_keyAtHand_9 : decode cX6_keyAtHand 9 = .ok (.invokestatic 61, 3) := by decide +kernel
theorem dX6_keyAtHand_12 : decode cX6_keyAtHand 12 = .ok (.invokevirtual 65, 3) := by decide +kernel
theorem dX6_keyAtHand_15 : decode cX6_keyAtHand 15 = .ok (.ifCond .eq 5, 3) := by decide +kernel
theorem dX6_keyAtHand_18 : decode cX6_keyAtHand 18 = .ok (.iload_n 1, 1) := by decide +kernel
theorem dX6_keyAtHand_19 : decode cX6_keyAtHand 19 = .ok (.ireturn, 1) := by decide +kernel
theorem dX6_keyAtHand_20 : decode cX6_keyAtHand 20 = .ok (.iinc 1 1, 3) := by decide +kernel
theorem dX6_keyAtHand_23 : decode cX6_keyAtHand 23 = .ok (.goto (-21), 3) := by decide +kernel
theorem dX6_keyAtHand_26 : decode cX6_keyAtHand 26 = .ok (.iconst (-1), 1) := by decide +kernel
theorem dX6_keyAtHand_27 : decode cX6_keyAtHand 27 = .ok (.ireturn, 1) := by decide +kernel
theorem dX6_isWord_0 : decode cX6_isWord 0 = .ok (.aload_n 0, 1) := by decide +kernel
theorem dX6_isWord_1 : decode cX6_isWord 1 = .ok (.getfield 26, 3) := by decide +kernel
theorem dX6_isWord_4 : decode cX6_isWord 4 = .ok (.aload_n 0, 1) := by decide +kernel
theorem dX6_isWord_5 : decode cX6_isWord 5 = .ok (.getfield 39, 3) := by decide +kernel
theorem dX6_isWord_8 : decode cX6_isWord 8 = .ok (.isub, 1) := by decide +kernel
theorem dX6_isWord_9 : decode cX6_isWord 9 = .ok (.aload_n 1, 1) := by decide +kernel
theorem dX6_isWord_10 : decode cX6_isWord 10 = .ok (.invokevirtual 69, 3) := by decide +kernel
theorem dX6_isWord_13 : decode cX6_isWord 13 = .ok (.if_icmp .eq 5, 3) := by decide +kernel
theorem dX6_isWord_16 : decode cX6_isWord 16 = .ok (.iconst 0, 1) := by decide +kernel
theorem dX6_isWord_17 : decode cX6_isWord 17 = .ok (.ireturn, 1) := by decide +kernel
theorem dX6_isWord_18 : decode cX6_isWord 18 = .ok (.iconst 0, 1) := by decide +kernel
theorem dX6_isWord_19 : decode cX6_isWord 19 = .ok (.istore_n 2, 1) := by decide +kernel
theorem dX6_isWord_20 : decode cX6_isWord 20 = .ok (.iload_n 2, 1) := by decide +kernel
theorem dX6_isWord_21 : decode cX6_isWord 21 = .ok (.aload_n 1, 1) := by decide +kernel
theorem dX6_isWord_22 : decode cX6_isWord 22 = .ok (.invokevirtual 69, 3) := by decide +kernel
theorem dX6_isWord_25 : decode cX6_isWord 25 = .ok (.if_icmp .ge 29, 3) := by decide +kernel
theorem dX6_isWord_28 : decode cX6_isWord 28 = .ok (.aload_n 0, 1) := by decide +kernel
theorem dX6_isWord_29 : decode cX6_isWord 29 = .ok (.aload_n 0, 1) := by decide +kernel
theorem dX6_isWord_30 : decode cX6_isWord 30 = .ok (.getfield 39, 3) := by decide +kernel
theorem dX6_isWord_33 : decode cX6_isWord 33 = .ok (.iload_n 2, 1) := by decide +kernel
theorem dX6_isWord_34 : decode cX6_isWord 34 = .ok (.iadd, 1) := by decide +kernel
theorem dX6_isWord_35 : decode cX6_isWord 35 = .ok (.invokevirtual 50, 3) := by decide +kernel
theorem dX6_isWord_38 : decode cX6_isWord 38 = .ok (.aload_n 1, 1) := by decide +kernel
theorem dX6_isWord_39 : decode cX6_isWord 39 = .ok (.iload_n 2, 1) := by decide +kernel
theorem dX6_isWord_40 : decode cX6_isWord 40 = .ok (.invokevirtual 73, 3) := by decide +kernel
theorem dX6_isWord_43 : decode cX6_isWord 43 = .ok (.if_icmp .eq 5, 3) := by decide +kernel
theorem dX6_isWord_46 : decode cX6_isWord 46 = .ok (.iconst 0, 1) := by decide +kernel
theorem dX6_isWord_47 : decode cX6_isWord 47 = .ok (.ireturn, 1) := by decide +kernel
theorem dX6_isWord_48 : decode cX6_isWord 48 = .ok (.iinc 2 1, 3) := by decide +kernel
theorem dX6_isWord_51 : decode cX6_isWord 51 = .ok (.goto (-31), 3) := by decide +kernel
theorem dX6_isWord_54 : decode cX6_isWord 54 = .ok (.iconst 1, 1) := by decide +kernel
theorem dX6_isWord_55 : decode cX6_isWord 55 = .ok (.ireturn, 1) := by decide +kernel
theorem dX6_wordOf_0 : decode cX6_wordOf 0 = .ok (.iload_n 0, 1) := by decide +kernel
theorem dX6_wordOf_1 : decode cX6_wordOf 1 = .ok (.ifCond .ne 8, 3) := by decide +kernel
theorem dX6_wordOf_4 : decode cX6_wordOf 4 = .ok (.ldc 77, 2) := by decide +kernel
theorem dX6_wordOf_6 : decode cX6_wordOf 6 = .ok (.goto 15, 3) := by decide +kernel
theorem dX6_wordOf_9 : decode cX6_wordOf 9 = .ok (.iload_n 0, 1) := by decide +kernel
theorem dX6_wordOf_10 : decode cX6_wordOf 10 = .ok (.iconst 1, 1) := by decide +kernel
theorem dX6_wordOf_11 : decode cX6_wordOf 11 = .ok (.if_icmp .ne 8, 3) := by decide +kernel
theorem dX6_wordOf_14 : decode cX6_wordOf 14 = .ok (.ldc 79, 2) := by decide +kernel
theorem dX6_wordOf_16 : decode cX6_wordOf 16 = .ok (.goto 5, 3) := by decide +kernel
theorem dX6_wordOf_19 : decode cX6_wordOf 19 = .ok (.ldc 81, 2) := by decide +kernel
theorem dX6_wordOf_21 : decode cX6_wordOf 21 = .ok (.areturn, 1) := by decide +kernel
theorem dX6_namesOf_0 : decode cX6_namesOf 0 = .ok (.iload_n 0, 1) := by decide +kernel
theorem dX6_namesOf_1 : decode cX6_namesOf 1 = .ok (.ifCond .ne 8, 3) := by decide +kernel
theorem dX6_namesOf_4 : decode cX6_namesOf 4 = .ok (.ldc 83, 2) := by decide +kernel
theorem dX6_namesOf_6 : decode cX6_namesOf 6 = .ok (.goto 15, 3) := by decide +kernel
theorem dX6_namesOf_9 : decode cX6_namesOf 9 = .ok (.iload_n 0, 1) := by decide +kernel
theorem dX6_namesOf_10 : decode cX6_namesOf 10 = .ok (.iconst 1, 1) := by decide +kernel
theorem dX6_namesOf_11 : decode cX6_namesOf 11 = .ok (.if_icmp .ne 8, 3) := by decide +kernel
theorem dX6_namesOf_14 : decode cX6_namesOf 14 = .ok (.ldc 85, 2) := by decide +kernel
theorem dX6_namesOf_16 : decode cX6_namesOf 16 = .ok (.goto 5, 3) := by decide +kernel
theorem dX6_namesOf_19 : decode cX6_namesOf 19 = .ok (.ldc 87, 2) := by decide +kernel
theorem dX6_namesOf_21 : decode cX6_namesOf 21 = .ok (.areturn, 1) := by decide +kernel
theorem dX6_signsOf_0 : decode cX6_signsOf 0 = .ok (.iload_n 0, 1) := by decide +kernel
theorem dX6_signsOf_1 : decode cX6_signsOf 1 = .ok (.tableswitch 43 0 3 #[31, 34, 37, 40], 31) := by decide +kernel
theorem dX6_signsOf_32 : decode cX6_signsOf 32 = .ok (.ldc 89, 2) := by decide +kernel
theorem dX6_signsOf_34 : decode cX6_signsOf 34 = .ok (.areturn, 1) := by decide +kernel
theorem dX6_signsOf_35 : decode cX6_signsOf 35 = .ok (.ldc 91, 2) := by decide +kernel
theorem dX6_signsOf_37 : decode cX6_signsOf 37 = .ok (.areturn, 1) := by decide +kernel
theorem dX6_signsOf_38 : decode cX6_signsOf 38 = .ok (.ldc 93, 2) := by decide +kernel
theorem dX6_signsOf_40 : decode cX6_signsOf 40 = .ok (.areturn, 1) := by decide +kernel
theorem dX6_signsOf_41 : decode cX6_signsOf 41 = .ok (.ldc 95, 2) := by decide +kernel
theorem dX6_signsOf_43 : decode cX6_signsOf 43 = .ok (.areturn, 1) := by decide +kernel
theorem dX6_signsOf_44 : decode cX6_signsOf 44 = .ok (.ldc 97, 2) := by decide +kernel
theorem dX6_signsOf_46 : decode cX6_signsOf 46 = .ok (.areturn, 1) := by decide +kernel
theorem dX6_isSignOf_0 : decode cX6_isSignOf 0 = .ok (.aload_n 0, 1) := by decide +kernel
theorem dX6_isSignOf_1 : decode cX6_isSignOf 1 = .ok (.getfield 29, 3) := by decide +kernel
theorem dX6_isSignOf_4 : decode cX6_isSignOf 4 = .ok (.iconst 3, 1) := by decide +kernel
theorem dX6_isSignOf_5 : decode cX6_isSignOf 5 = .ok (.if_icmp .ne 23, 3) := by decide +kernel
theorem dX6_isSignOf_8 : decode cX6_isSignOf 8 = .ok (.aload_n 1, 1) := by decide +kernel
theorem dX6_isSignOf_9 : decode cX6_isSignOf 9 = .ok (.aload_n 0, 1) := by decide +kernel
theorem dX6_isSignOf_10 : decode cX6_isSignOf 10 = .ok (.aload_n 0, 1) := by decide +kernel
theorem dX6_isSignOf_11 : decode cX6_isSignOf 11 = .ok (.getfield 39, 3) := by decide +kernel
theorem dX6_isSignOf_14 : decode cX6_isSignOf 14 = .ok (.invokevirtual 50, 3) := by decide +kernel
theorem dX6_isSignOf_17 : decode cX6_isSignOf 17 = .ok (.i2c, 1) := by decide +kernel
theorem dX6_isSignOf_18 : decode cX6_isSignOf 18 = .ok (.invokevirtual 99, 3) := by decide +kernel
theorem dX6_isSignOf_21 : decode cX6_isSignOf 21 = .ok (.ifCond .lt 7, 3) := by decide +kernel
theorem dX6_isSignOf_24 : decode cX6_isSignOf 24 = .ok (.iconst 1, 1) := by decide +kernel
theorem dX6_isSignOf_25 : decode cX6_isSignOf 25 = .ok (.goto 4, 3) := by decide +kernel
theorem dX6_isSignOf_28 : decode cX6_isSignOf 28 = .ok (.iconst 0, 1) := by decide +kernel
theorem dX6_isSignOf_29 : decode cX6_isSignOf 29 = .ok (.ireturn, 1) := by decide +kernel
theorem dX6_level_0 : decode cX6_level 0 = .ok (.iload_n 1, 1) := by decide +kernel
theorem dX6_level_1 : decode cX6_level 1 = .ok (.iconst 5, 1) := by decide +kernel
theorem dX6_level_2 : decode cX6_level 2 = .ok (.if_icmp .lt 10, 3) := by decide +kernel
theorem dX6_level_5 : decode cX6_level 5 = .ok (.aload_n 0, 1) := by decide +kernel
theorem dX6_level_6 : decode cX6_level 6 = .ok (.iload_n 2, 1) := by decide +kernel
theorem dX6_level_7 : decode cX6_level 7 = .ok (.iload_n 3, 1) := by decide +kernel
theorem dX6_level_8 : decode cX6_level 8 = .ok (.invokevirtual 102, 3) := by decide +kernel
theorem dX6_level_11 : decode cX6_level 11 = .ok (.ireturn, 1) := by decide +kernel
theorem dX6_level_12 : decode cX6_level 12 = .ok (.aload_n 0, 1) := by decide +kernel
theorem dX6_level_13 : decode cX6_level 13 = .ok (.iload_n 1, 1) := by decide +kernel
theorem dX6_level_14 : decode cX6_level 14 = .ok (.iconst 1, 1) := by decide +kernel
theorem dX6_level_15 : decode cX6_level 15 = .ok (.iadd, 1) := by decide +kernel
theorem dX6_level_16 : decode cX6_level 16 = .ok (.iload_n 2, 1) := by decide +kernel
theorem dX6_level_17 : decode cX6_level 17 = .ok (.iload_n 3, 1) := by decide +kernel
theorem dX6_level_18 : decode cX6_level 18 = .ok (.invokevirtual 46, 3) := by decide +kernel
theorem dX6_level_21 : decode cX6_level 21 = .ok (.ifCond .ne 5, 3) := by decide +kernel
theorem dX6_level_24 : decode cX6_level 24 = .ok (.iconst 0, 1) := by decide +kernel
theorem dX6_level_25 : decode cX6_level 25 = .ok (.ireturn, 1) := by decide +kernel
theorem dX6_level_26 : decode cX6_level 26 = .ok (.iconst 0, 1) := by decide +kernel
theorem dX6_level_27 : decode cX6_level 27 = .ok (.istore 4, 2) := by decide +kernel
theorem dX6_level_29 : decode cX6_level 29 = .ok (.iload 4, 2) := by decide +kernel
theorem dX6_level_31 : decode cX6_level 31 = .ok (.bipush 96, 2) := by decide +kernel
theorem dX6_level_33 : decode cX6_level 33 = .ok (.if_icmp .ge 64, 3) := by decide +kernel
theorem dX6_level_36 : decode cX6_level 36 = .ok (.aload_n 0, 1) := by decide +kernel
theorem dX6_level_37 : decode cX6_level 37 = .ok (.iload_n 1, 1) := by decide +kernel
theorem dX6_level_38 : decode cX6_level 38 = .ok (.invokestatic 106, 3) := by decide +kernel
theorem dX6_level_41 : decode cX6_level 41 = .ok (.invokevirtual 109, 3) := by decide +kernel
theorem dX6_level_44 : decode cX6_level 44 = .ok (.ifCond .eq 53, 3) := by decide +kernel
theorem dX6_level_47 : decode cX6_level 47 = .ok (.aload_n 0, 1) := by decide +kernel
theorem dX6_level_48 : decode cX6_level 48 = .ok (.aload_n 0, 1) := by decide +kernel
theorem dX6_level_49 : decode cX6_level 49 = .ok (.getfield 39, 3) := by decide +kernel
theorem dX6_level_52 : decode cX6_level 52 = .ok (.invokevirtual 50, 3) := by decide +kernel
theorem dX6_level_55 : decode cX6_level 55 = .ok (.istore 5, 2) := by decide +kernel
theorem dX6_level_57 : decode cX6_level 57 = .ok (.aload_n 0, 1) := by decide +kernel
theorem dX6_level_58 : decode cX6_level 58 = .ok (.invokevirtual 32, 3) := by decide +kernel
theorem dX6_level_61 : decode cX6_level 61 = .ok (.aload_n 0, 1) := by decide +kernel
theorem dX6_level_62 : decode cX6_level 62 = .ok (.iload_n 1, 1) := by decide +kernel
theorem dX6_level_63 : decode cX6_level 63 = .ok (.iconst 1, 1) := by decide +kernel
theorem dX6_level_64 : decode cX6_level 64 = .ok (.iadd, 1) := by decide +kernel
theorem dX6_level_65 : decode cX6_level 65 = .ok (.iload_n 2, 1) := by decide +kernel
theorem dX6_level_66 : decode cX6_level 66 = .ok (.iload_n 3, 1) := by decide +kernel
theorem dX6_level_67 : decode cX6_level 67 = .ok (.invokevirtual 46, 3) := by decide +kernel
theorem dX6_level_70 : decode cX6_level 70 = .ok (.ifCond .ne 5, 3) := by decide +kernel
theorem dX6_level_73 : decode cX6_level 73 = .ok (.iconst 0, 1) := by decide +kernel
theorem dX6_level_74 : decode cX6_level 74 = .ok (.ireturn, 1) := by decide +kernel
theorem dX6_level_75 : decode cX6_level 75 = .ok (.aload_n 0, 1) := by decide +kernel
theorem dX6_level_76 : decode cX6_level 76 = .ok (.getfield 18, 3) := by decide +kernel
theorem dX6_level_79 : decode cX6_level 79 = .ok (.iload 5, 2) := by decide +kernel
theorem dX6_level_81 : decode cX6_level 81 = .ok (.invokevirtual 112, 3) := by decide +kernel
theorem dX6_level_84 : decode cX6_level 84 = .ok (.iload_n 1, 1) := by decide +kernel
theorem dX6_level_85 : decode cX6_level 85 = .ok (.iconst 2, 1) := by decide +kernel
theorem dX6_level_86 : decode cX6_level 86 = .ok (.if_icmp .ne 5, 3) := by decide +kernel
theorem dX6_level_89 : decode cX6_level 89 = .ok (.iconst 1, 1) := by decide +kernel
theorem dX6_level_90 : decode cX6_level 90 = .ok (.ireturn, 1) := by decide +kernel
theorem dX6_level_91 : decode cX6_level 91 = .ok (.iinc 4 1, 3) := by decide +kernel
theorem dX6_level_94 : decode cX6_level 94 = .ok (.goto (-65), 3) := by decide +kernel
theorem dX6_level_97 : decode cX6_level 97 = .ok (.iconst 1, 1) := by decide +kernel
theorem dX6_level_98 : decode cX6_level 98 = .ok (.ireturn, 1) := by decide +kernel
theorem dX6_piece_0 : decode cX6_piece 0 = .ok (.aload_n 0, 1) := by decide +kernel
theorem dX6_piece_1 : decode cX6_piece 1 = .ok (.getfield 57, 3) := by decide +kernel
theorem dX6_piece_4 : decode cX6_piece 4 = .ok (.ifCond .eq 5, 3) := by decide +kernel
theorem dX6_piece_7 : decode cX6_piece 7 = .ok (.iconst 0, 1) := by decide +kernel
theorem dX6_piece_8 : decode cX6_piece 8 = .ok (.ireturn, 1) := by decide +kernel
theorem dX6_piece_9 : decode cX6_piece 9 = .ok (.aload_n 0, 1) := by decide +kernel
theorem dX6_piece_10 : decode cX6_piece 10 = .ok (.getfield 29, 3) := by decide +kernel
theorem dX6_piece_13 : decode cX6_piece 13 = .ok (.iconst 2, 1) := by decide +kernel
theorem dX6_piece_14 : decode cX6_piece 14 = .ok (.if_icmp .ne 8, 3) := by decide +kernel
theorem dX6_piece_17 : decode cX6_piece 17 = .ok (.aload_n 0, 1) := by decide +kernel
theorem dX6_piece_18 : decode cX6_piece 18 = .ok (.invokevirtual 115, 3) := by decide +kernel
theorem dX6_piece_21 : decode cX6_piece 21 = .ok (.ireturn, 1) := by decide +kernel
theorem dX6_piece_22 : decode cX6_piece 22 = .ok (.aload_n 0, 1) := by decide +kernel
theorem dX6_piece_23 : decode cX6_piece 23 = .ok (.getfield 29, 3) := by decide +kernel
theorem dX6_piece_26 : decode cX6_piece 26 = .ok (.iconst 1, 1) := by decide +kernel
theorem dX6_piece_27 : decode cX6_piece 27 = .ok (.if_icmp .ne 8, 3) := by decide +kernel
theorem dX6_piece_30 : decode cX6_piece 30 = .ok (.aload_n 0, 1) := by decide +kernel
theorem dX6_piece_31 : decode cX6_piece 31 = .ok (.invokevirtual 119, 3) := by decide +kernel
theorem dX6_piece_34 : decode cX6_piece 34 = .ok (.ireturn, 1) := by decide +kernel
theorem dX6_piece_35 : decode cX6_piece 35 = .ok (.iload_n 2, 1) := by decide +kernel
theorem dX6_piece_36 : decode cX6_piece 36 = .ok (.bipush 8, 2) := by decide +kernel
theorem dX6_piece_38 : decode cX6_piece 38 = .ok (.if_icmp .ge 40, 3) := by decide +kernel
theorem dX6_piece_41 : decode cX6_piece 41 = .ok (.aload_n 0, 1) := by decide +kernel
theorem dX6_piece_42 : decode cX6_piece 42 = .ok (.ldc 122, 2) := by decide +kernel
theorem dX6_piece_44 : decode cX6_piece 44 = .ok (.invokevirtual 109, 3) := by decide +kernel
theorem dX6_piece_47 : decode cX6_piece 47 = .ok (.ifCond .eq 31, 3) := by decide +kernel
theorem dX6_piece_50 : decode cX6_piece 50 = .ok (.aload_n 0, 1) := by decide +kernel
theorem dX6_piece_51 : decode cX6_piece 51 = .ok (.invokevirtual 32, 3) := by decide +kernel
theorem dX6_piece_54 : decode cX6_piece 54 = .ok (.aload_n 0, 1) := by decide +kernel
theorem dX6_piece_55 : decode cX6_piece 55 = .ok (.iload_n 1, 1) := by decide +kernel
theorem dX6_piece_56 : decode cX6_piece 56 = .ok (.iload_n 2, 1) := by decide +kernel
theorem dX6_piece_57 : decode cX6_piece 57 = .ok (.iconst 1, 1) := by decide +kernel
theorem dX6_piece_58 : decode cX6_piece 58 = .ok (.iadd, 1) := by decide +kernel
theorem dX6_piece_59 : decode cX6_piece 59 = .ok (.invokevirtual 102, 3) := by decide +kernel
theorem dX6_piece_62 : decode cX6_piece 62 = .ok (.ifCond .ne 5, 3) := by decide +kernel
theorem dX6_piece_65 : decode cX6_piece 65 = .ok (.iconst 0, 1) := by decide +kernel
theorem dX6_piece_66 : decode cX6_piece 66 = .ok (.ireturn, 1) := by decide +kernel
theorem dX6_piece_67 : decode cX6_piece 67 = .ok (.aload_n 0, 1) := by decide +kernel
theorem dX6_piece_68 : decode cX6_piece 68 = .ok (.getfield 18, 3) := by decide +kernel
theorem dX6_piece_71 : decode cX6_piece 71 = .ok (.bipush 33, 2) := by decide +kernel
theorem dX6_piece_73 : decode cX6_piece 73 = .ok (.invokevirtual 112, 3) := by decide +kernel
theorem dX6_piece_76 : decode cX6_piece 76 = .ok (.iconst 1, 1) := by decide +kernel
theorem dX6_piece_77 : decode cX6_piece 77 = .ok (.ireturn, 1) := by decide +kernel
theorem dX6_piece_78 : decode cX6_piece 78 = .ok (.iload_n 1, 1) := by decide +kernel
theorem dX6_piece_79 : decode cX6_piece 79 = .ok (.bipush 8, 2) := by decide +kernel
theorem dX6_piece_81 : decode cX6_piece 81 = .ok (.if_icmp .ge 45, 3) := by decide +kernel
theorem dX6_piece_84 : decode cX6_piece 84 = .ok (.aload_n 0, 1) := by decide +kernel
theorem dX6_piece_85 : decode cX6_piece 85 = .ok (.ldc 124, 2) := by decide +kernel
theorem dX6_piece_87 : decode cX6_piece 87 = .ok (.invokevirtual 109, 3) := by decide +kernel
theorem dX6_piece_90 : decode cX6_piece 90 = .ok (.ifCond .eq 36, 3) := by decide +kernel
theorem dX6_piece_93 : decode cX6_piece 93 = .ok (.aload_n 0, 1) := by decide +kernel
theorem dX6_piece_94 : decode cX6_piece 94 = .ok (.invokevirtual 32, 3) := by decide +kernel
theorem dX6_piece_97 : decode cX6_piece 97 = .ok (.aload_n 0, 1) := by decide +kernel
theorem dX6_piece_98 : decode cX6_piece 98 = .ok (.iconst 0, 1) := by decide +kernel
theorem dX6_piece_99 : decode cX6_piece 99 = .ok (.iload_n 1, 1) := by decide +kernel
theorem dX6_piece_100 : decode cX6_piece 100 = .ok (.iconst 1, 1) := by decide +kernel
theorem dX6_piece_101 : decode cX6_piece 101 = .ok (.iadd, 1) := by decide +kernel
theorem dX6_piece_102 : decode cX6_piece 102 = .ok (.iload_n 2, 1) := by decide +kernel
theorem dX6_piece_103 : decode cX6_piece 103 = .ok (.invokevirtual 46, 3) := by decide +kernel
theorem dX6_piece_106 : decode cX6_piece 106 = .ok (.ifCond .eq 12, 3) := by decide +kernel
theorem dX6_piece_109 : decode cX6_piece 109 = .ok (.aload_n 0, 1) := by decide +kernel
theorem dX6_piece_110 : decode cX6_piece 110 = .ok (.ldc 126, 2) := by decide +kernel
theorem dX6_piece_112 : decode cX6_piece 112 = .ok (.invokevirtual 109, 3) := by decide +kernel
theorem dX6_piece_115 : decode cX6_piece 115 = .ok (.ifCond .ne 5, 3) := by decide +kernel
theorem dX6_piece_118 : decode cX6_piece 118 = .ok (.iconst 0, 1) := by decide +kernel
theorem dX6_piece_119 : decode cX6_piece 119 = .ok (.ireturn, 1) := by decide +kernel
theorem dX6_piece_120 : decode cX6_piece 120 = .ok (.aload_n 0, 1) := by decide +kernel
theorem dX6_piece_121 : decode cX6_piece 121 = .ok (.invokevirtual 32, 3) := by decide +kernel
theorem dX6_piece_124 : decode cX6_piece 124 = .ok (.iconst 1, 1) := by decide +kernel
theorem dX6_piece_125 : decode cX6_piece 125 = .ok (.ireturn, 1) := by decide +kernel
theorem dX6_piece_126 : decode cX6_piece 126 = .ok (.iconst 0, 1) := by decide +kernel
theorem dX6_piece_127 : decode cX6_piece 127 = .ok (.ireturn, 1) := by decide +kernel
theorem dX6_number_0 : decode cX6_number 0 = .ok (.aload_n 0, 1) := by decide +kernel
theorem dX6_number_1 : decode cX6_number 1 = .ok (.getfield 26, 3) := by decide +kernel
theorem dX6_number_4 : decode cX6_number 4 = .ok (.aload_n 0, 1) := by decide +kernel
theorem dX6_number_5 : decode cX6_number 5 = .ok (.getfield 39, 3) := by decide +kernel
theorem dX6_number_8 : decode cX6_number 8 = .ok (.isub, 1) := by decide +kernel
theorem dX6_number_9 : decode cX6_number 9 = .ok (.iconst 4, 1) := by decide +kernel
theorem dX6_number_10 : decode cX6_number 10 = .ok (.if_icmp .le 5, 3) := by decide +kernel
theorem dX6_number_13 : decode cX6_number 13 = .ok (.iconst 0, 1) := by decide +kernel
theorem dX6_number_14 : decode cX6_number 14 = .ok (.ireturn, 1) := by decide +kernel
theorem dX6_number_15 : decode cX6_number 15 = .ok (.iconst 0, 1) := by decide +kernel
theorem dX6_number_16 : decode cX6_number 16 = .ok (.istore_n 1, 1) := by decide +kernel
theorem dX6_number_17 : decode cX6_number 17 = .ok (.aload_n 0, 1) := by decide +kernel
theorem dX6_number_18 : decode cX6_number 18 = .ok (.getfield 39, 3) := by decide +kernel
theorem dX6_number_21 : decode cX6_number 21 = .ok (.istore_n 2, 1) := by decide +kernel
theorem dX6_number_22 : decode cX6_number 22 = .ok (.iload_n 2, 1) := by decide +kernel
theorem dX6_number_23 : decode cX6_number 23 = .ok (.aload_n 0, 1) := by decide +kernel
theorem dX6_number_24 : decode cX6_number 24 = .ok (.getfield 26, 3) := by decide +kernel
theorem dX6_number_27 : decode cX6_number 27 = .ok (.if_icmp .ge 23, 3) := by decide +kernel
theorem dX6_number_30 : decode cX6_number 30 = .ok (.iload_n 1, 1) := by decide +kernel
theorem dX6_number_31 : decode cX6_number 31 = .ok (.bipush 10, 2) := by decide +kernel
theorem dX6_number_33 : decode cX6_number 33 = .ok (.imul, 1) := by decide +kernel
theorem dX6_number_34 : decode cX6_number 34 = .ok (.aload_n 0, 1) := by decide +kernel
theorem dX6_number_35 : decode cX6_number 35 = .ok (.iload_n 2, 1) := by decide +kernel
theorem dX6_number_36 : decode cX6_number 36 = .ok (.invokevirtual 50, 3) := by decide +kernel
theorem dX6_number_39 : decode cX6_number 39 = .ok (.iadd, 1) := by decide +kernel
theorem dX6_number_40 : decode cX6_number 40 = .ok (.bipush 48, 2) := by decide +kernel
theorem dX6_number_42 : decode cX6_number 42 = .ok (.isub, 1) := by decide +kernel
theorem dX6_number_43 : decode cX6_number 43 = .ok (.istore_n 1, 1) := by decide +kernel
theorem dX6_number_44 : decode cX6_number 44 = .ok (.iinc 2 1, 3) := by decide +kernel
theorem dX6_number_47 : decode cX6_number 47 = .ok (.goto (-25), 3) := by decide +kernel
theorem dX6_number_50 : decode cX6_number 50 = .ok (.aload_n 0, 1) := by decide +kernel
theorem dX6_number_51 : decode cX6_number 51 = .ok (.getfield 18, 3) := by decide +kernel
theorem dX6_number_54 : decode cX6_number 54 = .ok (.iload_n 1, 1) := by decide +kernel
theorem dX6_number_55 : decode cX6_number 55 = .ok (.invokevirtual 128, 3) := by decide +kernel
theorem dX6_number_58 : decode cX6_number 58 = .ok (.aload_n 0, 1) := by decide +kernel
theorem dX6_number_59 : decode cX6_number 59 = .ok (.invokevirtual 32, 3) := by decide +kernel
theorem dX6_number_62 : decode cX6_number 62 = .ok (.iconst 1, 1) := by decide +kernel
theorem dX6_number_63 : decode cX6_number 63 = .ok (.ireturn, 1) := by decide +kernel
theorem dX6_name_0 : decode cX6_name 0 = .ok (.aload_n 0, 1) := by decide +kernel
theorem dX6_name_1 : decode cX6_name 1 = .ok (.getfield 26, 3) := by decide +kernel
theorem dX6_name_4 : decode cX6_name 4 = .ok (.aload_n 0, 1) := by decide +kernel
theorem dX6_name_5 : decode cX6_name 5 = .ok (.getfield 39, 3) := by decide +kernel
theorem dX6_name_8 : decode cX6_name 8 = .ok (.isub, 1) := by decide +kernel
theorem dX6_name_9 : decode cX6_name 9 = .ok (.iconst 1, 1) := by decide +kernel
theorem dX6_name_10 : decode cX6_name 10 = .ok (.if_icmp .ne 28, 3) := by decide +kernel
theorem dX6_name_13 : decode cX6_name 13 = .ok (.aload_n 0, 1) := by decide +kernel
theorem dX6_name_14 : decode cX6_name 14 = .ok (.getfield 18, 3) := by decide +kernel
theorem dX6_name_17 : decode cX6_name 17 = .ok (.getfield 131, 3) := by decide +kernel
theorem dX6_name_20 : decode cX6_name 20 = .ok (.invokestatic 134, 3) := by decide +kernel
theorem dX6_name_23 : decode cX6_name 23 = .ok (.aload_n 0, 1) := by decide +kernel
theorem dX6_name_24 : decode cX6_name 24 = .ok (.aload_n 0, 1) := by decide +kernel
theorem dX6_name_25 : decode cX6_name 25 = .ok (.getfield 39, 3) := by decide +kernel
theorem dX6_name_28 : decode cX6_name 28 = .ok (.invokevirtual 50, 3) := by decide +kernel
theorem dX6_name_31 : decode cX6_name 31 = .ok (.i2c, 1) := by decide +kernel
theorem dX6_name_32 : decode cX6_name 32 = .ok (.invokevirtual 99, 3) := by decide +kernel
theorem dX6_name_35 : decode cX6_name 35 = .ok (.goto 4, 3) := by decide +kernel
theorem dX6_name_38 : decode cX6_name 38 = .ok (.iconst (-1), 1) := by decide +kernel
theorem dX6_name_39 : decode cX6_name 39 = .ok (.istore_n 1, 1) := by decide +kernel
theorem dX6_name_40 : decode cX6_name 40 = .ok (.iload_n 1, 1) := by decide +kernel
theorem dX6_name_41 : decode cX6_name 41 = .ok (.ifCond .ge 5, 3) := by decide +kernel
theorem dX6_name_44 : decode cX6_name 44 = .ok (.iconst 0, 1) := by decide +kernel
theorem dX6_name_45 : decode cX6_name 45 = .ok (.ireturn, 1) := by decide +kernel
theorem dX6_name_46 : decode cX6_name 46 = .ok (.aload_n 0, 1) := by decide +kernel
theorem dX6_name_47 : decode cX6_name 47 = .ok (.getfield 18, 3) := by decide +kernel
theorem dX6_name_50 : decode cX6_name 50 = .ok (.iload_n 1, 1) := by decide +kernel
theorem dX6_name_51 : decode cX6_name 51 = .ok (.invokevirtual 137, 3) := by decide +kernel
theorem dX6_name_54 : decode cX6_name 54 = .ok (.aload_n 0, 1) := by decide +kernel
theorem dX6_name_55 : decode cX6_name 55 = .ok (.invokevirtual 32, 3) := by decide +kernel
theorem dX6_name_58 : decode cX6_name 58 = .ok (.iconst 1, 1) := by decide +kernel
theorem dX6_name_59 : decode cX6_name 59 = .ok (.ireturn, 1) := by decide +kernel
theorem dX7_init_0 : decode cX7_init 0 = .ok (.aload_n 0, 1) := by decide +kernel
theorem dX7_init_1 : decode cX7_init 1 = .ok (.invokespecial 1, 3) := by decide +kernel
theorem dX7_init_4 : decode cX7_init 4 = .ok (.aload_n 0, 1) := by decide +kernel
theorem dX7_init_5 : decode cX7_init 5 = .ok (.new 7, 3) := by decide +kernel
theorem dX7_init_8 : decode cX7_init 8 = .ok (.dup, 1) := by decide +kernel
theorem dX7_init_9 : decode cX7_init 9 = .ok (.invokespecial 9, 3) := by decide +kernel
theorem dX7_init_12 : decode cX7_init 12 = .ok (.putfield 10, 3) := by decide +kernel
theorem dX7_init_15 : decode cX7_init 15 = .ok (.aload_n 0, 1) := by decide +kernel
theorem dX7_init_16 : decode cX7_init 16 = .ok (.new 16, 3) := by decide +kernel
theorem dX7_init_19 : decode cX7_init 19 = .ok (.dup, 1) := by decide +kernel
theorem dX7_init_20 : decode cX7_init 20 = .ok (.invokespecial 18, 3) := by decide +kernel
theorem dX7_init_23 : decode cX7_init 23 = .ok (.putfield 19, 3) := by decide +kernel
theorem dX7_init_26 : decode cX7_init 26 = .ok (.aload_n 0, 1) := by decide +kernel
theorem dX7_init_27 : decode cX7_init 27 = .ok (.new 23, 3) := by decide +kernel
theorem dX7_init_30 : decode cX7_init 30 = .ok (.dup, 1) := by decide +kernel
theorem dX7_init_31 : decode cX7_init 31 = .ok (.aload_n 0, 1) := by decide +kernel
theorem dX7_init_32 : decode cX7_init 32 = .ok (.getfield 10, 3) := by decide +kernel
theorem dX7_init_35 : decode cX7_init 35 = .ok (.invokespecial 25, 3) := by decide +kernel
theorem dX7_init_38 : decode cX7_init 38 = .ok (.putfield 28, 3) := by decide +kernel
theorem dX7_init_41 : decode cX7_init 41 = .ok (.aload_n 0, 1) := by decide +kernel
theorem dX7_init_42 : decode cX7_init 42 = .ok (.new 23, 3) := by decide +kernel
theorem dX7_init_45 : decode cX7_init 45 = .ok (.dup, 1) := by decide +kernel
theorem dX7_init_46 : decode cX7_init 46 = .ok (.aload_n 0, 1) := by decide +kernel
theorem dX7_init_47 : decode cX7_init 47 = .ok (.getfield 10, 3) := by decide +kernel
theorem dX7_init_50 : decode cX7_init 50 = .ok (.invokespecial 25, 3) := by decide +kernel
theorem dX7_init_53 : decode cX7_init 53 = .ok (.putfield 32, 3) := by decide +kernel
theorem dX7_init_56 : decode cX7_init 56 = .ok (.aload_n 0, 1) := by decide +kernel
theorem dX7_init_57 : decode cX7_init 57 = .ok (.new 23, 3) := by decide +kernel
theorem dX7_init_60 : decode cX7_init 60 = .ok (.dup, 1) := by decide +kernel
theorem dX7_init_61 : decode cX7_init 61 = .ok (.aload_n 0, 1) := by decide +kernel
theorem dX7_init_62 : decode cX7_init 62 = .ok (.getfield 10, 3) := by decide +kernel
theorem dX7_init_65 : decode cX7_init 65 = .ok (.invokespecial 25, 3) := by decide +kernel
theorem dX7_init_68 : decode cX7_init 68 = .ok (.putfield 35, 3) := by decide +kernel
theorem dX7_init_71 : decode cX7_init 71 = .ok (.aload_n 0, 1) := by decide +kernel
theorem dX7_init_72 : decode cX7_init 72 = .ok (.iconst 4, 1) := by decide +kernel
theorem dX7_init_73 : decode cX7_init 73 = .ok (.anewarray 38, 3) := by decide +kernel
theorem dX7_init_76 : decode cX7_init 76 = .ok (.putfield 40, 3) := by decide +kernel
theorem dX7_init_79 : decode cX7_init 79 = .ok (.iconst 0, 1) := by decide +kernel
theorem dX7_init_80 : decode cX7_init 80 = .ok (.istore_n 1, 1) := by decide +kernel
theorem dX7_init_81 : decode cX7_init 81 = .ok (.iload_n 1, 1) := by decide +kernel
theorem dX7_init_82 : decode cX7_init 82 = .ok (.iconst 4, 1) := by decide +kernel
theorem dX7_init_83 : decode cX7_init 83 = .ok (.if_icmp .ge 22, 3) := by decide +kernel
theorem dX7_init_86 : decode cX7_init 86 = .ok (.aload_n 0, 1) := by decide +kernel
theorem dX7_init_87 : decode cX7_init 87 = .ok (.getfield 40, 3) := by decide +kernel
theorem dX7_init_90 : decode cX7_init 90 = .ok (.iload_n 1, 1) := by decide +kernel
theorem dX7_init_91 : decode cX7_init 91 = .ok (.new 38, 3) := by decide +kernel
theorem dX7_init_94 : decode cX7_init 94 = .ok (.dup, 1) := by decide +kernel
theorem dX7_init_95 : decode cX7_init 95 = .ok (.invokespecial 44, 3) := by decide +kernel
theorem dX7_init_98 : decode cX7_init 98 = .ok (.aastore, 1) := by decide +kernel
theorem dX7_init_99 : decode cX7_init 99 = .ok (.iinc 1 1, 3) := by decide +kernel
theorem dX7_init_102 : decode cX7_init 102 = .ok (.goto (-21), 3) := by decide +kernel
theorem dX7_init_105 : decode cX7_init 105 = .ok (.aload_n 0, 1) := by decide +kernel
theorem dX7_init_106 : decode cX7_init 106 = .ok (.iconst 5, 1) := by decide +kernel
theorem dX7_init_107 : decode cX7_init 107 = .ok (.anewarray 45, 3) := by decide +kernel
theorem dX7_init_110 : decode cX7_init 110 = .ok (.putfield 47, 3) := by decide +kernel
theorem dX7_init_113 : decode cX7_init 113 = .ok (.iconst 0, 1) := by decide +kernel
theorem dX7_init_114 : decode cX7_init 114 = .ok (.istore_n 1, 1) := by decide +kernel
theorem dX7_init_115 : decode cX7_init 115 = .ok (.iload_n 1, 1) := by decide +kernel
theorem dX7_init_116 : decode cX7_init 116 = .ok (.iconst 5, 1) := by decide +kernel
theorem dX7_init_117 : decode cX7_init 117 = .ok (.if_icmp .ge 22, 3) := by decide +kernel
theorem dX7_init_120 : decode cX7_init 120 = .ok (.aload_n 0, 1) := by decide +kernel
theorem dX7_init_121 : decode cX7_init 121 = .ok (.getfield 47, 3) := by decide +kernel
theorem dX7_init_124 : decode cX7_init 124 = .ok (.iload_n 1, 1) := by decide +kernel
theorem dX7_init_125 : decode cX7_init 125 = .ok (.new 45, 3) := by decide +kernel
theorem dX7_init_128 : decode cX7_init 128 = .ok (.dup, 1) := by decide +kernel
theorem dX7_init_129 : decode cX7_init 129 = .ok (.invokespecial 51, 3) := by decide +kernel
theorem dX7_init_132 : decode cX7_init 132 = .ok (.aastore, 1) := by decide +kernel
theorem dX7_init_133 : decode cX7_init 133 = .ok (.iinc 1 1, 3) := by decide +kernel
theorem dX7_init_136 : decode cX7_init 136 = .ok (.goto (-21), 3) := by decide +kernel
theorem dX7_init_139 : decode cX7_init 139 = .ok (.aload_n 0, 1) := by decide +kernel
theorem dX7_init_140 : decode cX7_init 140 = .ok (.bipush 60, 2) := by decide +kernel
theorem dX7_init_142 : decode cX7_init 142 = .ok (.newarray .int, 2) := by decide +kernel
theorem dX7_init_144 : decode cX7_init 144 = .ok (.putfield 52, 3) := by decide +kernel
theorem dX7_init_147 : decode cX7_init 147 = .ok (.return_, 1) := by decide +kernel
theorem dX7_juror_0 : decode cX7_juror 0 = .ok (.iload_n 1, 1) := by decide +kernel
theorem dX7_juror_1 : decode cX7_juror 1 = .ok (.iconst 0, 1) := by decide +kernel
theorem dX7_juror_2 : decode cX7_juror 2 = .ok (.iconst 5, 1) := by decide +kernel
theorem dX7_juror_3 : decode cX7_juror 3 = .ok (.invokestatic 56, 3) := by decide +kernel
theorem dX7_juror_6 : decode cX7_juror 6 = .ok (.ifCond .eq 22, 3) := by decide +kernel
theorem dX7_juror_9 : decode cX7_juror 9 = .ok (.iload_n 2, 1) := by decide +kernel
theorem dX7_juror_10 : decode cX7_juror 10 = .ok (.iconst 0, 1) := by decide +kernel
theorem dX7_juror_11 : decode cX7_juror 11 = .ok (.iconst 1, 1) := by decide +kernel
theorem dX7_juror_12 : decode cX7_juror 12 = .ok (.invokestatic 56, 3) := by decide +kernel
theorem dX7_juror_15 : decode cX7_juror 15 = .ok (.ifCond .eq 13, 3) := by decide +kernel
theorem dX7_juror_18 : decode cX7_juror 18 = .ok (.iload_n 3, 1) := by decide +kernel
theorem dX7_juror_19 : decode cX7_juror 19 = .ok (.iconst 0, 1) := by decide +kernel
theorem dX7_juror_20 : decode cX7_juror 20 = .ok (.bipush 40, 2) := by decide +kernel
theorem dX7_juror_22 : decode cX7_juror 22 = .ok (.invokestatic 56, 3) := by decide +kernel
theorem dX7_juror_25 : decode cX7_juror 25 = .ok (.ifCond .ne 6, 3) := by decide +kernel
theorem dX7_juror_28 : decode cX7_juror 28 = .ok (.ldc 60, 2) := by decide +kernel
theorem dX7_juror_30 : decode cX7_juror 30 = .ok (.ireturn, 1) := by decide +kernel
theorem dX7_juror_31 : decode cX7_juror 31 = .ok (.aload_n 0, 1) := by decide +kernel
theorem dX7_juror_32 : decode cX7_juror 32 = .ok (.getfield 28, 3) := by decide +kernel
theorem dX7_juror_35 : decode cX7_juror 35 = .ok (.getfield 61, 3) := by decide +kernel
theorem dX7_juror_38 : decode cX7_juror 38 = .ok (.bipush 10, 2) := by decide +kernel
theorem dX7_juror_40 : decode cX7_juror 40 = .ok (.if_icmp .lt 6, 3) := by decide +kernel
theorem dX7_juror_43 : decode cX7_juror 43 = .ok (.ldc 65, 2) := by decide +kernel
theorem dX7_juror_45 : decode cX7_juror 45 = .ok (.ireturn, 1) := by decide +kernel
theorem dX7_juror_46 : decode cX7_juror 46 = .ok (.aload_n 0, 1) := by decide +kernel
theorem dX7_juror_47 : decode cX7_juror 47 = .ok (.getfield 28, 3) := by decide +kernel
theorem dX7_juror_50 : decode cX7_juror 50 = .ok (.iload_n 1, 1) := by decide +kernel
theorem dX7_juror_51 : decode cX7_juror 51 = .ok (.iload_n 2, 1) := by decide +kernel
theorem dX7_juror_52 : decode cX7_juror 52 = .ok (.iconst 0, 1) := by decide +kernel
theorem dX7_juror_53 : decode cX7_juror 53 = .ok (.iload_n 3, 1) := by decide +kernel
theorem dX7_juror_54 : decode cX7_juror 54 = .ok (.invokevirtual 66, 3) := by decide +kernel
theorem dX7_juror_57 : decode cX7_juror 57 = .ok (.aload_n 0, 1) := by decide +kernel
theorem dX7_juror_58 : decode cX7_juror 58 = .ok (.getfield 28, 3) := by decide +kernel
theorem dX7_juror_61 : decode cX7_juror 61 = .ok (.getfield 61, 3) := by decide +kernel
theorem dX7_juror_64 : decode cX7_juror 64 = .ok (.iconst 1, 1) := by decide +kernel
theorem dX7_juror_65 : decode cX7_juror 65 = .ok (.isub, 1) := by decide +kernel
theorem dX7_juror_66 : decode cX7_juror 66 = .ok (.ireturn, 1) := by decide +kernel
theorem dX7_told_0 : decode cX7_told 0 = .ok (.aload_n 0, 1) := by decide +kernel
theorem dX7_told_1 : decode cX7_told 1 = .ok (.getfield 28, 3) := by decide +kernel
theorem dX7_told_4 : decode cX7_told 4 = .ok (.iload_n 1, 1) := by decide +kernel
theorem dX7_told_5 : decode cX7_told 5 = .ok (.invokevirtual 70, 3) := by decide +kernel
theorem dX7_told_8 : decode cX7_told 8 = .ok (.ifCond .ne 6, 3) := by decide +kernel
theorem dX7_told_11 : decode cX7_told 11 = .ok (.ldc 60, 2) := by decide +kernel
theorem dX7_told_13 : decode cX7_told 13 = .ok (.ireturn, 1) := by decide +kernel
theorem dX7_told_14 : decode cX7_told 14 = .ok (.iload_n 2, 1) := by decide +kernel
theorem dX7_told_15 : decode cX7_told 15 = .ok (.tableswitch 148 0 8 #[49, 59, 69, 79, 89, 99, 108, 117, 126], 49) := by decide +kernel
theorem dX7_told_64 : decode cX7_told 64 = .ok (.aload_n 0, 1) := by decide +kernel
theorem dX7_told_65 : decode cX7_told 65 = .ok (.getfield 28, 3) := by decide +kernel
theorem dX7_told_68 : decode cX7_told 68 = .ok (.getfield 74, 3) := by decide +kernel
theorem dX7_told_71 : decode cX7_told 71 = .ok (.iload_n 1, 1) := by decide +kernel
theorem dX7_told_72 : decode cX7_told 72 = .ok (.iaload, 1) := by decide +kernel
theorem dX7_told_73 : decode cX7_told 73 = .ok (.ireturn, 1) := by decide +kernel
theorem dX7_told_74 : decode cX7_told 74 = .ok (.aload_n 0, 1) := by decide +kernel
theorem dX7_told_75 : decode cX7_told 75 = .ok (.getfield 28, 3) := by decide +kernel
theorem dX7_told_78 : decode cX7_told 78 = .ok (.getfield 77, 3) := by decide +kernel
theorem dX7_told_81 : decode cX7_told 81 = .ok (.iload_n 1, 1) := by decide +kernel
theorem dX7_told_82 : decode cX7_told 82 = .ok (.iaload, 1) := by decide +kernel
theorem dX7_told_83 : decode cX7_told 83 = .ok (.ireturn, 1) := by decide +kernel
theorem dX7_told_84 : decode cX7_told 84 = .ok (.aload_n 0, 1) := by decide +kernel
theorem dX7_told_85 : decode cX7_told 85 = .ok (.getfield 28, 3) := by decide +kernel
theorem dX7_told_88 : decode cX7_told 88 = .ok (.getfield 80, 3) := by decide +kernel
theorem dX7_told_91 : decode cX7_told 91 = .ok (.iload_n 1, 1) := by decide +kernel
theorem dX7_told_92 : decode cX7_told 92 = .ok (.iaload, 1) := by decide +kernel
theorem dX7_told_93 : decode cX7_told 93 = .ok (.ireturn, 1) := by decide +kernel
theorem dX7_told_94 : decode cX7_told 94 = .ok (.aload_n 0, 1) := by decide +kernel
theorem dX7_told_95 : decode cX7_told 95 = .ok (.getfield 28, 3) := by decide +kernel
theorem dX7_told_98 : decode cX7_told 98 = .ok (.getfield 83, 3) := by decide +kernel
theorem dX7_told_101 : decode cX7_told 101 = .ok (.iload_n 1, 1) := by decide +kernel
theorem dX7_told_102 : decode cX7_told 102 = .ok (.iaload, 1) := by decide +kernel
theorem dX7_told_103 : decode cX7_told 103 = .ok (.ireturn, 1) := by decide +kernel
theorem dX7_told_104 : decode cX7_told 104 = .ok (.aload_n 0, 1) := by decide +kernel
theorem dX7_told_105 : decode cX7_told 105 = .ok (.getfield 28, 3) := by decide +kernel
theorem dX7_told_108 : decode cX7_told 108 = .ok (.getfield 86, 3) := by decide +kernel
theorem dX7_told_111 : decode cX7_told 111 = .ok (.iload_n 1, 1) := by decide +kernel
theorem dX7_told_112 : decode cX7_told 112 = .ok (.iaload, 1) := by decide +kernel
theorem dX7_told_113 : decode cX7_told 113 = .ok (.ireturn, 1) := by decide +kernel
theorem dX7_told_114 : decode cX7_told 114 = .ok (.aload_n 0, 1) := by decide +kernel
theorem dX7_told_115 : decode cX7_told 115 = .ok (.getfield 28, 3) := by decide +kernel
theorem dX7_told_118 : decode cX7_told 118 = .ok (.iload_n 1, 1) := by decide +kernel
theorem dX7_told_119 : decode cX7_told 119 = .ok (.invokevirtual 89, 3) := by decide +kernel
theorem dX7_told_122 : decode cX7_told 122 = .ok (.ireturn, 1) := by decide +kernel
theorem dX7_told_123 : decode cX7_told 123 = .ok (.aload_n 0, 1) := by decide +kernel
theorem dX7_told_124 : decode cX7_told 124 = .ok (.getfield 28, 3) := by decide +kernel
theorem dX7_told_127 : decode cX7_told 127 = .ok (.iload_n 1, 1) := by decide +kernel
theorem dX7_told_128 : decode cX7_told 128 = .ok (.invokevirtual 93, 3) := by decide +kernel
theorem dX7_told_131 : decode cX7_told 131 = .ok (.ireturn, 1) := by decide +kernel
theorem dX7_told_132 : decode cX7_told 132 = .ok (.aload_n 0, 1) := by decide +kernel
theorem dX7_told_133 : decode cX7_told 133 = .ok (.getfield 28, 3) := by decide +kernel
theorem dX7_told_136 : decode cX7_told 136 = .ok (.iload_n 1, 1) := by decide +kernel
theorem dX7_told_137 : decode cX7_told 137 = .ok (.invokevirtual 96, 3) := by decide +kernel
theorem dX7_told_140 : decode cX7_told 140 = .ok (.ireturn, 1) := by decide +kernel
theorem dX7_told_141 : decode cX7_told 141 = .ok (.aload_n 0, 1) := by decide +kernel
theorem dX7_told_142 : decode cX7_told 142 = .ok (.getfield 28, 3) := by decide +kernel
theorem dX7_told_145 : decode cX7_told 145 = .ok (.getfield 74, 3) := by decide +kernel
theorem dX7_told_148 : decode cX7_told 148 = .ok (.iload_n 1, 1) := by decide +kernel
theorem dX7_told_149 : decode cX7_told 149 = .ok (.iaload, 1) := by decide +kernel
theorem dX7_told_150 : decode cX7_told 150 = .ok (.aload_n 0, 1) := by decide +kernel
theorem dX7_told_151 : decode cX7_told 151 = .ok (.getfield 28, 3) := by decide +kernel
theorem dX7_told_154 : decode cX7_told 154 = .ok (.getfield 83, 3) := by decide +kernel
theorem dX7_told_157 : decode cX7_told 157 = .ok (.iload_n 1, 1) := by decide +kernel
theorem dX7_told_158 : decode cX7_told 158 = .ok (.iaload, 1) := by decide +kernel
theorem dX7_told_159 : decode cX7_told 159 = .ok (.invokestatic 99, 3) := by decide +kernel
theorem dX7_told_162 : decode cX7_told 162 = .ok (.ireturn, 1) := by decide +kernel
theorem dX7_told_163 : decode cX7_told 163 = .ok (.ldc 60, 2) := by decide +kernel
theorem dX7_told_165 : decode cX7_told 165 = .ok (.ireturn, 1) := by decide +kernel
theorem dX7_tells_0 : decode cX7_tells 0 = .ok (.aload_n 0, 1) := by decide +kernel
theorem dX7_tells_1 : decode cX7_tells 1 = .ok (.getfield 28, 3) := by decide +kernel
theorem dX7_tells_4 : decode cX7_tells 4 = .ok (.iload_n 1, 1) := by decide +kernel
theorem dX7_tells_5 : decode cX7_tells 5 = .ok (.invokevirtual 70, 3) := by decide +kernel
theorem dX7_tells_8 : decode cX7_tells 8 = .ok (.ifCond .eq 19, 3) := by decide +kernel
theorem dX7_tells_11 : decode cX7_tells 11 = .ok (.aload_n 0, 1) := by decide +kernel
theorem dX7_tells_12 : decode cX7_tells 12 = .ok (.getfield 28, 3) := by decide +kernel
theorem dX7_tells_15 : decode cX7_tells 15 = .ok (.iload_n 2, 1) := by decide +kernel
theorem dX7_tells_16 : decode cX7_tells 16 = .ok (.invokevirtual 70, 3) := by decide +kernel
theorem dX7_tells_19 : decode cX7_tells 19 = .ok (.ifCond .eq 8, 3) := by decide +kernel
theorem dX7_tells_22 : decode cX7_tells 22 = .ok (.iload_n 1, 1) := by decide +kernel
theorem dX7_tells_23 : decode cX7_tells 23 = .ok (.iload_n 2, 1) := by decide +kernel
theorem dX7_tells_24 : decode cX7_tells 24 = .ok (.if_icmp .ne 6, 3) := by decide +kernel
theorem dX7_tells_27 : decode cX7_tells 27 = .ok (.ldc 60, 2) := by decide +kernel
theorem dX7_tells_29 : decode cX7_tells 29 = .ok (.ireturn, 1) := by decide +kernel
theorem dX7_tells_30 : decode cX7_tells 30 = .ok (.aload_n 0, 1) := by decide +kernel
theorem dX7_tells_31 : decode cX7_tells 31 = .ok (.getfield 28, 3) := by decide +kernel
theorem dX7_tells_34 : decode cX7_tells 34 = .ok (.iload_n 1, 1) := by decide +kernel
theorem dX7_tells_35 : decode cX7_tells 35 = .ok (.iload_n 2, 1) := by decide +kernel
theorem dX7_tells_36 : decode cX7_tells 36 = .ok (.invokestatic 105, 3) := by decide +kernel
theorem dX7_tells_39 : decode cX7_tells 39 = .ok (.istore_n 3, 1) := by decide +kernel
theorem dX7_tells_40 : decode cX7_tells 40 = .ok (.iload_n 3, 1) := by decide +kernel
theorem dX7_tells_41 : decode cX7_tells 41 = .ok (.ifCond .ne 8, 3) := by decide +kernel
theorem dX7_tells_44 : decode cX7_tells 44 = .ok (.ldc 109, 2) := by decide +kernel
theorem dX7_tells_46 : decode cX7_tells 46 = .ok (.goto 9, 3) := by decide +kernel
theorem dX7_tells_49 : decode cX7_tells 49 = .ok (.iload_n 3, 1) := by decide +kernel
theorem dX7_tells_50 : decode cX7_tells 50 = .ok (.iconst 1, 1) := by decide +kernel
theorem dX7_tells_51 : decode cX7_tells 51 = .ok (.isub, 1) := by decide +kernel
theorem dX7_tells_52 : decode cX7_tells 52 = .ok (.invokestatic 110, 3) := by decide +kernel
theorem dX7_tells_55 : decode cX7_tells 55 = .ok (.ireturn, 1) := by decide +kernel
theorem dX7_as_0 : decode cX7_as 0 = .ok (.aload_n 0, 1) := by decide +kernel
theorem dX7_as_1 : decode cX7_as 1 = .ok (.getfield 28, 3) := by decide +kernel
theorem dX7_as_4 : decode cX7_as 4 = .ok (.iload_n 1, 1) := by decide +kernel
theorem dX7_as_5 : decode cX7_as 5 = .ok (.invokevirtual 70, 3) := by decide +kernel
theorem dX7_as_8 : decode cX7_as 8 = .ok (.ifCond .eq 12, 3) := by decide +kernel
theorem dX7_as_11 : decode cX7_as 11 = .ok (.iload_n 2, 1) := by decide +kernel
theorem dX7_as_12 : decode cX7_as 12 = .ok (.iconst 0, 1) := by decide +kernel
theorem dX7_as_13 : decode cX7_as 13 = .ok (.iconst 5, 1) := by decide +kernel
theorem dX7_as_14 : decode cX7_as 14 = .ok (.invokestatic 56, 3) := by decide +kernel
theorem dX7_as_17 : decode cX7_as 17 = .ok (.ifCond .ne 6, 3) := by decide +kernel
theorem dX7_as_20 : decode cX7_as 20 = .ok (.ldc 60, 2) := by decide +kernel
theorem dX7_as_22 : decode cX7_as 22 = .ok (.ireturn, 1) := by decide +kernel
theorem dX7_as_23 : decode cX7_as 23 = .ok (.aload_n 0, 1) := by decide +kernel
theorem dX7_as_24 : decode cX7_as 24 = .ok (.getfield 28, 3) := by decide +kernel
theorem dX7_as_27 : decode cX7_as 27 = .ok (.getfield 74, 3) := by decide +kernel
theorem dX7_as_30 : decode cX7_as 30 = .ok (.iload_n 1, 1) := by decide +kernel
theorem dX7_as_31 : decode cX7_as 31 = .ok (.iaload, 1) := by decide +kernel
theorem dX7_as_32 : decode cX7_as 32 = .ok (.iload_n 2, 1) := by decide +kernel
theorem dX7_as_33 : decode cX7_as 33 = .ok (.invokestatic 115, 3) := by decide +kernel
theorem dX7_as_36 : decode cX7_as 36 = .ok (.ifCond .eq 15, 3) := by decide +kernel
theorem dX7_as_39 : decode cX7_as 39 = .ok (.aload_n 0, 1) := by decide +kernel
theorem dX7_as_40 : decode cX7_as 40 = .ok (.getfield 28, 3) := by decide +kernel
theorem dX7_as_43 : decode cX7_as 43 = .ok (.getfield 83, 3) := by decide +kernel
theorem dX7_as_46 : decode cX7_as 46 = .ok (.iload_n 1, 1) := by decide +kernel
theorem dX7_as_47 : decode cX7_as 47 = .ok (.iaload, 1) := by decide +kernel
theorem dX7_as_48 : decode cX7_as 48 = .ok (.goto 5, 3) := by decide +kernel
theorem dX7_as_51 : decode cX7_as 51 = .ok (.ldc 119, 2) := by decide +kernel
theorem dX7_as_53 : decode cX7_as 53 = .ok (.ireturn, 1) := by decide +kernel
theorem dX7_turns_0 : decode cX7_turns 0 = .ok (.aload_n 0, 1) := by decide +kernel
theorem dX7_turns_1 : decode cX7_turns 1 = .ok (.getfield 28, 3) := by decide +kernel
theorem dX7_turns_4 : decode cX7_turns 4 = .ok (.iload_n 1, 1) := by decide +kernel
theorem dX7_turns_5 : decode cX7_turns 5 = .ok (.invokevirtual 70, 3) := by decide +kernel
theorem dX7_turns_8 : decode cX7_turns 8 = .ok (.ifCond .eq 12, 3) := by decide +kernel
theorem dX7_turns_11 : decode cX7_turns 11 = .ok (.iload_n 2, 1) := by decide +kernel
theorem dX7_turns_12 : decode cX7_turns 12 = .ok (.iconst 0, 1) := by decide +kernel
theorem dX7_turns_13 : decode cX7_turns 13 = .ok (.iconst 5, 1) := by decide +kernel
theorem dX7_turns_14 : decode cX7_turns 14 = .ok (.invokestatic 56, 3) := by decide +kernel
theorem dX7_turns_17 : decode cX7_turns 17 = .ok (.ifCond .ne 6, 3) := by decide +kernel
theorem dX7_turns_20 : decode cX7_turns 20 = .ok (.ldc 60, 2) := by decide +kernel
theorem dX7_turns_22 : decode cX7_turns 22 = .ok (.ireturn, 1) := by decide +kernel
theorem dX7_turns_23 : decode cX7_turns 23 = .ok (.aload_n 0, 1) := by decide +kernel
theorem dX7_turns_24 : decode cX7_turns 24 = .ok (.getfield 28, 3) := by decide +kernel
theorem dX7_turns_27 : decode cX7_turns 27 = .ok (.getfield 74, 3) := by decide +kernel
theorem dX7_turns_30 : decode cX7_turns 30 = .ok (.iload_n 1, 1) := by decide +kernel
theorem dX7_turns_31 : decode cX7_turns 31 = .ok (.iload_n 2, 1) := by decide +kernel
theorem dX7_turns_32 : decode cX7_turns 32 = .ok (.invokestatic 120, 3) := by decide +kernel
theorem dX7_turns_35 : decode cX7_turns 35 = .ok (.ireturn, 1) := by decide +kernel
theorem dX7_set_0 : decode cX7_set 0 = .ok (.aload_n 0, 1) := by decide +kernel
theorem dX7_set_1 : decode cX7_set 1 = .ok (.getfield 28, 3) := by decide +kernel
theorem dX7_set_4 : decode cX7_set 4 = .ok (.iload_n 1, 1) := by decide +kernel
theorem dX7_set_5 : decode cX7_set 5 = .ok (.invokevirtual 70, 3) := by decide +kernel
theorem dX7_set_8 : decode cX7_set 8 = .ok (.ifCond .ne 6, 3) := by decide +kernel
theorem dX7_set_11 : decode cX7_set 11 = .ok (.ldc 60, 2) := by decide +kernel
theorem dX7_set_13 : decode cX7_set 13 = .ok (.ireturn, 1) := by decide +kernel
theorem dX7_set_14 : decode cX7_set 14 = .ok (.iload_n 2, 1) := by decide +kernel
theorem dX7_set_15 : decode cX7_set 15 = .ok (.tableswitch 109 1 3 #[25, 52, 81], 25) := by decide +kernel
theorem dX7_set_40 : decode cX7_set 40 = .ok (.iload_n 3, 1) := by decide +kernel
theorem dX7_set_41 : decode cX7_set 41 = .ok (.iconst 0, 1) := by decide +kernel
theorem dX7_set_42 : decode cX7_set 42 = .ok (.iconst 1, 1) := by decide +kernel
theorem dX7_set_43 : decode cX7_set 43 = .ok (.invokestatic 56, 3) := by decide +kernel
theorem dX7_set_46 : decode cX7_set 46 = .ok (.ifCond .eq 18, 3) := by decide +kernel
theorem dX7_set_49 : decode cX7_set 49 = .ok (.aload_n 0, 1) := by decide +kernel
theorem dX7_set_50 : decode cX7_set 50 = .ok (.getfield 28, 3) := by decide +kernel
theorem dX7_set_53 : decode cX7_set 53 = .ok (.getfield 77, 3) := by decide +kernel
theorem dX7_set_56 : decode cX7_set 56 = .ok (.iload_n 1, 1) := by decide +kernel
theorem dX7_set_57 : decode cX7_set 57 = .ok (.iload_n 3, 1) := by decide +kernel
theorem dX7_set_58 : decode cX7_set 58 = .ok (.invokestatic 120, 3) := by decide +kernel
theorem dX7_set_61 : decode cX7_set 61 = .ok (.goto 5, 3) := by decide +kernel
theorem dX7_set_64 : decode cX7_set 64 = .ok (.ldc 60, 2) := by decide +kernel
theorem dX7_set_66 : decode cX7_set 66 = .ok (.ireturn, 1) := by decide +kernel
theorem dX7_set_67 : decode cX7_set 67 = .ok (.iload_n 3, 1) := by decide +kernel
theorem dX7_set_68 : decode cX7_set 68 = .ok (.iconst 0, 1) := by decide +kernel
theorem dX7_set_69 : decode cX7_set 69 = .ok (.sipush 255, 3) := by decide +kernel
theorem dX7_set_72 : decode cX7_set 72 = .ok (.invokestatic 56, 3) := by decide +kernel
theorem dX7_set_75 : decode cX7_set 75 = .ok (.ifCond .eq 18, 3) := by decide +kernel
theorem dX7_set_78 : decode cX7_set 78 = .ok (.aload_n 0, 1) := by decide +kernel
theorem dX7_set_79 : decode cX7_set 79 = .ok (.getfield 28, 3) := by decide +kernel
theorem dX7_set_82 : decode cX7_set 82 = .ok (.getfield 80, 3) := by decide +kernel
theorem dX7_set_85 : decode cX7_set 85 = .ok (.iload_n 1, 1) := by decide +kernel
theorem dX7_set_86 : decode cX7_set 86 = .ok (.iload_n 3, 1) := by decide +kernel
theorem dX7_set_87 : decode cX7_set 87 = .ok (.invokestatic 120, 3) := by decide +kernel
theorem dX7_set_90 : decode cX7_set 90 = .ok (.goto 5, 3) := by decide +kernel
theorem dX7_set_93 : decode cX7_set 93 = .ok (.ldc 60, 2) := by decide +kernel
theorem dX7_set_95 : decode cX7_set 95 = .ok (.ireturn, 1) := by decide +kernel
theorem dX7_set_96 : decode cX7_set 96 = .ok (.iload_n 3, 1) := by decide +kernel
theorem dX7_set_97 : decode cX7_set 97 = .ok (.iconst 0, 1) := by decide +kernel
theorem dX7_set_98 : decode cX7_set 98 = .ok (.bipush 40, 2) := by decide +kernel
theorem dX7_set_100 : decode cX7_set 100 = .ok (.invokestatic 56, 3) := by decide +kernel
theorem dX7_set_103 : decode cX7_set 103 = .ok (.ifCond .eq 18, 3) := by decide +kernel
theorem dX7_set_106 : decode cX7_set 106 = .ok (.aload_n 0, 1) := by decide +kernel
theorem dX7_set_107 : decode cX7_set 107 = .ok (.getfield 28, 3) := by decide +kernel
theorem dX7_set_110 : decode cX7_set 110 = .ok (.getfield 83, 3) := by decide +kernel
theorem dX7_set_113 : decode cX7_set 113 = .ok (.iload_n 1, 1) := by decide +kernel
theorem dX7_set_114 : decode cX7_set 114 = .ok (.iload_n 3, 1) := by decide +kernel
theorem dX7_set_115 : decode cX7_set 115 = .ok (.invokestatic 120, 3) := by decide +kernel
theorem dX7_set_118 : decode cX7_set 118 = .ok (.goto 5, 3) := by decide +kernel
theorem dX7_set_121 : decode cX7_set 121 = .ok (.ldc 60, 2) := by decide +kernel
theorem dX7_set_123 : decode cX7_set 123 = .ok (.ireturn, 1) := by decide +kernel
theorem dX7_set_124 : decode cX7_set 124 = .ok (.ldc 60, 2) := by decide +kernel
theorem dX7_set_126 : decode cX7_set 126 = .ok (.ireturn, 1) := by decide +kernel
theorem dX7_weigh_0 : decode cX7_weigh 0 = .ok (.iload_n 1, 1) := by decide +kernel
theorem dX7_weigh_1 : decode cX7_weigh 1 = .ok (.invokestatic 124, 3) := by decide +kernel
theorem dX7_weigh_4 : decode cX7_weigh 4 = .ok (.ifCond .eq 14, 3) := by decide +kernel
theorem dX7_weigh_7 : decode cX7_weigh 7 = .ok (.iload_n 2, 1) := by decide +kernel
theorem dX7_weigh_8 : decode cX7_weigh 8 = .ok (.bipush (-50), 2) := by decide +kernel
theorem dX7_weigh_10 : decode cX7_weigh 10 = .ok (.bipush 50, 2) := by decide +kernel
theorem dX7_weigh_12 : decode cX7_weigh 12 = .ok (.invokestatic 56, 3) := by decide +kernel
theorem dX7_weigh_15 : decode cX7_weigh 15 = .ok (.ifCond .ne 6, 3) := by decide +kernel
theorem dX7_weigh_18 : decode cX7_weigh 18 = .ok (.ldc 60, 2) := by decide +kernel
theorem dX7_weigh_20 : decode cX7_weigh 20 = .ok (.ireturn, 1) := by decide +kernel
theorem dX7_weigh_21 : decode cX7_weigh 21 = .ok (.aload_n 0, 1) := by decide +kernel
theorem dX7_weigh_22 : decode cX7_weigh 22 = .ok (.getfield 28, 3) := by decide +kernel
theorem dX7_weigh_25 : decode cX7_weigh 25 = .ok (.getfield 127, 3) := by decide +kernel
theorem dX7_weigh_28 : decode cX7_weigh 28 = .ok (.iload_n 1, 1) := by decide +kernel
theorem dX7_weigh_29 : decode cX7_weigh 29 = .ok (.iload_n 2, 1) := by decide +kernel
theorem dX7_weigh_30 : decode cX7_weigh 30 = .ok (.invokestatic 120, 3) := by decide +kernel
theorem dX7_weigh_33 : decode cX7_weigh 33 = .ok (.ireturn, 1) := by decide +kernel
theorem dX7_rule_0 : decode cX7_rule 0 = .ok (.iload_n 1, 1) := by decide +kernel
theorem dX7_rule_1 : decode cX7_rule 1 = .ok (.iconst 0, 1) := by decide +kernel
theorem dX7_rule_2 : decode cX7_rule 2 = .ok (.iconst 2, 1) := by decide +kernel
theorem dX7_rule_3 : decode cX7_rule 3 = .ok (.invokestatic 56, 3) := by decide +kernel
theorem dX7_rule_6 : decode cX7_rule 6 = .ok (.ifCond .eq 23, 3) := by decide +kernel
theorem dX7_rule_9 : decode cX7_rule 9 = .ok (.iload_n 2, 1) := by decide +kernel
theorem dX7_rule_10 : decode cX7_rule 10 = .ok (.iconst 0, 1) := by decide +kernel
theorem dX7_rule_11 : decode cX7_rule 11 = .ok (.iload_n 1, 1) := by decide +kernel
theorem dX7_rule_12 : decode cX7_rule 12 = .ok (.iconst 2, 1) := by decide +kernel
theorem dX7_rule_13 : decode cX7_rule 13 = .ok (.if_icmp .ne 8, 3) := by decide +kernel
theorem dX7_rule_16 : decode cX7_rule 16 = .ok (.bipush 9, 2) := by decide +kernel
theorem dX7_rule_18 : decode cX7_rule 18 = .ok (.goto 5, 3) := by decide +kernel
theorem dX7_rule_21 : decode cX7_rule 21 = .ok (.bipush 100, 2) := by decide +kernel
theorem dX7_rule_23 : decode cX7_rule 23 = .ok (.invokestatic 56, 3) := by decide +kernel
theorem dX7_rule_26 : decode cX7_rule 26 = .ok (.ifCond .ne 6, 3) := by decide +kernel
theorem dX7_rule_29 : decode cX7_rule 29 = .ok (.ldc 60, 2) := by decide +kernel
theorem dX7_rule_31 : decode cX7_rule 31 = .ok (.ireturn, 1) := by decide +kernel
theorem dX7_rule_32 : decode cX7_rule 32 = .ok (.iload_n 1, 1) := by decide +kernel
theorem dX7_rule_33 : decode cX7_rule 33 = .ok (.ifCond .ne 22, 3) := by decide +kernel
theorem dX7_rule_36 : decode cX7_rule 36 = .ok (.aload_n 0, 1) := by decide +kernel
theorem dX7_rule_37 : decode cX7_rule 37 = .ok (.getfield 28, 3) := by decide +kernel
theorem dX7_rule_40 : decode cX7_rule 40 = .ok (.getfield 130, 3) := by decide +kernel
theorem dX7_rule_43 : decode cX7_rule 43 = .ok (.istore_n 3, 1) := by decide +kernel
theorem dX7_rule_44 : decode cX7_rule 44 = .ok (.aload_n 0, 1) := by decide +kernel
theorem dX7_rule_45 : decode cX7_rule 45 = .ok (.getfield 28, 3) := by decide +kernel
theorem dX7_rule_48 : decode cX7_rule 48 = .ok (.iload_n 2, 1) := by decide +kernel
theorem dX7_rule_49 : decode cX7_rule 49 = .ok (.putfield 130, 3) := by decide +kernel
theorem dX7_rule_52 : decode cX7_rule 52 = .ok (.goto 43, 3) := by decide +kernel
theorem dX7_rule_55 : decode cX7_rule 55 = .ok (.iload_n 1, 1) := by decide +kernel
theorem dX7_rule_56 : decode cX7_rule 56 = .ok (.iconst 1, 1) := by decide +kernel
theorem dX7_rule_57 : decode cX7_rule 57 = .ok (.if_icmp .ne 22, 3) := by decide +kernel
theorem dX7_rule_60 : decode cX7_rule 60 = .ok (.aload_n 0, 1) := by decide +kernel
theorem dX7_rule_61 : decode cX7_rule 61 = .ok (.getfield 28, 3) := by decide +kernel
theorem dX7_rule_64 : decode cX7_rule 64 = .ok (.getfield 133, 3) := by decide +kernel
theorem dX7_rule_67 : decode cX7_rule 67 = .ok (.istore_n 3, 1) := by decide +kernel
theorem dX7_rule_68 : decode cX7_rule 68 = .ok (.aload_n 0, 1) := by decide +kernel
theorem dX7_rule_69 : decode cX7_rule 69 = .ok (.getfield 28, 3) := by decide +kernel
theorem dX7_rule_72 : decode cX7_rule 72 = .ok (.iload_n 2, 1) := by decide +kernel
theorem dX7_rule_73 : decode cX7_rule 73 = .ok (.putfield 133, 3) := by decide +kernel
theorem dX7_rule_76 : decode cX7_rule 76 = .ok (.goto 19, 3) := by decide +kernel
theorem dX7_rule_79 : decode cX7_rule 79 = .ok (.aload_n 0, 1) := by decide +kernel
theorem dX7_rule_80 : decode cX7_rule 80 = .ok (.getfield 28, 3) := by decide +kernel
theorem dX7_rule_83 : decode cX7_rule 83 = .ok (.getfield 136, 3) := by decide +kernel
theorem dX7_rule_86 : decode cX7_rule 86 = .ok (.istore_n 3, 1) := by decide +kernel
theorem dX7_rule_87 : decode cX7_rule 87 = .ok (.aload_n 0, 1) := by decide +kernel
theorem dX7_rule_88 : decode cX7_rule 88 = .ok (.getfield 28, 3) := by decide +kernel
theorem dX7_rule_91 : decode cX7_rule 91 = .ok (.iload_n 2, 1) := by decide +kernel
theorem dX7_rule_92 : decode cX7_rule 92 = .ok (.putfield 136, 3) := by decide +kernel
theorem dX7_rule_95 : decode cX7_rule 95 = .ok (.iload_n 3, 1) := by decide +kernel
theorem dX7_rule_96 : decode cX7_rule 96 = .ok (.ireturn, 1) := by decide +kernel
theorem dX7_deal_0 : decode cX7_deal 0 = .ok (.iload_n 1, 1) := by decide +kernel
theorem dX7_deal_1 : decode cX7_deal 1 = .ok (.iconst 1, 1) := by decide +kernel
theorem dX7_deal_2 : decode cX7_deal 2 = .ok (.bipush 10, 2) := by decide +kernel
theorem dX7_deal_4 : decode cX7_deal 4 = .ok (.invokestatic 56, 3) := by decide +kernel
theorem dX7_deal_7 : decode cX7_deal 7 = .ok (.ifCond .ne 6, 3) := by decide +kernel
theorem dX7_deal_10 : decode cX7_deal 10 = .ok (.ldc 60, 2) := by decide +kernel
theorem dX7_deal_12 : decode cX7_deal 12 = .ok (.ireturn, 1) := by decide +kernel
theorem dX7_deal_13 : decode cX7_deal 13 = .ok (.iload_n 1, 1) := by decide +kernel
theorem dX7_deal_14 : decode cX7_deal 14 = .ok (.bipush 10, 2) := by decide +kernel
theorem dX7_deal_16 : decode cX7_deal 16 = .ok (.aload_n 0, 1) := by decide +kernel
theorem dX7_deal_17 : decode cX7_deal 17 = .ok (.getfield 28, 3) := by decide +kernel
theorem dX7_deal_20 : decode cX7_deal 20 = .ok (.getfield 61, 3) := by decide +kernel
theorem dX7_deal_23 : decode cX7_deal 23 = .ok (.isub, 1) := by decide +kernel
theorem dX7_deal_24 : decode cX7_deal 24 = .ok (.invokestatic 139, 3) := by decide +kernel
theorem dX7_deal_27 : decode cX7_deal 27 = .ok (.istore_n 2, 1) := by decide +kernel
theorem dX7_deal_28 : decode cX7_deal 28 = .ok (.iconst 0, 1) := by decide +kernel
theorem dX7_deal_29 : decode cX7_deal 29 = .ok (.istore_n 3, 1) := by decide +kernel
theorem dX7_deal_30 : decode cX7_deal 30 = .ok (.iload_n 3, 1) := by decide +kernel
theorem dX7_deal_31 : decode cX7_deal 31 = .ok (.iload_n 2, 1) := by decide +kernel
theorem dX7_deal_32 : decode cX7_deal 32 = .ok (.if_icmp .ge 16, 3) := by decide +kernel
theorem dX7_deal_35 : decode cX7_deal 35 = .ok (.aload_n 0, 1) := by decide +kernel
theorem dX7_deal_36 : decode cX7_deal 36 = .ok (.getfield 28, 3) := by decide +kernel
theorem dX7_deal_39 : decode cX7_deal 39 = .ok (.invokevirtual 144, 3) := by decide +kernel
theorem dX7_deal_42 : decode cX7_deal 42 = .ok (.iinc 3 1, 3) := by decide +kernel
theorem dX7_deal_45 : decode cX7_deal 45 = .ok (.goto (-15), 3) := by decide +kernel
theorem dX7_deal_48 : decode cX7_deal 48 = .ok (.iload_n 2, 1) := by decide +kernel
theorem dX7_deal_49 : decode cX7_deal 49 = .ok (.ireturn, 1) := by decide +kernel
theorem dX7_seed_0 : decode cX7_seed 0 = .ok (.aload_n 0, 1) := by decide +kernel
theorem dX7_seed_1 : decode cX7_seed 1 = .ok (.getfield 28, 3) := by decide +kernel
theorem dX7_seed_4 : decode cX7_seed 4 = .ok (.getfield 147, 3) := by decide +kernel
theorem dX7_seed_7 : decode cX7_seed 7 = .ok (.istore_n 2, 1) := by decide +kernel
theorem dX7_seed_8 : decode cX7_seed 8 = .ok (.aload_n 0, 1) := by decide +kernel
theorem dX7_seed_9 : decode cX7_seed 9 = .ok (.getfield 28, 3) := by decide +kernel
theorem dX7_seed_12 : decode cX7_seed 12 = .ok (.iload_n 1, 1) := by decide +kernel
theorem dX7_seed_13 : decode cX7_seed 13 = .ok (.putfield 147, 3) := by decide +kernel
theorem dX7_seed_16 : decode cX7_seed 16 = .ok (.iload_n 2, 1) := by decide +kernel
theorem dX7_seed_17 : decode cX7_seed 17 = .ok (.ireturn, 1) := by decide +kernel
theorem dX7_out_0 : decode cX7_out 0 = .ok (.iload_n 1, 1) := by decide +kernel
theorem dX7_out_1 : decode cX7_out 1 = .ok (.invokestatic 124, 3) := by decide +kernel
theorem dX7_out_4 : decode cX7_out 4 = .ok (.ifCond .eq 12, 3) := by decide +kernel
theorem dX7_out_7 : decode cX7_out 7 = .ok (.iload_n 2, 1) := by decide +kernel
theorem dX7_out_8 : decode cX7_out 8 = .ok (.iconst 0, 1) := by decide +kernel
theorem dX7_out_9 : decode cX7_out 9 = .ok (.iconst 1, 1) := by decide +kernel
theorem dX7_out_10 : decode cX7_out 10 = .ok (.invokestatic 56, 3) := by decide +kernel
theorem dX7_out_13 : decode cX7_out 13 = .ok (.ifCond .ne 6, 3) := by decide +kernel
theorem dX7_out_16 : decode cX7_out 16 = .ok (.ldc 60, 2) := by decide +kernel
theorem dX7_out_18 : decode cX7_out 18 = .ok (.ireturn, 1) := by decide +kernel
theorem dX7_out_19 : decode cX7_out 19 = .ok (.aload_n 0, 1) := by decide +kernel
theorem dX7_out_20 : decode cX7_out 20 = .ok (.getfield 28, 3) := by decide +kernel
theorem dX7_out_23 : decode cX7_out 23 = .ok (.iload_n 1, 1) := by decide +kernel
theorem dX7_out_24 : decode cX7_out 24 = .ok (.iload_n 2, 1) := by decide +kernel
theorem dX7_out_25 : decode cX7_out 25 = .ok (.invokevirtual 150, 3) := by decide +kernel
theorem dX7_out_28 : decode cX7_out 28 = .ok (.ireturn, 1) := by decide +kernel
theorem dX7_hours_0 : decode cX7_hours 0 = .ok (.iload_n 1, 1) := by decide +kernel
theorem dX7_hours_1 : decode cX7_hours 1 = .ok (.iconst 1, 1) := by decide +kernel
theorem dX7_hours_2 : decode cX7_hours 2 = .ok (.bipush 100, 2) := by decide +kernel
theorem dX7_hours_4 : decode cX7_hours 4 = .ok (.invokestatic 56, 3) := by decide +kernel
theorem dX7_hours_7 : decode cX7_hours 7 = .ok (.ifCond .ne 6, 3) := by decide +kernel
theorem dX7_hours_10 : decode cX7_hours 10 = .ok (.ldc 60, 2) := by decide +kernel
theorem dX7_hours_12 : decode cX7_hours 12 = .ok (.ireturn, 1) := by decide +kernel
theorem dX7_hours_13 : decode cX7_hours 13 = .ok (.aload_n 0, 1) := by decide +kernel
theorem dX7_hours_14 : decode cX7_hours 14 = .ok (.getfield 28, 3) := by decide +kernel
theorem dX7_hours_17 : decode cX7_hours 17 = .ok (.iload_n 1, 1) := by decide +kernel
theorem dX7_hours_18 : decode cX7_hours 18 = .ok (.sipush 9999, 3) := by decide +kernel
theorem dX7_hours_21 : decode cX7_hours 21 = .ok (.aload_n 0, 1) := by decide +kernel
theorem dX7_hours_22 : decode cX7_hours 22 = .ok (.getfield 28, 3) := by decide +kernel
theorem dX7_hours_25 : decode cX7_hours 25 = .ok (.getfield 153, 3) := by decide +kernel
theorem dX7_hours_28 : decode cX7_hours 28 = .ok (.isub, 1) := by decide +kernel
theorem dX7_hours_29 : decode cX7_hours 29 = .ok (.invokestatic 139, 3) := by decide +kernel
theorem dX7_hours_32 : decode cX7_hours 32 = .ok (.iconst (-1), 1) := by decide +kernel
theorem dX7_hours_33 : decode cX7_hours 33 = .ok (.invokevirtual 156, 3) := by decide +kernel
theorem dX7_hours_36 : decode cX7_hours 36 = .ok (.ireturn, 1) := by decide +kernel
theorem dX7_jury_0 : decode cX7_jury 0 = .ok (.iload_n 1, 1) := by decide +kernel
theorem dX7_jury_1 : decode cX7_jury 1 = .ok (.tableswitch 75 0 4 #[35, 43, 51, 59, 67], 35) := by decide +kernel
theorem dX7_jury_36 : decode cX7_jury 36 = .ok (.aload_n 0, 1) := by decide +kernel
theorem dX7_jury_37 : decode cX7_jury 37 = .ok (.getfield 28, 3) := by decide +kernel
theorem dX7_jury_40 : decode cX7_jury 40 = .ok (.invokevirtual 159, 3) := by decide +kernel
theorem dX7_jury_43 : decode cX7_jury 43 = .ok (.ireturn, 1) := by decide +kernel
theorem dX7_jury_44 : decode cX7_jury 44 = .ok (.aload_n 0, 1) := by decide +kernel
theorem dX7_jury_45 : decode cX7_jury 45 = .ok (.getfield 28, 3) := by decide +kernel
theorem dX7_jury_48 : decode cX7_jury 48 = .ok (.invokevirtual 163, 3) := by decide +kernel
theorem dX7_jury_51 : decode cX7_jury 51 = .ok (.ireturn, 1) := by decide +kernel
theorem dX7_jury_52 : decode cX7_jury 52 = .ok (.aload_n 0, 1) := by decide +kernel
theorem dX7_jury_53 : decode cX7_jury 53 = .ok (.getfield 28, 3) := by decide +kernel
theorem dX7_jury_56 : decode cX7_jury 56 = .ok (.getfield 166, 3) := by decide +kernel
theorem dX7_jury_59 : decode cX7_jury 59 = .ok (.ireturn, 1) := by decide +kernel
theorem dX7_jury_60 : decode cX7_jury 60 = .ok (.aload_n 0, 1) := by decide +kernel
theorem dX7_jury_61 : decode cX7_jury 61 = .ok (.getfield 28, 3) := by decide +kernel
theorem dX7_jury_64 : decode cX7_jury 64 = .ok (.invokevirtual 169, 3) := by decide +kernel
theorem dX7_jury_67 : decode cX7_jury 67 = .ok (.ireturn, 1) := by decide +kernel
theorem dX7_jury_68 : decode cX7_jury 68 = .ok (.aload_n 0, 1) := by decide +kernel
theorem dX7_jury_69 : decode cX7_jury 69 = .ok (.getfield 28, 3) := by decide +kernel
theorem dX7_jury_72 : decode cX7_jury 72 = .ok (.invokevirtual 172, 3) := by decide +kernel
theorem dX7_jury_75 : decode cX7_jury 75 = .ok (.ireturn, 1) := by decide +kernel
theorem dX7_jury_76 : decode cX7_jury 76 = .ok (.ldc 60, 2) := by decide +kernel
theorem dX7_jury_78 : decode cX7_jury 78 = .ok (.ireturn, 1) := by decide +kernel
theorem dX7_behind_0 : decode cX7_behind 0 = .ok (.iload_n 1, 1) := by decide +kernel
theorem dX7_behind_1 : decode cX7_behind 1 = .ok (.iconst 0, 1) := by decide +kernel
theorem dX7_behind_2 : decode cX7_behind 2 = .ok (.bipush 100, 2) := by decide +kernel
theorem dX7_behind_4 : decode cX7_behind 4 = .ok (.invokestatic 56, 3) := by decide +kernel
theorem dX7_behind_7 : decode cX7_behind 7 = .ok (.ifCond .eq 25, 3) := by decide +kernel
theorem dX7_behind_10 : decode cX7_behind 10 = .ok (.iload_n 2, 1) := by decide +kernel
theorem dX7_behind_11 : decode cX7_behind 11 = .ok (.ifCond .lt 21, 3) := by decide +kernel
theorem dX7_behind_14 : decode cX7_behind 14 = .ok (.iload_n 2, 1) := by decide +kernel
theorem dX7_behind_15 : decode cX7_behind 15 = .ok (.iconst 3, 1) := by decide +kernel
theorem dX7_behind_16 : decode cX7_behind 16 = .ok (.if_icmp .lt 19, 3) := by decide +kernel
theorem dX7_behind_19 : decode cX7_behind 19 = .ok (.aload_n 0, 1) := by decide +kernel
theorem dX7_behind_20 : decode cX7_behind 20 = .ok (.getfield 28, 3) := by decide +kernel
theorem dX7_behind_23 : decode cX7_behind 23 = .ok (.iload_n 2, 1) := by decide +kernel
theorem dX7_behind_24 : decode cX7_behind 24 = .ok (.iconst 3, 1) := by decide +kernel
theorem dX7_behind_25 : decode cX7_behind 25 = .ok (.isub, 1) := by decide +kernel
theorem dX7_behind_26 : decode cX7_behind 26 = .ok (.invokevirtual 70, 3) := by decide +kernel
theorem dX7_behind_29 : decode cX7_behind 29 = .ok (.ifCond .ne 6, 3) := by decide +kernel
theorem dX7_behind_32 : decode cX7_behind 32 = .ok (.ldc 60, 2) := by decide +kernel
theorem dX7_behind_34 : decode cX7_behind 34 = .ok (.ireturn, 1) := by decide +kernel
theorem dX7_behind_35 : decode cX7_behind 35 = .ok (.aload_n 0, 1) := by decide +kernel
theorem dX7_behind_36 : decode cX7_behind 36 = .ok (.iload_n 1, 1) := by decide +kernel
theorem dX7_behind_37 : decode cX7_behind 37 = .ok (.iconst (-1), 1) := by decide +kernel
theorem dX7_behind_38 : decode cX7_behind 38 = .ok (.invokevirtual 175, 3) := by decide +kernel
theorem dX7_behind_41 : decode cX7_behind 41 = .ok (.iload_n 2, 1) := by decide +kernel
theorem dX7_behind_42 : decode cX7_behind 42 = .ok (.tableswitch 50 0 2 #[26, 34, 42], 26) := by decide +kernel
theorem dX7_behind_68 : decode cX7_behind 68 = .ok (.aload_n 0, 1) := by decide +kernel
theorem dX7_behind_69 : decode cX7_behind 69 = .ok (.getfield 35, 3) := by decide +kernel
theorem dX7_behind_72 : decode cX7_behind 72 = .ok (.invokevirtual 159, 3) := by decide +kernel
theorem dX7_behind_75 : decode cX7_behind 75 = .ok (.ireturn, 1) := by decide +kernel
theorem dX7_behind_76 : decode cX7_behind 76 = .ok (.aload_n 0, 1) := by decide +kernel
theorem dX7_behind_77 : decode cX7_behind 77 = .ok (.getfield 35, 3) := by decide +kernel
theorem dX7_behind_80 : decode cX7_behind 80 = .ok (.invokevirtual 163, 3) := by decide +kernel
theorem dX7_behind_83 : decode cX7_behind 83 = .ok (.ireturn, 1) := by decide +kernel
theorem dX7_behind_84 : decode cX7_behind 84 = .ok (.aload_n 0, 1) := by decide +kernel
theorem dX7_behind_85 : decode cX7_behind 85 = .ok (.getfield 35, 3) := by decide +kernel
theorem dX7_behind_88 : decode cX7_behind 88 = .ok (.getfield 166, 3) := by decide +kernel
theorem dX7_behind_91 : decode cX7_behind 91 = .ok (.ireturn, 1) := by decide +kernel
theorem dX7_behind_92 : decode cX7_behind 92 = .ok (.aload_n 0, 1) := by decide +kernel
theorem dX7_behind_93 : decode cX7_behind 93 = .ok (.getfield 35, 3) := by decide +kernel
theorem dX7_behind_96 : decode cX7_behind 96 = .ok (.getfield 80, 3) := by decide +kernel
theorem dX7_behind_99 : decode cX7_behind 99 = .ok (.iload_n 2, 1) := by decide +kernel
theorem dX7_behind_100 : decode cX7_behind 100 = .ok (.iconst 3, 1) := by decide +kernel
theorem dX7_behind_101 : decode cX7_behind 101 = .ok (.isub, 1) := by decide +kernel
theorem dX7_behind_102 : decode cX7_behind 102 = .ok (.iaload, 1) := by decide +kernel
theorem dX7_behind_103 : decode cX7_behind 103 = .ok (.ireturn, 1) := by decide +kernel
theorem dX7_allKnow_0 : decode cX7_allKnow 0 = .ok (.aload_n 0, 1) := by decide +kernel
theorem dX7_allKnow_1 : decode cX7_allKnow 1 = .ok (.getfield 35, 3) := by decide +kernel
theorem dX7_allKnow_4 : decode cX7_allKnow 4 = .ok (.aload_n 0, 1) := by decide +kernel
theorem dX7_allKnow_5 : decode cX7_allKnow 5 = .ok (.getfield 28, 3) := by decide +kernel
theorem dX7_allKnow_8 : decode cX7_allKnow 8 = .ok (.invokevirtual 179, 3) := by decide +kernel
theorem dX7_allKnow_11 : decode cX7_allKnow 11 = .ok (.aload_n 0, 1) := by decide +kernel
theorem dX7_allKnow_12 : decode cX7_allKnow 12 = .ok (.getfield 28, 3) := by decide +kernel
theorem dX7_allKnow_15 : decode cX7_allKnow 15 = .ok (.invokevirtual 172, 3) := by decide +kernel
theorem dX7_allKnow_18 : decode cX7_allKnow 18 = .ok (.istore_n 1, 1) := by decide +kernel
theorem dX7_allKnow_19 : decode cX7_allKnow 19 = .ok (.iconst 0, 1) := by decide +kernel
theorem dX7_allKnow_20 : decode cX7_allKnow 20 = .ok (.istore_n 2, 1) := by decide +kernel
theorem dX7_allKnow_21 : decode cX7_allKnow 21 = .ok (.iload_n 2, 1) := by decide +kernel
theorem dX7_allKnow_22 : decode cX7_allKnow 22 = .ok (.sipush 200, 3) := by decide +kernel
theorem dX7_allKnow_25 : decode cX7_allKnow 25 = .ok (.if_icmp .gt 34, 3) := by decide +kernel
theorem dX7_allKnow_28 : decode cX7_allKnow 28 = .ok (.iload_n 1, 1) := by decide +kernel
theorem dX7_allKnow_29 : decode cX7_allKnow 29 = .ok (.aload_n 0, 1) := by decide +kernel
theorem dX7_allKnow_30 : decode cX7_allKnow 30 = .ok (.getfield 35, 3) := by decide +kernel
theorem dX7_allKnow_33 : decode cX7_allKnow 33 = .ok (.invokevirtual 159, 3) := by decide +kernel
theorem dX7_allKnow_36 : decode cX7_allKnow 36 = .ok (.iconst (-1), 1) := by decide +kernel
theorem dX7_allKnow_37 : decode cX7_allKnow 37 = .ok (.ixor, 1) := by decide +kernel
theorem dX7_allKnow_38 : decode cX7_allKnow 38 = .ok (.iand, 1) := by decide +kernel
theorem dX7_allKnow_39 : decode cX7_allKnow 39 = .ok (.ifCond .ne 5, 3) := by decide +kernel
theorem dX7_allKnow_42 : decode cX7_allKnow 42 = .ok (.iload_n 2, 1) := by decide +kernel
theorem dX7_allKnow_43 : decode cX7_allKnow 43 = .ok (.ireturn, 1) := by decide +kernel
theorem dX7_allKnow_44 : decode cX7_allKnow 44 = .ok (.aload_n 0, 1) := by decide +kernel
theorem dX7_allKnow_45 : decode cX7_allKnow 45 = .ok (.getfield 35, 3) := by decide +kernel
theorem dX7_allKnow_48 : decode cX7_allKnow 48 = .ok (.iconst (-1), 1) := by decide +kernel
theorem dX7_allKnow_49 : decode cX7_allKnow 49 = .ok (.invokevirtual 183, 3) := by decide +kernel
theorem dX7_allKnow_52 : decode cX7_allKnow 52 = .ok (.pop, 1) := by decide +kernel
theorem dX7_allKnow_53 : decode cX7_allKnow 53 = .ok (.iinc 2 1, 3) := by decide +kernel
theorem dX7_allKnow_56 : decode cX7_allKnow 56 = .ok (.goto (-35), 3) := by decide +kernel
theorem dX7_allKnow_59 : decode cX7_allKnow 59 = .ok (.ldc 109, 2) := by decide +kernel
theorem dX7_allKnow_61 : decode cX7_allKnow 61 = .ok (.ireturn, 1) := by decide +kernel
theorem dX7_bestTurn_0 : decode cX7_bestTurn 0 = .ok (.iload_n 1, 1) := by decide +kernel
theorem dX7_bestTurn_1 : decode cX7_bestTurn 1 = .ok (.iconst 1, 1) := by decide +kernel
theorem dX7_bestTurn_2 : decode cX7_bestTurn 2 = .ok (.bipush 60, 2) := by decide +kernel
theorem dX7_bestTurn_4 : decode cX7_bestTurn 4 = .ok (.invokestatic 56, 3) := by decide +kernel
theorem dX7_bestTurn_7 : decode cX7_bestTurn 7 = .ok (.ifCond .eq 12, 3) := by decide +kernel
theorem dX7_bestTurn_10 : decode cX7_bestTurn 10 = .ok (.iload_n 2, 1) := by decide +kernel
theorem dX7_bestTurn_11 : decode cX7_bestTurn 11 = .ok (.iconst 0, 1) := by decide +kernel
theorem dX7_bestTurn_12 : decode cX7_bestTurn 12 = .ok (.iconst 1, 1) := by decide +kernel
theorem dX7_bestTurn_13 : decode cX7_bestTurn 13 = .ok (.invokestatic 56, 3) := by decide +kernel
theorem dX7_bestTurn_16 : decode cX7_bestTurn 16 = .ok (.ifCond .ne 6, 3) := by decide +kernel
theorem dX7_bestTurn_19 : decode cX7_bestTurn 19 = .ok (.ldc 60, 2) := by decide +kernel
theorem dX7_bestTurn_21 : decode cX7_bestTurn 21 = .ok (.ireturn, 1) := by decide +kernel
theorem dX7_bestTurn_22 : decode cX7_bestTurn 22 = .ok (.iconst 0, 1) := by decide +kernel
theorem dX7_bestTurn_23 : decode cX7_bestTurn 23 = .ok (.istore_n 3, 1) := by decide +kernel
theorem dX7_bestTurn_24 : decode cX7_bestTurn 24 = .ok (.iconst (-1), 1) := by decide +kernel
theorem dX7_bestTurn_25 : decode cX7_bestTurn 25 = .ok (.istore 4, 2) := by decide +kernel
theorem dX7_bestTurn_27 : decode cX7_bestTurn 27 = .ok (.iconst 0, 1) := by decide +kernel
theorem dX7_bestTurn_28 : decode cX7_bestTurn 28 = .ok (.istore 5, 2) := by decide +kernel
theorem dX7_bestTurn_30 : decode cX7_bestTurn 30 = .ok (.iload 5, 2) := by decide +kernel
theorem dX7_bestTurn_32 : decode cX7_bestTurn 32 = .ok (.bipush 9, 2) := by decide +kernel
theorem dX7_bestTurn_34 : decode cX7_bestTurn 34 = .ok (.if_icmp .gt 62, 3) := by decide +kernel
theorem dX7_bestTurn_37 : decode cX7_bestTurn 37 = .ok (.aload_n 0, 1) := by decide +kernel
theorem dX7_bestTurn_38 : decode cX7_bestTurn 38 = .ok (.getfield 35, 3) := by decide +kernel
theorem dX7_bestTurn_41 : decode cX7_bestTurn 41 = .ok (.aload_n 0, 1) := by decide +kernel
theorem dX7_bestTurn_42 : decode cX7_bestTurn 42 = .ok (.getfield 28, 3) := by decide +kernel
theorem dX7_bestTurn_45 : decode cX7_bestTurn 45 = .ok (.invokevirtual 179, 3) := by decide +kernel
theorem dX7_bestTurn_48 : decode cX7_bestTurn 48 = .ok (.aload_n 0, 1) := by decide +kernel
theorem dX7_bestTurn_49 : decode cX7_bestTurn 49 = .ok (.getfield 35, 3) := by decide +kernel
theorem dX7_bestTurn_52 : decode cX7_bestTurn 52 = .ok (.iload 5, 2) := by decide +kernel
theorem dX7_bestTurn_54 : decode cX7_bestTurn 54 = .ok (.putfield 136, 3) := by decide +kernel
theorem dX7_bestTurn_57 : decode cX7_bestTurn 57 = .ok (.aload_n 0, 1) := by decide +kernel
theorem dX7_bestTurn_58 : decode cX7_bestTurn 58 = .ok (.getfield 35, 3) := by decide +kernel
theorem dX7_bestTurn_61 : decode cX7_bestTurn 61 = .ok (.iload_n 1, 1) := by decide +kernel
theorem dX7_bestTurn_62 : decode cX7_bestTurn 62 = .ok (.iconst (-1), 1) := by decide +kernel
theorem dX7_bestTurn_63 : decode cX7_bestTurn 63 = .ok (.invokevirtual 156, 3) := by decide +kernel
theorem dX7_bestTurn_66 : decode cX7_bestTurn 66 = .ok (.pop, 1) := by decide +kernel
theorem dX7_bestTurn_67 : decode cX7_bestTurn 67 = .ok (.aload_n 0, 1) := by decide +kernel
theorem dX7_bestTurn_68 : decode cX7_bestTurn 68 = .ok (.getfield 35, 3) := by decide +kernel
theorem dX7_bestTurn_71 : decode cX7_bestTurn 71 = .ok (.invokevirtual 169, 3) := by decide +kernel
theorem dX7_bestTurn_74 : decode cX7_bestTurn 74 = .ok (.istore 6, 2) := by decide +kernel
theorem dX7_bestTurn_76 : decode cX7_bestTurn 76 = .ok (.iload 6, 2) := by decide +kernel
theorem dX7_bestTurn_78 : decode cX7_bestTurn 78 = .ok (.iload 4, 2) := by decide +kernel
theorem dX7_bestTurn_80 : decode cX7_bestTurn 80 = .ok (.if_icmp .le 10, 3) := by decide +kernel
theorem dX7_bestTurn_83 : decode cX7_bestTurn 83 = .ok (.iload 6, 2) := by decide +kernel
theorem dX7_bestTurn_85 : decode cX7_bestTurn 85 = .ok (.istore 4, 2) := by decide +kernel
theorem dX7_bestTurn_87 : decode cX7_bestTurn 87 = .ok (.iload 5, 2) := by decide +kernel
theorem dX7_bestTurn_89 : decode cX7_bestTurn 89 = .ok (.istore_n 3, 1) := by decide +kernel
theorem dX7_bestTurn_90 : decode cX7_bestTurn 90 = .ok (.iinc 5 1, 3) := by decide +kernel
theorem dX7_bestTurn_93 : decode cX7_bestTurn 93 = .ok (.goto (-63), 3) := by decide +kernel
theorem dX7_bestTurn_96 : decode cX7_bestTurn 96 = .ok (.iload_n 2, 1) := by decide +kernel
theorem dX7_bestTurn_97 : decode cX7_bestTurn 97 = .ok (.ifCond .ne 7, 3) := by decide +kernel
theorem dX7_bestTurn_100 : decode cX7_bestTurn 100 = .ok (.iload_n 3, 1) := by decide +kernel
theorem dX7_bestTurn_101 : decode cX7_bestTurn 101 = .ok (.goto 5, 3) := by decide +kernel
theorem dX7_bestTurn_104 : decode cX7_bestTurn 104 = .ok (.iload 4, 2) := by decide +kernel
theorem dX7_bestTurn_106 : decode cX7_bestTurn 106 = .ok (.ireturn, 1) := by decide +kernel
theorem dX7_sure_0 : decode cX7_sure 0 = .ok (.iload_n 1, 1) := by decide +kernel
theorem dX7_sure_1 : decode cX7_sure 1 = .ok (.iconst 1, 1) := by decide +kernel
theorem dX7_sure_2 : decode cX7_sure 2 = .ok (.bipush 60, 2) := by decide +kernel
theorem dX7_sure_4 : decode cX7_sure 4 = .ok (.invokestatic 56, 3) := by decide +kernel
theorem dX7_sure_7 : decode cX7_sure 7 = .ok (.ifCond .ne 6, 3) := by decide +kernel
theorem dX7_sure_10 : decode cX7_sure 10 = .ok (.ldc 60, 2) := by decide +kernel
theorem dX7_sure_12 : decode cX7_sure 12 = .ok (.ireturn, 1) := by decide +kernel
theorem dX7_sure_13 : decode cX7_sure 13 = .ok (.sipush 255, 3) := by decide +kernel
theorem dX7_sure_16 : decode cX7_sure 16 = .ok (.istore_n 2, 1) := by decide +kernel
theorem dX7_sure_17 : decode cX7_sure 17 = .ok (.iconst (-1), 1) := by decide +kernel
theorem dX7_sure_18 : decode cX7_sure 18 = .ok (.istore_n 3, 1) := by decide +kernel
theorem dX7_sure_19 : decode cX7_sure 19 = .ok (.iload_n 3, 1) := by decide +kernel
theorem dX7_sure_20 : decode cX7_sure 20 = .ok (.aload_n 0, 1) := by decide +kernel
theorem dX7_sure_21 : decode cX7_sure 21 = .ok (.getfield 28, 3) := by decide +kernel
theorem dX7_sure_24 : decode cX7_sure 24 = .ok (.getfield 61, 3) := by decide +kernel
theorem dX7_sure_27 : decode cX7_sure 27 = .ok (.if_icmp .ge 25, 3) := by decide +kernel
theorem dX7_sure_30 : decode cX7_sure 30 = .ok (.aload_n 0, 1) := by decide +kernel
theorem dX7_sure_31 : decode cX7_sure 31 = .ok (.iload_n 1, 1) := by decide +kernel
theorem dX7_sure_32 : decode cX7_sure 32 = .ok (.iload_n 3, 1) := by decide +kernel
theorem dX7_sure_33 : decode cX7_sure 33 = .ok (.invokevirtual 175, 3) := by decide +kernel
theorem dX7_sure_36 : decode cX7_sure 36 = .ok (.iload_n 2, 1) := by decide +kernel
theorem dX7_sure_37 : decode cX7_sure 37 = .ok (.aload_n 0, 1) := by decide +kernel
theorem dX7_sure_38 : decode cX7_sure 38 = .ok (.getfield 35, 3) := by decide +kernel
theorem dX7_sure_41 : decode cX7_sure 41 = .ok (.invokevirtual 159, 3) := by decide +kernel
theorem dX7_sure_44 : decode cX7_sure 44 = .ok (.iand, 1) := by decide +kernel
theorem dX7_sure_45 : decode cX7_sure 45 = .ok (.istore_n 2, 1) := by decide +kernel
theorem dX7_sure_46 : decode cX7_sure 46 = .ok (.iinc 3 1, 3) := by decide +kernel
theorem dX7_sure_49 : decode cX7_sure 49 = .ok (.goto (-30), 3) := by decide +kernel
theorem dX7_sure_52 : decode cX7_sure 52 = .ok (.iload_n 2, 1) := by decide +kernel
theorem dX7_sure_53 : decode cX7_sure 53 = .ok (.ireturn, 1) := by decide +kernel
theorem dX7_advocate_0 : decode cX7_advocate 0 = .ok (.iload_n 1, 1) := by decide +kernel
theorem dX7_advocate_1 : decode cX7_advocate 1 = .ok (.iconst 0, 1) := by decide +kernel
theorem dX7_advocate_2 : decode cX7_advocate 2 = .ok (.bipush 60, 2) := by decide +kernel
theorem dX7_advocate_4 : decode cX7_advocate 4 = .ok (.invokestatic 56, 3) := by decide +kernel
theorem dX7_advocate_7 : decode cX7_advocate 7 = .ok (.ifCond .eq 12, 3) := by decide +kernel
theorem dX7_advocate_10 : decode cX7_advocate 10 = .ok (.iload_n 2, 1) := by decide +kernel
theorem dX7_advocate_11 : decode cX7_advocate 11 = .ok (.iconst 0, 1) := by decide +kernel
theorem dX7_advocate_12 : decode cX7_advocate 12 = .ok (.iconst 1, 1) := by decide +kernel
theorem dX7_advocate_13 : decode cX7_advocate 13 = .ok (.invokestatic 56, 3) := by decide +kernel
theorem dX7_advocate_16 : decode cX7_advocate 16 = .ok (.ifCond .ne 6, 3) := by decide +kernel
theorem dX7_advocate_19 : decode cX7_advocate 19 = .ok (.ldc 60, 2) := by decide +kernel
theorem dX7_advocate_21 : decode cX7_advocate 21 = .ok (.ireturn, 1) := by decide +kernel
theorem dX7_advocate_22 : decode cX7_advocate 22 = .ok (.iconst 0, 1) := by decide +kernel
theorem dX7_advocate_23 : decode cX7_advocate 23 = .ok (.istore_n 3, 1) := by decide +kernel
theorem dX7_advocate_24 : decode cX7_advocate 24 = .ok (.iconst (-1), 1) := by decide +kernel
theorem dX7_advocate_25 : decode cX7_advocate 25 = .ok (.istore 4, 2) := by decide +kernel
theorem dX7_advocate_27 : decode cX7_advocate 27 = .ok (.iconst 0, 1) := by decide +kernel
theorem dX7_advocate_28 : decode cX7_advocate 28 = .ok (.istore 5, 2) := by decide +kernel
theorem dX7_advocate_30 : decode cX7_advocate 30 = .ok (.iload 5, 2) := by decide +kernel
theorem dX7_advocate_32 : decode cX7_advocate 32 = .ok (.bipush 16, 2) := by decide +kernel
theorem dX7_advocate_34 : decode cX7_advocate 34 = .ok (.if_icmp .ge 69, 3) := by decide +kernel
theorem dX7_advocate_37 : decode cX7_advocate 37 = .ok (.aload_n 0, 1) := by decide +kernel
theorem dX7_advocate_38 : decode cX7_advocate 38 = .ok (.getfield 35, 3) := by decide +kernel
theorem dX7_advocate_41 : decode cX7_advocate 41 = .ok (.aload_n 0, 1) := by decide +kernel
theorem dX7_advocate_42 : decode cX7_advocate 42 = .ok (.getfield 28, 3) := by decide +kernel
theorem dX7_advocate_45 : decode cX7_advocate 45 = .ok (.invokevirtual 179, 3) := by decide +kernel
theorem dX7_advocate_48 : decode cX7_advocate 48 = .ok (.aload_n 0, 1) := by decide +kernel
theorem dX7_advocate_49 : decode cX7_advocate 49 = .ok (.getfield 35, 3) := by decide +kernel
theorem dX7_advocate_52 : decode cX7_advocate 52 = .ok (.iload 5, 2) := by decide +kernel
theorem dX7_advocate_54 : decode cX7_advocate 54 = .ok (.iconst 2, 1) := by decide +kernel
theorem dX7_advocate_55 : decode cX7_advocate 55 = .ok (.idiv, 1) := by decide +kernel
theorem dX7_advocate_56 : decode cX7_advocate 56 = .ok (.iload 5, 2) := by decide +kernel
theorem dX7_advocate_58 : decode cX7_advocate 58 = .ok (.iconst 2, 1) := by decide +kernel
theorem dX7_advocate_59 : decode cX7_advocate 59 = .ok (.irem, 1) := by decide +kernel
theorem dX7_advocate_60 : decode cX7_advocate 60 = .ok (.invokevirtual 150, 3) := by decide +kernel
theorem dX7_advocate_63 : decode cX7_advocate 63 = .ok (.pop, 1) := by decide +kernel
theorem dX7_advocate_64 : decode cX7_advocate 64 = .ok (.aload_n 0, 1) := by decide +kernel
theorem dX7_advocate_65 : decode cX7_advocate 65 = .ok (.getfield 35, 3) := by decide +kernel
theorem dX7_advocate_68 : decode cX7_advocate 68 = .ok (.iload_n 1, 1) := by decide +kernel
theorem dX7_advocate_69 : decode cX7_advocate 69 = .ok (.iconst (-1), 1) := by decide +kernel
theorem dX7_advocate_70 : decode cX7_advocate 70 = .ok (.invokevirtual 156, 3) := by decide +kernel
theorem dX7_advocate_73 : decode cX7_advocate 73 = .ok (.pop, 1) := by decide +kernel
theorem dX7_advocate_74 : decode cX7_advocate 74 = .ok (.aload_n 0, 1) := by decide +kernel
theorem dX7_advocate_75 : decode cX7_advocate 75 = .ok (.getfield 35, 3) := by decide +kernel
theorem dX7_advocate_78 : decode cX7_advocate 78 = .ok (.invokevirtual 163, 3) := by decide +kernel
theorem dX7_advocate_81 : decode cX7_advocate 81 = .ok (.istore 6, 2) := by decide +kernel
theorem dX7_advocate_83 : decode cX7_advocate 83 = .ok (.iload 6, 2) := by decide +kernel
theorem dX7_advocate_85 : decode cX7_advocate 85 = .ok (.iload 4, 2) := by decide +kernel
theorem dX7_advocate_87 : decode cX7_advocate 87 = .ok (.if_icmp .le 10, 3) := by decide +kernel
theorem dX7_advocate_90 : decode cX7_advocate 90 = .ok (.iload 6, 2) := by decide +kernel
theorem dX7_advocate_92 : decode cX7_advocate 92 = .ok (.istore 4, 2) := by decide +kernel
theorem dX7_advocate_94 : decode cX7_advocate 94 = .ok (.iload 5, 2) := by decide +kernel
theorem dX7_advocate_96 : decode cX7_advocate 96 = .ok (.istore_n 3, 1) := by decide +kernel
theorem dX7_advocate_97 : decode cX7_advocate 97 = .ok (.iinc 5 1, 3) := by decide +kernel
theorem dX7_advocate_100 : decode cX7_advocate 100 = .ok (.goto (-70), 3) := by decide +kernel
theorem dX7_advocate_103 : decode cX7_advocate 103 = .ok (.iload_n 2, 1) := by decide +kernel
theorem dX7_advocate_104 : decode cX7_advocate 104 = .ok (.ifCond .ne 7, 3) := by decide +kernel
theorem dX7_advocate_107 : decode cX7_advocate 107 = .ok (.iload_n 3, 1) := by decide +kernel
theorem dX7_advocate_108 : decode cX7_advocate 108 = .ok (.goto 5, 3) := by decide +kernel
theorem dX7_advocate_111 : decode cX7_advocate 111 = .ok (.iload 4, 2) := by decide +kernel
theorem dX7_advocate_113 : decode cX7_advocate 113 = .ok (.ireturn, 1) := by decide +kernel
theorem dX7_tipped_0 : decode cX7_tipped 0 = .ok (.iload_n 1, 1) := by decide +kernel
theorem dX7_tipped_1 : decode cX7_tipped 1 = .ok (.iconst 1, 1) := by decide +kernel
theorem dX7_tipped_2 : decode cX7_tipped 2 = .ok (.bipush 60, 2) := by decide +kernel
theorem dX7_tipped_4 : decode cX7_tipped 4 = .ok (.invokestatic 56, 3) := by decide +kernel
theorem dX7_tipped_7 : decode cX7_tipped 7 = .ok (.ifCond .ne 6, 3) := by decide +kernel
theorem dX7_tipped_10 : decode cX7_tipped 10 = .ok (.ldc 60, 2) := by decide +kernel
theorem dX7_tipped_12 : decode cX7_tipped 12 = .ok (.ireturn, 1) := by decide +kernel
theorem dX7_tipped_13 : decode cX7_tipped 13 = .ok (.aload_n 0, 1) := by decide +kernel
theorem dX7_tipped_14 : decode cX7_tipped 14 = .ok (.iload_n 1, 1) := by decide +kernel
theorem dX7_tipped_15 : decode cX7_tipped 15 = .ok (.iconst (-1), 1) := by decide +kernel
theorem dX7_tipped_16 : decode cX7_tipped 16 = .ok (.invokevirtual 175, 3) := by decide +kernel
theorem dX7_tipped_19 : decode cX7_tipped 19 = .ok (.aload_n 0, 1) := by decide +kernel
theorem dX7_tipped_20 : decode cX7_tipped 20 = .ok (.getfield 35, 3) := by decide +kernel
theorem dX7_tipped_23 : decode cX7_tipped 23 = .ok (.invokevirtual 163, 3) := by decide +kernel
theorem dX7_tipped_26 : decode cX7_tipped 26 = .ok (.istore_n 2, 1) := by decide +kernel
theorem dX7_tipped_27 : decode cX7_tipped 27 = .ok (.iconst 0, 1) := by decide +kernel
theorem dX7_tipped_28 : decode cX7_tipped 28 = .ok (.istore_n 3, 1) := by decide +kernel
theorem dX7_tipped_29 : decode cX7_tipped 29 = .ok (.iconst 0, 1) := by decide +kernel
theorem dX7_tipped_30 : decode cX7_tipped 30 = .ok (.istore 4, 2) := by decide +kernel
theorem dX7_tipped_32 : decode cX7_tipped 32 = .ok (.iload 4, 2) := by decide +kernel
theorem dX7_tipped_34 : decode cX7_tipped 34 = .ok (.aload_n 0, 1) := by decide +kernel
theorem dX7_tipped_35 : decode cX7_tipped 35 = .ok (.getfield 28, 3) := by decide +kernel
theorem dX7_tipped_38 : decode cX7_tipped 38 = .ok (.getfield 61, 3) := by decide +kernel
theorem dX7_tipped_41 : decode cX7_tipped 41 = .ok (.if_icmp .ge 34, 3) := by decide +kernel
theorem dX7_tipped_44 : decode cX7_tipped 44 = .ok (.aload_n 0, 1) := by decide +kernel
theorem dX7_tipped_45 : decode cX7_tipped 45 = .ok (.iload_n 1, 1) := by decide +kernel
theorem dX7_tipped_46 : decode cX7_tipped 46 = .ok (.iload 4, 2) := by decide +kernel
theorem dX7_tipped_48 : decode cX7_tipped 48 = .ok (.invokevirtual 175, 3) := by decide +kernel
theorem dX7_tipped_51 : decode cX7_tipped 51 = .ok (.aload_n 0, 1) := by decide +kernel
theorem dX7_tipped_52 : decode cX7_tipped 52 = .ok (.getfield 35, 3) := by decide +kernel
theorem dX7_tipped_55 : decode cX7_tipped 55 = .ok (.invokevirtual 163, 3) := by decide +kernel
theorem dX7_tipped_58 : decode cX7_tipped 58 = .ok (.iload_n 2, 1) := by decide +kernel
theorem dX7_tipped_59 : decode cX7_tipped 59 = .ok (.if_icmp .eq 10, 3) := by decide +kernel
theorem dX7_tipped_62 : decode cX7_tipped 62 = .ok (.iload_n 3, 1) := by decide +kernel
theorem dX7_tipped_63 : decode cX7_tipped 63 = .ok (.iconst 1, 1) := by decide +kernel
theorem dX7_tipped_64 : decode cX7_tipped 64 = .ok (.iload 4, 2) := by decide +kernel
theorem dX7_tipped_66 : decode cX7_tipped 66 = .ok (.ishl, 1) := by decide +kernel
theorem dX7_tipped_67 : decode cX7_tipped 67 = .ok (.ior, 1) := by decide +kernel
theorem dX7_tipped_68 : decode cX7_tipped 68 = .ok (.istore_n 3, 1) := by decide +kernel
theorem dX7_tipped_69 : decode cX7_tipped 69 = .ok (.iinc 4 1, 3) := by decide +kernel
theorem dX7_tipped_72 : decode cX7_tipped 72 = .ok (.goto (-40), 3) := by decide +kernel
theorem dX7_tipped_75 : decode cX7_tipped 75 = .ok (.iload_n 3, 1) := by decide +kernel
theorem dX7_tipped_76 : decode cX7_tipped 76 = .ok (.ireturn, 1) := by decide +kernel
theorem dX7_weighed_0 : decode cX7_weighed 0 = .ok (.iload_n 1, 1) := by decide +kernel
theorem dX7_weighed_1 : decode cX7_weighed 1 = .ok (.invokestatic 186, 3) := by decide +kernel
theorem dX7_weighed_4 : decode cX7_weighed 4 = .ok (.ifCond .eq 12, 3) := by decide +kernel
theorem dX7_weighed_7 : decode cX7_weighed 7 = .ok (.iload_n 2, 1) := by decide +kernel
theorem dX7_weighed_8 : decode cX7_weighed 8 = .ok (.iconst 0, 1) := by decide +kernel
theorem dX7_weighed_9 : decode cX7_weighed 9 = .ok (.iconst 1, 1) := by decide +kernel
theorem dX7_weighed_10 : decode cX7_weighed 10 = .ok (.invokestatic 56, 3) := by decide +kernel
theorem dX7_weighed_13 : decode cX7_weighed 13 = .ok (.ifCond .ne 6, 3) := by decide +kernel
theorem dX7_weighed_16 : decode cX7_weighed 16 = .ok (.ldc 60, 2) := by decide +kernel
theorem dX7_weighed_18 : decode cX7_weighed 18 = .ok (.ireturn, 1) := by decide +kernel
theorem dX7_weighed_19 : decode cX7_weighed 19 = .ok (.aload_n 0, 1) := by decide +kernel
theorem dX7_weighed_20 : decode cX7_weighed 20 = .ok (.getfield 40, 3) := by decide +kernel
theorem dX7_weighed_23 : decode cX7_weighed 23 = .ok (.iload_n 1, 1) := by decide +kernel
theorem dX7_weighed_24 : decode cX7_weighed 24 = .ok (.aaload, 1) := by decide +kernel
theorem dX7_weighed_25 : decode cX7_weighed 25 = .ok (.getfield 189, 3) := by decide +kernel
theorem dX7_weighed_28 : decode cX7_weighed 28 = .ok (.iconst (-1), 1) := by decide +kernel
theorem dX7_weighed_29 : decode cX7_weighed 29 = .ok (.if_icmp .ne 6, 3) := by decide +kernel
theorem dX7_weighed_32 : decode cX7_weighed 32 = .ok (.ldc 192, 2) := by decide +kernel
theorem dX7_weighed_34 : decode cX7_weighed 34 = .ok (.ireturn, 1) := by decide +kernel
theorem dX7_weighed_35 : decode cX7_weighed 35 = .ok (.aload_n 0, 1) := by decide +kernel
theorem dX7_weighed_36 : decode cX7_weighed 36 = .ok (.getfield 35, 3) := by decide +kernel
theorem dX7_weighed_39 : decode cX7_weighed 39 = .ok (.aload_n 0, 1) := by decide +kernel
theorem dX7_weighed_40 : decode cX7_weighed 40 = .ok (.getfield 28, 3) := by decide +kernel
theorem dX7_weighed_43 : decode cX7_weighed 43 = .ok (.invokevirtual 179, 3) := by decide +kernel
theorem dX7_weighed_46 : decode cX7_weighed 46 = .ok (.iconst 0, 1) := by decide +kernel
theorem dX7_weighed_47 : decode cX7_weighed 47 = .ok (.istore_n 3, 1) := by decide +kernel
theorem dX7_weighed_48 : decode cX7_weighed 48 = .ok (.ldc 193, 2) := by decide +kernel
theorem dX7_weighed_50 : decode cX7_weighed 50 = .ok (.istore 4, 2) := by decide +kernel
theorem dX7_weighed_52 : decode cX7_weighed 52 = .ok (.iconst 0, 1) := by decide +kernel
theorem dX7_weighed_53 : decode cX7_weighed 53 = .ok (.istore 5, 2) := by decide +kernel
theorem dX7_weighed_55 : decode cX7_weighed 55 = .ok (.iload 5, 2) := by decide +kernel
theorem dX7_weighed_57 : decode cX7_weighed 57 = .ok (.bipush 8, 2) := by decide +kernel
theorem dX7_weighed_59 : decode cX7_weighed 59 = .ok (.if_icmp .ge 86, 3) := by decide +kernel
theorem dX7_weighed_62 : decode cX7_weighed 62 = .ok (.aload_n 0, 1) := by decide +kernel
theorem dX7_weighed_63 : decode cX7_weighed 63 = .ok (.getfield 35, 3) := by decide +kernel
theorem dX7_weighed_66 : decode cX7_weighed 66 = .ok (.getfield 127, 3) := by decide +kernel
theorem dX7_weighed_69 : decode cX7_weighed 69 = .ok (.iload 5, 2) := by decide +kernel
theorem dX7_weighed_71 : decode cX7_weighed 71 = .ok (.aload_n 0, 1) := by decide +kernel
theorem dX7_weighed_72 : decode cX7_weighed 72 = .ok (.getfield 28, 3) := by decide +kernel
theorem dX7_weighed_75 : decode cX7_weighed 75 = .ok (.getfield 127, 3) := by decide +kernel
theorem dX7_weighed_78 : decode cX7_weighed 78 = .ok (.iload 5, 2) := by decide +kernel
theorem dX7_weighed_80 : decode cX7_weighed 80 = .ok (.iaload, 1) := by decide +kernel
theorem dX7_weighed_81 : decode cX7_weighed 81 = .ok (.bipush 20, 2) := by decide +kernel
theorem dX7_weighed_83 : decode cX7_weighed 83 = .ok (.iadd, 1) := by decide +kernel
theorem dX7_weighed_84 : decode cX7_weighed 84 = .ok (.bipush 50, 2) := by decide +kernel
theorem dX7_weighed_86 : decode cX7_weighed 86 = .ok (.invokestatic 139, 3) := by decide +kernel
theorem dX7_weighed_89 : decode cX7_weighed 89 = .ok (.iastore, 1) := by decide +kernel
theorem dX7_weighed_90 : decode cX7_weighed 90 = .ok (.aload_n 0, 1) := by decide +kernel
theorem dX7_weighed_91 : decode cX7_weighed 91 = .ok (.getfield 35, 3) := by decide +kernel
theorem dX7_weighed_94 : decode cX7_weighed 94 = .ok (.aload_n 0, 1) := by decide +kernel
theorem dX7_weighed_95 : decode cX7_weighed 95 = .ok (.getfield 40, 3) := by decide +kernel
theorem dX7_weighed_98 : decode cX7_weighed 98 = .ok (.iload_n 1, 1) := by decide +kernel
theorem dX7_weighed_99 : decode cX7_weighed 99 = .ok (.aaload, 1) := by decide +kernel
theorem dX7_weighed_100 : decode cX7_weighed 100 = .ok (.invokestatic 194, 3) := by decide +kernel
theorem dX7_weighed_103 : decode cX7_weighed 103 = .ok (.istore 6, 2) := by decide +kernel
theorem dX7_weighed_105 : decode cX7_weighed 105 = .ok (.aload_n 0, 1) := by decide +kernel
theorem dX7_weighed_106 : decode cX7_weighed 106 = .ok (.getfield 35, 3) := by decide +kernel
theorem dX7_weighed_109 : decode cX7_weighed 109 = .ok (.getfield 127, 3) := by decide +kernel
theorem dX7_weighed_112 : decode cX7_weighed 112 = .ok (.iload 5, 2) := by decide +kernel
theorem dX7_weighed_114 : decode cX7_weighed 114 = .ok (.aload_n 0, 1) := by decide +kernel
theorem dX7_weighed_115 : decode cX7_weighed 115 = .ok (.getfield 28, 3) := by decide +kernel
theorem dX7_weighed_118 : decode cX7_weighed 118 = .ok (.getfield 127, 3) := by decide +kernel
theorem dX7_weighed_121 : decode cX7_weighed 121 = .ok (.iload 5, 2) := by decide +kernel
theorem dX7_weighed_123 : decode cX7_weighed 123 = .ok (.iaload, 1) := by decide +kernel
theorem dX7_weighed_124 : decode cX7_weighed 124 = .ok (.iastore, 1) := by decide +kernel
theorem dX7_weighed_125 : decode cX7_weighed 125 = .ok (.iload 6, 2) := by decide +kernel
theorem dX7_weighed_127 : decode cX7_weighed 127 = .ok (.iload 4, 2) := by decide +kernel
theorem dX7_weighed_129 : decode cX7_weighed 129 = .ok (.if_icmp .ge 10, 3) := by decide +kernel
theorem dX7_weighed_132 : decode cX7_weighed 132 = .ok (.iload 6, 2) := by decide +kernel
theorem dX7_weighed_134 : decode cX7_weighed 134 = .ok (.istore 4, 2) := by decide +kernel
theorem dX7_weighed_136 : decode cX7_weighed 136 = .ok (.iload 5, 2) := by decide +kernel
theorem dX7_weighed_138 : decode cX7_weighed 138 = .ok (.istore_n 3, 1) := by decide +kernel
theorem dX7_weighed_139 : decode cX7_weighed 139 = .ok (.iinc 5 1, 3) := by decide +kernel
theorem dX7_weighed_142 : decode cX7_weighed 142 = .ok (.goto (-87), 3) := by decide +kernel
theorem dX7_weighed_145 : decode cX7_weighed 145 = .ok (.iload_n 2, 1) := by decide +kernel
theorem dX7_weighed_146 : decode cX7_weighed 146 = .ok (.ifCond .ne 7, 3) := by decide +kernel
theorem dX7_weighed_149 : decode cX7_weighed 149 = .ok (.iload_n 3, 1) := by decide +kernel
theorem dX7_weighed_150 : decode cX7_weighed 150 = .ok (.goto 5, 3) := by decide +kernel
theorem dX7_weighed_153 : decode cX7_weighed 153 = .ok (.iload 4, 2) := by decide +kernel
theorem dX7_weighed_155 : decode cX7_weighed 155 = .ok (.ireturn, 1) := by decide +kernel
theorem dX7_fee_0 : decode cX7_fee 0 = .ok (.aload_n 0, 1) := by decide +kernel
theorem dX7_fee_1 : decode cX7_fee 1 = .ok (.getfield 28, 3) := by decide +kernel
theorem dX7_fee_4 : decode cX7_fee 4 = .ok (.getfield 198, 3) := by decide +kernel
theorem dX7_fee_7 : decode cX7_fee 7 = .ok (.iconst 1, 1) := by decide +kernel
theorem dX7_fee_8 : decode cX7_fee 8 = .ok (.iaload, 1) := by decide +kernel
theorem dX7_fee_9 : decode cX7_fee 9 = .ok (.istore_n 1, 1) := by decide +kernel
theorem dX7_fee_10 : decode cX7_fee 10 = .ok (.iload_n 1, 1) := by decide +kernel
theorem dX7_fee_11 : decode cX7_fee 11 = .ok (.ifCond .ge 13, 3) := by decide +kernel
theorem dX7_fee_14 : decode cX7_fee 14 = .ok (.aload_n 0, 1) := by decide +kernel
theorem dX7_fee_15 : decode cX7_fee 15 = .ok (.getfield 28, 3) := by decide +kernel
theorem dX7_fee_18 : decode cX7_fee 18 = .ok (.getfield 166, 3) := by decide +kernel
theorem dX7_fee_21 : decode cX7_fee 21 = .ok (.goto 26, 3) := by decide +kernel
theorem dX7_fee_24 : decode cX7_fee 24 = .ok (.aload_n 0, 1) := by decide +kernel
theorem dX7_fee_25 : decode cX7_fee 25 = .ok (.getfield 10, 3) := by decide +kernel
theorem dX7_fee_28 : decode cX7_fee 28 = .ok (.iload_n 1, 1) := by decide +kernel
theorem dX7_fee_29 : decode cX7_fee 29 = .ok (.aload_n 0, 1) := by decide +kernel
theorem dX7_fee_30 : decode cX7_fee 30 = .ok (.getfield 28, 3) := by decide +kernel
theorem dX7_fee_33 : decode cX7_fee 33 = .ok (.getfield 153, 3) := by decide +kernel
theorem dX7_fee_36 : decode cX7_fee 36 = .ok (.aload_n 0, 1) := by decide +kernel
theorem dX7_fee_37 : decode cX7_fee 37 = .ok (.getfield 28, 3) := by decide +kernel
theorem dX7_fee_40 : decode cX7_fee 40 = .ok (.getfield 166, 3) := by decide +kernel
theorem dX7_fee_43 : decode cX7_fee 43 = .ok (.iconst 0, 1) := by decide +kernel
theorem dX7_fee_44 : decode cX7_fee 44 = .ok (.invokevirtual 201, 3) := by decide +kernel
theorem dX7_fee_47 : decode cX7_fee 47 = .ok (.ireturn, 1) := by decide +kernel
theorem dX7_fine_0 : decode cX7_fine 0 = .ok (.aload_n 0, 1) := by decide +kernel
theorem dX7_fine_1 : decode cX7_fine 1 = .ok (.getfield 28, 3) := by decide +kernel
theorem dX7_fine_4 : decode cX7_fine 4 = .ok (.iload_n 1, 1) := by decide +kernel
theorem dX7_fine_5 : decode cX7_fine 5 = .ok (.invokevirtual 70, 3) := by decide +kernel
theorem dX7_fine_8 : decode cX7_fine 8 = .ok (.ifCond .ne 6, 3) := by decide +kernel
theorem dX7_fine_11 : decode cX7_fine 11 = .ok (.ldc 60, 2) := by decide +kernel
theorem dX7_fine_13 : decode cX7_fine 13 = .ok (.ireturn, 1) := by decide +kernel
theorem dX7_fine_14 : decode cX7_fine 14 = .ok (.aload_n 0, 1) := by decide +kernel
theorem dX7_fine_15 : decode cX7_fine 15 = .ok (.getfield 28, 3) := by decide +kernel
theorem dX7_fine_18 : decode cX7_fine 18 = .ok (.getfield 198, 3) := by decide +kernel
theorem dX7_fine_21 : decode cX7_fine 21 = .ok (.iconst 2, 1) := by decide +kernel
theorem dX7_fine_22 : decode cX7_fine 22 = .ok (.iaload, 1) := by decide +kernel
theorem dX7_fine_23 : decode cX7_fine 23 = .ok (.istore_n 2, 1) := by decide +kernel
theorem dX7_fine_24 : decode cX7_fine 24 = .ok (.iload_n 2, 1) := by decide +kernel
theorem dX7_fine_25 : decode cX7_fine 25 = .ok (.ifCond .ge 15, 3) := by decide +kernel
theorem dX7_fine_28 : decode cX7_fine 28 = .ok (.aload_n 0, 1) := by decide +kernel
theorem dX7_fine_29 : decode cX7_fine 29 = .ok (.getfield 28, 3) := by decide +kernel
theorem dX7_fine_32 : decode cX7_fine 32 = .ok (.getfield 86, 3) := by decide +kernel
theorem dX7_fine_35 : decode cX7_fine 35 = .ok (.iload_n 1, 1) := by decide +kernel
theorem dX7_fine_36 : decode cX7_fine 36 = .ok (.iaload, 1) := by decide +kernel
theorem dX7_fine_37 : decode cX7_fine 37 = .ok (.goto 30, 3) := by decide +kernel
theorem dX7_fine_40 : decode cX7_fine 40 = .ok (.aload_n 0, 1) := by decide +kernel
theorem dX7_fine_41 : decode cX7_fine 41 = .ok (.getfield 10, 3) := by decide +kernel
theorem dX7_fine_44 : decode cX7_fine 44 = .ok (.iload_n 2, 1) := by decide +kernel
theorem dX7_fine_45 : decode cX7_fine 45 = .ok (.aload_n 0, 1) := by decide +kernel
theorem dX7_fine_46 : decode cX7_fine 46 = .ok (.getfield 28, 3) := by decide +kernel
theorem dX7_fine_49 : decode cX7_fine 49 = .ok (.getfield 86, 3) := by decide +kernel
theorem dX7_fine_52 : decode cX7_fine 52 = .ok (.iload_n 1, 1) := by decide +kernel
theorem dX7_fine_53 : decode cX7_fine 53 = .ok (.iaload, 1) := by decide +kernel
theorem dX7_fine_54 : decode cX7_fine 54 = .ok (.aload_n 0, 1) := by decide +kernel
theorem dX7_fine_55 : decode cX7_fine 55 = .ok (.getfield 28, 3) := by decide +kernel
theorem dX7_fine_58 : decode cX7_fine 58 = .ok (.getfield 83, 3) := by decide +kernel
theorem dX7_fine_61 : decode cX7_fine 61 = .ok (.iload_n 1, 1) := by decide +kernel
theorem dX7_fine_62 : decode cX7_fine 62 = .ok (.iaload, 1) := by decide +kernel
theorem dX7_fine_63 : decode cX7_fine 63 = .ok (.iconst 0, 1) := by decide +kernel
theorem dX7_fine_64 : decode cX7_fine 64 = .ok (.invokevirtual 201, 3) := by decide +kernel
theorem dX7_fine_67 : decode cX7_fine 67 = .ok (.ireturn, 1) := by decide +kernel
theorem dX7_feed_0 : decode cX7_feed 0 = .ok (.aload_n 0, 1) := by decide +kernel
theorem dX7_feed_1 : decode cX7_feed 1 = .ok (.getfield 19, 3) := by decide +kernel
theorem dX7_feed_4 : decode cX7_feed 4 = .ok (.getfield 205, 3) := by decide +kernel
theorem dX7_feed_7 : decode cX7_feed 7 = .ok (.bipush 84, 2) := by decide +kernel
theorem dX7_feed_9 : decode cX7_feed 9 = .ok (.if_icmp .le 6, 3) := by decide +kernel
theorem dX7_feed_12 : decode cX7_feed 12 = .ok (.ldc 65, 2) := by decide +kernel
theorem dX7_feed_14 : decode cX7_feed 14 = .ok (.ireturn, 1) := by decide +kernel
theorem dX7_feed_15 : decode cX7_feed 15 = .ok (.aload_n 0, 1) := by decide +kernel
theorem dX7_feed_16 : decode cX7_feed 16 = .ok (.getfield 19, 3) := by decide +kernel
theorem dX7_feed_19 : decode cX7_feed 19 = .ok (.iload_n 1, 1) := by decide +kernel
theorem dX7_feed_20 : decode cX7_feed 20 = .ok (.invokevirtual 208, 3) := by decide +kernel
theorem dX7_feed_23 : decode cX7_feed 23 = .ok (.aload_n 0, 1) := by decide +kernel
theorem dX7_feed_24 : decode cX7_feed 24 = .ok (.getfield 19, 3) := by decide +kernel
theorem dX7_feed_27 : decode cX7_feed 27 = .ok (.iload_n 2, 1) := by decide +kernel
theorem dX7_feed_28 : decode cX7_feed 28 = .ok (.invokevirtual 208, 3) := by decide +kernel
theorem dX7_feed_31 : decode cX7_feed 31 = .ok (.aload_n 0, 1) := by decide +kernel
theorem dX7_feed_32 : decode cX7_feed 32 = .ok (.getfield 19, 3) := by decide +kernel
theorem dX7_feed_35 : decode cX7_feed 35 = .ok (.iload_n 3, 1) := by decide +kernel
theorem dX7_feed_36 : decode cX7_feed 36 = .ok (.invokevirtual 208, 3) := by decide +kernel
theorem dX7_feed_39 : decode cX7_feed 39 = .ok (.aload_n 0, 1) := by decide +kernel
theorem dX7_feed_40 : decode cX7_feed 40 = .ok (.getfield 19, 3) := by decide +kernel
theorem dX7_feed_43 : decode cX7_feed 43 = .ok (.getfield 205, 3) := by decide +kernel
theorem dX7_feed_46 : decode cX7_feed 46 = .ok (.ireturn, 1) := by decide +kernel
theorem dX7_trim_0 : decode cX7_trim 0 = .ok (.iload_n 1, 1) := by decide +kernel
theorem dX7_trim_1 : decode cX7_trim 1 = .ok (.iconst 0, 1) := by decide +kernel
theorem dX7_trim_2 : decode cX7_trim 2 = .ok (.aload_n 0, 1) := by decide +kernel
theorem dX7_trim_3 : decode cX7_trim 3 = .ok (.getfield 19, 3) := by decide +kernel
theorem dX7_trim_6 : decode cX7_trim 6 = .ok (.getfield 205, 3) := by decide +kernel
theorem dX7_trim_9 : decode cX7_trim 9 = .ok (.invokestatic 56, 3) := by decide +kernel
theorem dX7_trim_12 : decode cX7_trim 12 = .ok (.ifCond .ne 6, 3) := by decide +kernel
theorem dX7_trim_15 : decode cX7_trim 15 = .ok (.ldc 60, 2) := by decide +kernel
theorem dX7_trim_17 : decode cX7_trim 17 = .ok (.ireturn, 1) := by decide +kernel
theorem dX7_trim_18 : decode cX7_trim 18 = .ok (.aload_n 0, 1) := by decide +kernel
theorem dX7_trim_19 : decode cX7_trim 19 = .ok (.getfield 19, 3) := by decide +kernel
theorem dX7_trim_22 : decode cX7_trim 22 = .ok (.iload_n 1, 1) := by decide +kernel
theorem dX7_trim_23 : decode cX7_trim 23 = .ok (.putfield 205, 3) := by decide +kernel
theorem dX7_trim_26 : decode cX7_trim 26 = .ok (.iload_n 1, 1) := by decide +kernel
theorem dX7_trim_27 : decode cX7_trim 27 = .ok (.ireturn, 1) := by decide +kernel
theorem dX7_text_0 : decode cX7_text 0 = .ok (.aload_n 0, 1) := by decide +kernel
theorem dX7_text_1 : decode cX7_text 1 = .ok (.getfield 19, 3) := by decide +kernel
theorem dX7_text_4 : decode cX7_text 4 = .ok (.invokevirtual 212, 3) := by decide +kernel
theorem dX7_text_7 : decode cX7_text 7 = .ok (.istore_n 1, 1) := by decide +kernel
theorem dX7_text_8 : decode cX7_text 8 = .ok (.aload_n 0, 1) := by decide +kernel
theorem dX7_text_9 : decode cX7_text 9 = .ok (.getfield 19, 3) := by decide +kernel
theorem dX7_text_12 : decode cX7_text 12 = .ok (.iconst 0, 1) := by decide +kernel
theorem dX7_text_13 : decode cX7_text 13 = .ok (.putfield 205, 3) := by decide +kernel
theorem dX7_text_16 : decode cX7_text 16 = .ok (.iload_n 1, 1) := by decide +kernel
theorem dX7_text_17 : decode cX7_text 17 = .ok (.ifCond .lt 8, 3) := by decide +kernel
theorem dX7_text_20 : decode cX7_text 20 = .ok (.bipush (-100), 2) := by decide +kernel
theorem dX7_text_22 : decode cX7_text 22 = .ok (.iload_n 1, 1) := by decide +kernel
theorem dX7_text_23 : decode cX7_text 23 = .ok (.isub, 1) := by decide +kernel
theorem dX7_text_24 : decode cX7_text 24 = .ok (.ireturn, 1) := by decide +kernel
theorem dX7_text_25 : decode cX7_text 25 = .ok (.aload_n 0, 1) := by decide +kernel
theorem dX7_text_26 : decode cX7_text 26 = .ok (.getfield 28, 3) := by decide +kernel
theorem dX7_text_29 : decode cX7_text 29 = .ok (.getfield 215, 3) := by decide +kernel
theorem dX7_text_32 : decode cX7_text 32 = .ok (.bipush 14, 2) := by decide +kernel
theorem dX7_text_34 : decode cX7_text 34 = .ok (.if_icmp .lt 6, 3) := by decide +kernel
theorem dX7_text_37 : decode cX7_text 37 = .ok (.ldc 65, 2) := by decide +kernel
theorem dX7_text_39 : decode cX7_text 39 = .ok (.ireturn, 1) := by decide +kernel
theorem dX7_text_40 : decode cX7_text 40 = .ok (.aload_n 0, 1) := by decide +kernel
theorem dX7_text_41 : decode cX7_text 41 = .ok (.getfield 28, 3) := by decide +kernel
theorem dX7_text_44 : decode cX7_text 44 = .ok (.getfield 215, 3) := by decide +kernel
theorem dX7_text_47 : decode cX7_text 47 = .ok (.istore_n 2, 1) := by decide +kernel
theorem dX7_text_48 : decode cX7_text 48 = .ok (.aload_n 0, 1) := by decide +kernel
theorem dX7_text_49 : decode cX7_text 49 = .ok (.getfield 10, 3) := by decide +kernel
theorem dX7_text_52 : decode cX7_text 52 = .ok (.iload_n 2, 1) := by decide +kernel
theorem dX7_text_53 : decode cX7_text 53 = .ok (.invokevirtual 218, 3) := by decide +kernel
theorem dX7_text_56 : decode cX7_text 56 = .ok (.aload_n 0, 1) := by decide +kernel
theorem dX7_text_57 : decode cX7_text 57 = .ok (.getfield 19, 3) := by decide +kernel
theorem dX7_text_60 : decode cX7_text 60 = .ok (.getfield 222, 3) := by decide +kernel
theorem dX7_text_63 : decode cX7_text 63 = .ok (.invokevirtual 226, 3) := by decide +kernel
theorem dX7_text_66 : decode cX7_text 66 = .ok (.aload_n 0, 1) := by decide +kernel
theorem dX7_text_67 : decode cX7_text 67 = .ok (.getfield 28, 3) := by decide +kernel
theorem dX7_text_70 : decode cX7_text 70 = .ok (.getfield 198, 3) := by decide +kernel
theorem dX7_text_73 : decode cX7_text 73 = .ok (.aload_n 0, 1) := by decide +kernel
theorem dX7_text_74 : decode cX7_text 74 = .ok (.getfield 19, 3) := by decide +kernel
theorem dX7_text_77 : decode cX7_text 77 = .ok (.getfield 222, 3) := by decide +kernel
theorem dX7_text_80 : decode cX7_text 80 = .ok (.getfield 231, 3) := by decide +kernel
theorem dX7_text_83 : decode cX7_text 83 = .ok (.iconst 0, 1) := by decide +kernel
theorem dX7_text_84 : decode cX7_text 84 = .ok (.iconst 2, 1) := by decide +kernel
theorem dX7_text_85 : decode cX7_text 85 = .ok (.invokestatic 234, 3) := by decide +kernel
theorem dX7_text_88 : decode cX7_text 88 = .ok (.iload_n 2, 1) := by decide +kernel
theorem dX7_text_89 : decode cX7_text 89 = .ok (.iastore, 1) := by decide +kernel
theorem dX7_text_90 : decode cX7_text 90 = .ok (.aload_n 0, 1) := by decide +kernel
theorem dX7_text_91 : decode cX7_text 91 = .ok (.getfield 28, 3) := by decide +kernel
theorem dX7_text_94 : decode cX7_text 94 = .ok (.dup, 1) := by decide +kernel
theorem dX7_text_95 : decode cX7_text 95 = .ok (.getfield 215, 3) := by decide +kernel
theorem dX7_text_98 : decode cX7_text 98 = .ok (.iconst 1, 1) := by decide +kernel
theorem dX7_text_99 : decode cX7_text 99 = .ok (.iadd, 1) := by decide +kernel
theorem dX7_text_100 : decode cX7_text 100 = .ok (.putfield 215, 3) := by decide +kernel
theorem dX7_text_103 : decode cX7_text 103 = .ok (.iload_n 2, 1) := by decide +kernel
theorem dX7_text_104 : decode cX7_text 104 = .ok (.ireturn, 1) := by decide +kernel
theorem dX7_textTold_0 : decode cX7_textTold 0 = .ok (.iload_n 1, 1) := by decide +kernel
theorem dX7_textTold_1 : decode cX7_textTold 1 = .ok (.iconst 0, 1) := by decide +kernel
theorem dX7_textTold_2 : decode cX7_textTold 2 = .ok (.aload_n 0, 1) := by decide +kernel
theorem dX7_textTold_3 : decode cX7_textTold 3 = .ok (.getfield 28, 3) := by decide +kernel
theorem dX7_textTold_6 : decode cX7_textTold 6 = .ok (.getfield 215, 3) := by decide +kernel
theorem dX7_textTold_9 : decode cX7_textTold 9 = .ok (.iconst 1, 1) := by decide +kernel
theorem dX7_textTold_10 : decode cX7_textTold 10 = .ok (.isub, 1) := by decide +kernel
theorem dX7_textTold_11 : decode cX7_textTold 11 = .ok (.invokestatic 56, 3) := by decide +kernel
theorem dX7_textTold_14 : decode cX7_textTold 14 = .ok (.ifCond .eq 12, 3) := by decide +kernel
theorem dX7_textTold_17 : decode cX7_textTold 17 = .ok (.iload_n 2, 1) := by decide +kernel
theorem dX7_textTold_18 : decode cX7_textTold 18 = .ok (.iconst 0, 1) := by decide +kernel
theorem dX7_textTold_19 : decode cX7_textTold 19 = .ok (.iconst 1, 1) := by decide +kernel
theorem dX7_textTold_20 : decode cX7_textTold 20 = .ok (.invokestatic 56, 3) := by decide +kernel
theorem dX7_textTold_23 : decode cX7_textTold 23 = .ok (.ifCond .ne 6, 3) := by decide +kernel
theorem dX7_textTold_26 : decode cX7_textTold 26 = .ok (.ldc 60, 2) := by decide +kernel
theorem dX7_textTold_28 : decode cX7_textTold 28 = .ok (.ireturn, 1) := by decide +kernel
theorem dX7_textTold_29 : decode cX7_textTold 29 = .ok (.aload_n 0, 1) := by decide +kernel
theorem dX7_textTold_30 : decode cX7_textTold 30 = .ok (.getfield 10, 3) := by decide +kernel
theorem dX7_textTold_33 : decode cX7_textTold 33 = .ok (.iload_n 1, 1) := by decide +kernel
theorem dX7_textTold_34 : decode cX7_textTold 34 = .ok (.invokevirtual 218, 3) := by decide +kernel
theorem dX7_textTold_37 : decode cX7_textTold 37 = .ok (.astore_n 3, 1) := by decide +kernel
theorem dX7_textTold_38 : decode cX7_textTold 38 = .ok (.iload_n 2, 1) := by decide +kernel
theorem dX7_textTold_39 : decode cX7_textTold 39 = .ok (.ifCond .ne 10, 3) := by decide +kernel
theorem dX7_textTold_42 : decode cX7_textTold 42 = .ok (.aload_n 3, 1) := by decide +kernel
theorem dX7_textTold_43 : decode cX7_textTold 43 = .ok (.getfield 231, 3) := by decide +kernel
theorem dX7_textTold_46 : decode cX7_textTold 46 = .ok (.goto 7, 3) := by decide +kernel
theorem dX7_textTold_49 : decode cX7_textTold 49 = .ok (.aload_n 3, 1) := by decide +kernel
theorem dX7_textTold_50 : decode cX7_textTold 50 = .ok (.getfield 238, 3) := by decide +kernel
theorem dX7_textTold_53 : decode cX7_textTold 53 = .ok (.ireturn, 1) := by decide +kernel
theorem dX7_why_0 : decode cX7_why 0 = .ok (.iload_n 1, 1) := by decide +kernel
theorem dX7_why_1 : decode cX7_why 1 = .ok (.iconst 0, 1) := by decide +kernel
theorem dX7_why_2 : decode cX7_why 2 = .ok (.iconst 2, 1) := by decide +kernel
theorem dX7_why_3 : decode cX7_why 3 = .ok (.invokestatic 56, 3) := by decide +kernel
theorem dX7_why_6 : decode cX7_why 6 = .ok (.ifCond .ne 6, 3) := by decide +kernel
theorem dX7_why_9 : decode cX7_why 9 = .ok (.ldc 60, 2) := by decide +kernel
theorem dX7_why_11 : decode cX7_why 11 = .ok (.ireturn, 1) := by decide +kernel
theorem dX7_why_12 : decode cX7_why 12 = .ok (.aload_n 0, 1) := by decide +kernel
theorem dX7_why_13 : decode cX7_why 13 = .ok (.getfield 28, 3) := by decide +kernel
theorem dX7_why_16 : decode cX7_why 16 = .ok (.getfield 198, 3) := by decide +kernel
theorem dX7_why_19 : decode cX7_why 19 = .ok (.iload_n 1, 1) := by decide +kernel
theorem dX7_why_20 : decode cX7_why 20 = .ok (.iaload, 1) := by decide +kernel
theorem dX7_why_21 : decode cX7_why 21 = .ok (.istore_n 2, 1) := by decide +kernel
theorem dX7_why_22 : decode cX7_why 22 = .ok (.iload_n 2, 1) := by decide +kernel
theorem dX7_why_23 : decode cX7_why 23 = .ok (.ifCond .ge 8, 3) := by decide +kernel
theorem dX7_why_26 : decode cX7_why 26 = .ok (.ldc 109, 2) := by decide +kernel
theorem dX7_why_28 : decode cX7_why 28 = .ok (.goto 4, 3) := by decide +kernel
theorem dX7_why_31 : decode cX7_why 31 = .ok (.iload_n 2, 1) := by decide +kernel
theorem dX7_why_32 : decode cX7_why 32 = .ok (.ireturn, 1) := by decide +kernel
theorem dX7_sheet_0 : decode cX7_sheet 0 = .ok (.iload_n 1, 1) := by decide +kernel
theorem dX7_sheet_1 : decode cX7_sheet 1 = .ok (.invokestatic 186, 3) := by decide +kernel
theorem dX7_sheet_4 : decode cX7_sheet 4 = .ok (.ifCond .eq 23, 3) := by decide +kernel
theorem dX7_sheet_7 : decode cX7_sheet 7 = .ok (.iload_n 2, 1) := by decide +kernel
theorem dX7_sheet_8 : decode cX7_sheet 8 = .ok (.iconst (-1), 1) := by decide +kernel
theorem dX7_sheet_9 : decode cX7_sheet 9 = .ok (.iconst 1, 1) := by decide +kernel
theorem dX7_sheet_10 : decode cX7_sheet 10 = .ok (.invokestatic 56, 3) := by decide +kernel
theorem dX7_sheet_13 : decode cX7_sheet 13 = .ok (.ifCond .eq 14, 3) := by decide +kernel
theorem dX7_sheet_16 : decode cX7_sheet 16 = .ok (.iload_n 2, 1) := by decide +kernel
theorem dX7_sheet_17 : decode cX7_sheet 17 = .ok (.iconst (-1), 1) := by decide +kernel
theorem dX7_sheet_18 : decode cX7_sheet 18 = .ok (.if_icmp .eq 12, 3) := by decide +kernel
theorem dX7_sheet_21 : decode cX7_sheet 21 = .ok (.iload_n 3, 1) := by decide +kernel
theorem dX7_sheet_22 : decode cX7_sheet 22 = .ok (.bipush 24, 2) := by decide +kernel
theorem dX7_sheet_24 : decode cX7_sheet 24 = .ok (.if_icmp .le 6, 3) := by decide +kernel
theorem dX7_sheet_27 : decode cX7_sheet 27 = .ok (.ldc 60, 2) := by decide +kernel
theorem dX7_sheet_29 : decode cX7_sheet 29 = .ok (.ireturn, 1) := by decide +kernel
theorem dX7_sheet_30 : decode cX7_sheet 30 = .ok (.iload_n 2, 1) := by decide +kernel
theorem dX7_sheet_31 : decode cX7_sheet 31 = .ok (.iconst (-1), 1) := by decide +kernel
theorem dX7_sheet_32 : decode cX7_sheet 32 = .ok (.if_icmp .eq 10, 3) := by decide +kernel
theorem dX7_sheet_35 : decode cX7_sheet 35 = .ok (.iload_n 3, 1) := by decide +kernel
theorem dX7_sheet_36 : decode cX7_sheet 36 = .ok (.ifCond .ge 6, 3) := by decide +kernel
theorem dX7_sheet_39 : decode cX7_sheet 39 = .ok (.ldc 241, 2) := by decide +kernel
theorem dX7_sheet_41 : decode cX7_sheet 41 = .ok (.ireturn, 1) := by decide +kernel
theorem dX7_sheet_42 : decode cX7_sheet 42 = .ok (.aload_n 0, 1) := by decide +kernel
theorem dX7_sheet_43 : decode cX7_sheet 43 = .ok (.getfield 40, 3) := by decide +kernel
theorem dX7_sheet_46 : decode cX7_sheet 46 = .ok (.iload_n 1, 1) := by decide +kernel
theorem dX7_sheet_47 : decode cX7_sheet 47 = .ok (.aaload, 1) := by decide +kernel
theorem dX7_sheet_48 : decode cX7_sheet 48 = .ok (.iload_n 2, 1) := by decide +kernel
theorem dX7_sheet_49 : decode cX7_sheet 49 = .ok (.iload_n 2, 1) := by decide +kernel
theorem dX7_sheet_50 : decode cX7_sheet 50 = .ok (.iconst (-1), 1) := by decide +kernel
theorem dX7_sheet_51 : decode cX7_sheet 51 = .ok (.if_icmp .ne 7, 3) := by decide +kernel
theorem dX7_sheet_54 : decode cX7_sheet 54 = .ok (.iconst 0, 1) := by decide +kernel
theorem dX7_sheet_55 : decode cX7_sheet 55 = .ok (.goto 4, 3) := by decide +kernel
theorem dX7_sheet_58 : decode cX7_sheet 58 = .ok (.iload_n 3, 1) := by decide +kernel
theorem dX7_sheet_59 : decode cX7_sheet 59 = .ok (.invokevirtual 242, 3) := by decide +kernel
theorem dX7_sheet_62 : decode cX7_sheet 62 = .ok (.aload_n 0, 1) := by decide +kernel
theorem dX7_sheet_63 : decode cX7_sheet 63 = .ok (.getfield 40, 3) := by decide +kernel
theorem dX7_sheet_66 : decode cX7_sheet 66 = .ok (.iload_n 1, 1) := by decide +kernel
theorem dX7_sheet_67 : decode cX7_sheet 67 = .ok (.aaload, 1) := by decide +kernel
theorem dX7_sheet_68 : decode cX7_sheet 68 = .ok (.getfield 245, 3) := by decide +kernel
theorem dX7_sheet_71 : decode cX7_sheet 71 = .ok (.ireturn, 1) := by decide +kernel
theorem dX7_mark_0 : decode cX7_mark 0 = .ok (.iload_n 1, 1) := by decide +kernel
theorem dX7_mark_1 : decode cX7_mark 1 = .ok (.invokestatic 186, 3) := by decide +kernel
theorem dX7_mark_4 : decode cX7_mark 4 = .ok (.ifCond .ne 6, 3) := by decide +kernel
theorem dX7_mark_7 : decode cX7_mark 7 = .ok (.ldc 60, 2) := by decide +kernel
theorem dX7_mark_9 : decode cX7_mark 9 = .ok (.ireturn, 1) := by decide +kernel
theorem dX7_mark_10 : decode cX7_mark 10 = .ok (.aload_n 0, 1) := by decide +kernel
theorem dX7_mark_11 : decode cX7_mark 11 = .ok (.getfield 40, 3) := by decide +kernel
theorem dX7_mark_14 : decode cX7_mark 14 = .ok (.iload_n 1, 1) := by decide +kernel
theorem dX7_mark_15 : decode cX7_mark 15 = .ok (.aaload, 1) := by decide +kernel
theorem dX7_mark_16 : decode cX7_mark 16 = .ok (.astore 4, 2) := by decide +kernel
theorem dX7_mark_18 : decode cX7_mark 18 = .ok (.aload 4, 2) := by decide +kernel
theorem dX7_mark_20 : decode cX7_mark 20 = .ok (.getfield 189, 3) := by decide +kernel
theorem dX7_mark_23 : decode cX7_mark 23 = .ok (.iconst (-1), 1) := by decide +kernel
theorem dX7_mark_24 : decode cX7_mark 24 = .ok (.if_icmp .ne 6, 3) := by decide +kernel
theorem dX7_mark_27 : decode cX7_mark 27 = .ok (.ldc 192, 2) := by decide +kernel
theorem dX7_mark_29 : decode cX7_mark 29 = .ok (.ireturn, 1) := by decide +kernel
theorem dX7_mark_30 : decode cX7_mark 30 = .ok (.aload 4, 2) := by decide +kernel
theorem dX7_mark_32 : decode cX7_mark 32 = .ok (.iload_n 2, 1) := by decide +kernel
theorem dX7_mark_33 : decode cX7_mark 33 = .ok (.invokevirtual 246, 3) := by decide +kernel
theorem dX7_mark_36 : decode cX7_mark 36 = .ok (.ifCond .ne 6, 3) := by decide +kernel
theorem dX7_mark_39 : decode cX7_mark 39 = .ok (.ldc 247, 2) := by decide +kernel
theorem dX7_mark_41 : decode cX7_mark 41 = .ok (.ireturn, 1) := by decide +kernel
theorem dX7_mark_42 : decode cX7_mark 42 = .ok (.aload 4, 2) := by decide +kernel
theorem dX7_mark_44 : decode cX7_mark 44 = .ok (.getfield 189, 3) := by decide +kernel
theorem dX7_mark_47 : decode cX7_mark 47 = .ok (.ifCond .ne 23, 3) := by decide +kernel
theorem dX7_mark_50 : decode cX7_mark 50 = .ok (.iload_n 3, 1) := by decide +kernel
theorem dX7_mark_51 : decode cX7_mark 51 = .ok (.ldc 109, 2) := by decide +kernel
theorem dX7_mark_53 : decode cX7_mark 53 = .ok (.if_icmp .ne 6, 3) := by decide +kernel
theorem dX7_mark_56 : decode cX7_mark 56 = .ok (.ldc 119, 2) := by decide +kernel
theorem dX7_mark_58 : decode cX7_mark 58 = .ok (.ireturn, 1) := by decide +kernel
theorem dX7_mark_59 : decode cX7_mark 59 = .ok (.aload 4, 2) := by decide +kernel
end
section
theorem dX7_mark_61 : decode cX7_mark 61 = .ok (.getfield 248, 3) := by decide +kernel
theorem dX7_mark_64 : decode cX7_mark 64 = .ok (.iload_n 2, 1) := by decide +kernel
theorem dX7_mark_65 : decode cX7_mark 65 = .ok (.iload_n 3, 1) := by decide +kernel
theorem dX7_mark_66 : decode cX7_mark 66 = .ok (.i2s, 1) := by decide +kernel
theorem dX7_mark_67 : decode cX7_mark 67 = .ok (.iastore, 1) := by decide +kernel
theorem dX7_mark_68 : decode cX7_mark 68 = .ok (.iconst 1, 1) := by decide +kernel
theorem dX7_mark_69 : decode cX7_mark 69 = .ok (.ireturn, 1) := by decide +kernel
theorem dX7_mark_70 : decode cX7_mark 70 = .ok (.iload_n 3, 1) := by decide +kernel
theorem dX7_mark_71 : decode cX7_mark 71 = .ok (.ldc 109, 2) := by decide +kernel
theorem dX7_mark_73 : decode cX7_mark 73 = .ok (.if_icmp .eq 17, 3) := by decide +kernel
theorem dX7_mark_76 : decode cX7_mark 76 = .ok (.iload_n 3, 1) := by decide +kernel
theorem dX7_mark_77 : decode cX7_mark 77 = .ok (.ldc 251, 2) := by decide +kernel
theorem dX7_mark_79 : decode cX7_mark 79 = .ok (.ldc 252, 2) := by decide +kernel
theorem dX7_mark_81 : decode cX7_mark 81 = .ok (.invokestatic 56, 3) := by decide +kernel
theorem dX7_mark_84 : decode cX7_mark 84 = .ok (.ifCond .ne 6, 3) := by decide +kernel
theorem dX7_mark_87 : decode cX7_mark 87 = .ok (.ldc 60, 2) := by decide +kernel
theorem dX7_mark_89 : decode cX7_mark 89 = .ok (.ireturn, 1) := by decide +kernel
theorem dX7_mark_90 : decode cX7_mark 90 = .ok (.aload 4, 2) := by decide +kernel
theorem dX7_mark_92 : decode cX7_mark 92 = .ok (.getfield 248, 3) := by decide +kernel
theorem dX7_mark_95 : decode cX7_mark 95 = .ok (.iload_n 2, 1) := by decide +kernel
theorem dX7_mark_96 : decode cX7_mark 96 = .ok (.iload_n 3, 1) := by decide +kernel
theorem dX7_mark_97 : decode cX7_mark 97 = .ok (.iastore, 1) := by decide +kernel
theorem dX7_mark_98 : decode cX7_mark 98 = .ok (.iconst 1, 1) := by decide +kernel
theorem dX7_mark_99 : decode cX7_mark 99 = .ok (.ireturn, 1) := by decide +kernel
theorem dX7_pour_0 : decode cX7_pour 0 = .ok (.iload_n 1, 1) := by decide +kernel
theorem dX7_pour_1 : decode cX7_pour 1 = .ok (.invokestatic 186, 3) := by decide +kernel
theorem dX7_pour_4 : decode cX7_pour 4 = .ok (.ifCond .ne 6, 3) := by decide +kernel
theorem dX7_pour_7 : decode cX7_pour 7 = .ok (.ldc 60, 2) := by decide +kernel
theorem dX7_pour_9 : decode cX7_pour 9 = .ok (.ireturn, 1) := by decide +kernel
theorem dX7_pour_10 : decode cX7_pour 10 = .ok (.aload_n 0, 1) := by decide +kernel
theorem dX7_pour_11 : decode cX7_pour 11 = .ok (.getfield 40, 3) := by decide +kernel
theorem dX7_pour_14 : decode cX7_pour 14 = .ok (.iload_n 1, 1) := by decide +kernel
theorem dX7_pour_15 : decode cX7_pour 15 = .ok (.aaload, 1) := by decide +kernel
theorem dX7_pour_16 : decode cX7_pour 16 = .ok (.astore_n 2, 1) := by decide +kernel
theorem dX7_pour_17 : decode cX7_pour 17 = .ok (.aload_n 2, 1) := by decide +kernel
theorem dX7_pour_18 : decode cX7_pour 18 = .ok (.getfield 189, 3) := by decide +kernel
theorem dX7_pour_21 : decode cX7_pour 21 = .ok (.iconst (-1), 1) := by decide +kernel
theorem dX7_pour_22 : decode cX7_pour 22 = .ok (.if_icmp .ne 6, 3) := by decide +kernel
theorem dX7_pour_25 : decode cX7_pour 25 = .ok (.ldc 192, 2) := by decide +kernel
theorem dX7_pour_27 : decode cX7_pour 27 = .ok (.ireturn, 1) := by decide +kernel
theorem dX7_pour_28 : decode cX7_pour 28 = .ok (.iconst 0, 1) := by decide +kernel
theorem dX7_pour_29 : decode cX7_pour 29 = .ok (.istore_n 3, 1) := by decide +kernel
theorem dX7_pour_30 : decode cX7_pour 30 = .ok (.iconst 0, 1) := by decide +kernel
theorem dX7_pour_31 : decode cX7_pour 31 = .ok (.istore 4, 2) := by decide +kernel
theorem dX7_pour_33 : decode cX7_pour 33 = .ok (.iload 4, 2) := by decide +kernel
theorem dX7_pour_35 : decode cX7_pour 35 = .ok (.bipush 8, 2) := by decide +kernel
theorem dX7_pour_37 : decode cX7_pour 37 = .ok (.if_icmp .ge 56, 3) := by decide +kernel
theorem dX7_pour_40 : decode cX7_pour 40 = .ok (.aload_n 2, 1) := by decide +kernel
theorem dX7_pour_41 : decode cX7_pour 41 = .ok (.iload 4, 2) := by decide +kernel
theorem dX7_pour_43 : decode cX7_pour 43 = .ok (.invokevirtual 253, 3) := by decide +kernel
theorem dX7_pour_46 : decode cX7_pour 46 = .ok (.ifCond .eq 41, 3) := by decide +kernel
theorem dX7_pour_49 : decode cX7_pour 49 = .ok (.aload_n 2, 1) := by decide +kernel
theorem dX7_pour_50 : decode cX7_pour 50 = .ok (.getfield 248, 3) := by decide +kernel
theorem dX7_pour_53 : decode cX7_pour 53 = .ok (.iload 4, 2) := by decide +kernel
theorem dX7_pour_55 : decode cX7_pour 55 = .ok (.iaload, 1) := by decide +kernel
theorem dX7_pour_56 : decode cX7_pour 56 = .ok (.bipush (-50), 2) := by decide +kernel
theorem dX7_pour_58 : decode cX7_pour 58 = .ok (.bipush 50, 2) := by decide +kernel
theorem dX7_pour_60 : decode cX7_pour 60 = .ok (.invokestatic 234, 3) := by decide +kernel
theorem dX7_pour_63 : decode cX7_pour 63 = .ok (.istore 5, 2) := by decide +kernel
theorem dX7_pour_65 : decode cX7_pour 65 = .ok (.aload_n 0, 1) := by decide +kernel
theorem dX7_pour_66 : decode cX7_pour 66 = .ok (.getfield 28, 3) := by decide +kernel
theorem dX7_pour_69 : decode cX7_pour 69 = .ok (.getfield 127, 3) := by decide +kernel
theorem dX7_pour_72 : decode cX7_pour 72 = .ok (.iload 4, 2) := by decide +kernel
theorem dX7_pour_74 : decode cX7_pour 74 = .ok (.iload 5, 2) := by decide +kernel
theorem dX7_pour_76 : decode cX7_pour 76 = .ok (.invokestatic 120, 3) := by decide +kernel
theorem dX7_pour_79 : decode cX7_pour 79 = .ok (.iload 5, 2) := by decide +kernel
theorem dX7_pour_81 : decode cX7_pour 81 = .ok (.if_icmp .eq 6, 3) := by decide +kernel
theorem dX7_pour_84 : decode cX7_pour 84 = .ok (.iinc 3 1, 3) := by decide +kernel
theorem dX7_pour_87 : decode cX7_pour 87 = .ok (.iinc 4 1, 3) := by decide +kernel
theorem dX7_pour_90 : decode cX7_pour 90 = .ok (.goto (-57), 3) := by decide +kernel
theorem dX7_pour_93 : decode cX7_pour 93 = .ok (.iload_n 3, 1) := by decide +kernel
theorem dX7_pour_94 : decode cX7_pour 94 = .ok (.ireturn, 1) := by decide +kernel
theorem dX7_reads_0 : decode cX7_reads 0 = .ok (.iload_n 1, 1) := by decide +kernel
theorem dX7_reads_1 : decode cX7_reads 1 = .ok (.invokestatic 186, 3) := by decide +kernel
theorem dX7_reads_4 : decode cX7_reads 4 = .ok (.ifCond .ne 6, 3) := by decide +kernel
theorem dX7_reads_7 : decode cX7_reads 7 = .ok (.ldc 60, 2) := by decide +kernel
theorem dX7_reads_9 : decode cX7_reads 9 = .ok (.ireturn, 1) := by decide +kernel
theorem dX7_reads_10 : decode cX7_reads 10 = .ok (.aload_n 0, 1) := by decide +kernel
theorem dX7_reads_11 : decode cX7_reads 11 = .ok (.getfield 40, 3) := by decide +kernel
theorem dX7_reads_14 : decode cX7_reads 14 = .ok (.iload_n 1, 1) := by decide +kernel
theorem dX7_reads_15 : decode cX7_reads 15 = .ok (.aaload, 1) := by decide +kernel
theorem dX7_reads_16 : decode cX7_reads 16 = .ok (.astore_n 2, 1) := by decide +kernel
theorem dX7_reads_17 : decode cX7_reads 17 = .ok (.aload_n 2, 1) := by decide +kernel
theorem dX7_reads_18 : decode cX7_reads 18 = .ok (.getfield 189, 3) := by decide +kernel
theorem dX7_reads_21 : decode cX7_reads 21 = .ok (.iconst (-1), 1) := by decide +kernel
theorem dX7_reads_22 : decode cX7_reads 22 = .ok (.if_icmp .ne 6, 3) := by decide +kernel
theorem dX7_reads_25 : decode cX7_reads 25 = .ok (.ldc 192, 2) := by decide +kernel
theorem dX7_reads_27 : decode cX7_reads 27 = .ok (.ireturn, 1) := by decide +kernel
theorem dX7_reads_28 : decode cX7_reads 28 = .ok (.iconst 0, 1) := by decide +kernel
theorem dX7_reads_29 : decode cX7_reads 29 = .ok (.istore_n 3, 1) := by decide +kernel
theorem dX7_reads_30 : decode cX7_reads 30 = .ok (.iload_n 3, 1) := by decide +kernel
theorem dX7_reads_31 : decode cX7_reads 31 = .ok (.aload_n 2, 1) := by decide +kernel
theorem dX7_reads_32 : decode cX7_reads 32 = .ok (.getfield 245, 3) := by decide +kernel
theorem dX7_reads_35 : decode cX7_reads 35 = .ok (.if_icmp .ge 47, 3) := by decide +kernel
theorem dX7_reads_38 : decode cX7_reads 38 = .ok (.aload_n 2, 1) := by decide +kernel
theorem dX7_reads_39 : decode cX7_reads 39 = .ok (.iload_n 3, 1) := by decide +kernel
theorem dX7_reads_40 : decode cX7_reads 40 = .ok (.invokevirtual 253, 3) := by decide +kernel
theorem dX7_reads_43 : decode cX7_reads 43 = .ok (.ifCond .eq 33, 3) := by decide +kernel
theorem dX7_reads_46 : decode cX7_reads 46 = .ok (.aload_n 0, 1) := by decide +kernel
theorem dX7_reads_47 : decode cX7_reads 47 = .ok (.getfield 28, 3) := by decide +kernel
theorem dX7_reads_50 : decode cX7_reads 50 = .ok (.iload_n 3, 1) := by decide +kernel
theorem dX7_reads_51 : decode cX7_reads 51 = .ok (.invokevirtual 70, 3) := by decide +kernel
theorem dX7_reads_54 : decode cX7_reads 54 = .ok (.ifCond .eq 20, 3) := by decide +kernel
theorem dX7_reads_57 : decode cX7_reads 57 = .ok (.aload_n 2, 1) := by decide +kernel
theorem dX7_reads_58 : decode cX7_reads 58 = .ok (.getfield 248, 3) := by decide +kernel
theorem dX7_reads_61 : decode cX7_reads 61 = .ok (.iload_n 3, 1) := by decide +kernel
theorem dX7_reads_62 : decode cX7_reads 62 = .ok (.iaload, 1) := by decide +kernel
theorem dX7_reads_63 : decode cX7_reads 63 = .ok (.aload_n 0, 1) := by decide +kernel
theorem dX7_reads_64 : decode cX7_reads 64 = .ok (.getfield 28, 3) := by decide +kernel
theorem dX7_reads_67 : decode cX7_reads 67 = .ok (.iload_n 3, 1) := by decide +kernel
theorem dX7_reads_68 : decode cX7_reads 68 = .ok (.invokevirtual 93, 3) := by decide +kernel
theorem dX7_reads_71 : decode cX7_reads 71 = .ok (.if_icmp .eq 5, 3) := by decide +kernel
theorem dX7_reads_74 : decode cX7_reads 74 = .ok (.iload_n 3, 1) := by decide +kernel
theorem dX7_reads_75 : decode cX7_reads 75 = .ok (.ireturn, 1) := by decide +kernel
theorem dX7_reads_76 : decode cX7_reads 76 = .ok (.iinc 3 1, 3) := by decide +kernel
theorem dX7_reads_79 : decode cX7_reads 79 = .ok (.goto (-49), 3) := by decide +kernel
theorem dX7_reads_82 : decode cX7_reads 82 = .ok (.ldc 109, 2) := by decide +kernel
theorem dX7_reads_84 : decode cX7_reads 84 = .ok (.ireturn, 1) := by decide +kernel
theorem dX7_copy_0 : decode cX7_copy 0 = .ok (.iload_n 1, 1) := by decide +kernel
theorem dX7_copy_1 : decode cX7_copy 1 = .ok (.invokestatic 186, 3) := by decide +kernel
theorem dX7_copy_4 : decode cX7_copy 4 = .ok (.ifCond .eq 10, 3) := by decide +kernel
theorem dX7_copy_7 : decode cX7_copy 7 = .ok (.iload_n 3, 1) := by decide +kernel
theorem dX7_copy_8 : decode cX7_copy 8 = .ok (.invokestatic 186, 3) := by decide +kernel
theorem dX7_copy_11 : decode cX7_copy 11 = .ok (.ifCond .ne 6, 3) := by decide +kernel
theorem dX7_copy_14 : decode cX7_copy 14 = .ok (.ldc 60, 2) := by decide +kernel
theorem dX7_copy_16 : decode cX7_copy 16 = .ok (.ireturn, 1) := by decide +kernel
theorem dX7_copy_17 : decode cX7_copy 17 = .ok (.aload_n 0, 1) := by decide +kernel
theorem dX7_copy_18 : decode cX7_copy 18 = .ok (.getfield 40, 3) := by decide +kernel
theorem dX7_copy_21 : decode cX7_copy 21 = .ok (.iload_n 1, 1) := by decide +kernel
theorem dX7_copy_22 : decode cX7_copy 22 = .ok (.aaload, 1) := by decide +kernel
theorem dX7_copy_23 : decode cX7_copy 23 = .ok (.astore 6, 2) := by decide +kernel
theorem dX7_copy_25 : decode cX7_copy 25 = .ok (.aload_n 0, 1) := by decide +kernel
theorem dX7_copy_26 : decode cX7_copy 26 = .ok (.getfield 40, 3) := by decide +kernel
theorem dX7_copy_29 : decode cX7_copy 29 = .ok (.iload_n 3, 1) := by decide +kernel
theorem dX7_copy_30 : decode cX7_copy 30 = .ok (.aaload, 1) := by decide +kernel
theorem dX7_copy_31 : decode cX7_copy 31 = .ok (.astore 7, 2) := by decide +kernel
theorem dX7_copy_33 : decode cX7_copy 33 = .ok (.aload 6, 2) := by decide +kernel
theorem dX7_copy_35 : decode cX7_copy 35 = .ok (.getfield 189, 3) := by decide +kernel
theorem dX7_copy_38 : decode cX7_copy 38 = .ok (.iconst (-1), 1) := by decide +kernel
theorem dX7_copy_39 : decode cX7_copy 39 = .ok (.if_icmp .eq 12, 3) := by decide +kernel
theorem dX7_copy_42 : decode cX7_copy 42 = .ok (.aload 7, 2) := by decide +kernel
theorem dX7_copy_44 : decode cX7_copy 44 = .ok (.getfield 189, 3) := by decide +kernel
theorem dX7_copy_47 : decode cX7_copy 47 = .ok (.iconst (-1), 1) := by decide +kernel
theorem dX7_copy_48 : decode cX7_copy 48 = .ok (.if_icmp .ne 6, 3) := by decide +kernel
theorem dX7_copy_51 : decode cX7_copy 51 = .ok (.ldc 192, 2) := by decide +kernel
theorem dX7_copy_53 : decode cX7_copy 53 = .ok (.ireturn, 1) := by decide +kernel
theorem dX7_copy_54 : decode cX7_copy 54 = .ok (.aload 6, 2) := by decide +kernel
theorem dX7_copy_56 : decode cX7_copy 56 = .ok (.getfield 189, 3) := by decide +kernel
theorem dX7_copy_59 : decode cX7_copy 59 = .ok (.aload 7, 2) := by decide +kernel
theorem dX7_copy_61 : decode cX7_copy 61 = .ok (.getfield 189, 3) := by decide +kernel
theorem dX7_copy_64 : decode cX7_copy 64 = .ok (.if_icmp .eq 6, 3) := by decide +kernel
theorem dX7_copy_67 : decode cX7_copy 67 = .ok (.ldc 119, 2) := by decide +kernel
theorem dX7_copy_69 : decode cX7_copy 69 = .ok (.ireturn, 1) := by decide +kernel
theorem dX7_copy_70 : decode cX7_copy 70 = .ok (.aload 6, 2) := by decide +kernel
theorem dX7_copy_72 : decode cX7_copy 72 = .ok (.iload_n 2, 1) := by decide +kernel
theorem dX7_copy_73 : decode cX7_copy 73 = .ok (.iload 5, 2) := by decide +kernel
theorem dX7_copy_75 : decode cX7_copy 75 = .ok (.invokevirtual 256, 3) := by decide +kernel
theorem dX7_copy_78 : decode cX7_copy 78 = .ok (.ifCond .eq 15, 3) := by decide +kernel
theorem dX7_copy_81 : decode cX7_copy 81 = .ok (.aload 7, 2) := by decide +kernel
theorem dX7_copy_83 : decode cX7_copy 83 = .ok (.iload 4, 2) := by decide +kernel
theorem dX7_copy_85 : decode cX7_copy 85 = .ok (.iload 5, 2) := by decide +kernel
theorem dX7_copy_87 : decode cX7_copy 87 = .ok (.invokevirtual 256, 3) := by decide +kernel
theorem dX7_copy_90 : decode cX7_copy 90 = .ok (.ifCond .ne 6, 3) := by decide +kernel
theorem dX7_copy_93 : decode cX7_copy 93 = .ok (.ldc 247, 2) := by decide +kernel
theorem dX7_copy_95 : decode cX7_copy 95 = .ok (.ireturn, 1) := by decide +kernel
theorem dX7_copy_96 : decode cX7_copy 96 = .ok (.aload 6, 2) := by decide +kernel
theorem dX7_copy_98 : decode cX7_copy 98 = .ok (.getfield 248, 3) := by decide +kernel
theorem dX7_copy_101 : decode cX7_copy 101 = .ok (.iload_n 2, 1) := by decide +kernel
theorem dX7_copy_102 : decode cX7_copy 102 = .ok (.aload 7, 2) := by decide +kernel
theorem dX7_copy_104 : decode cX7_copy 104 = .ok (.getfield 248, 3) := by decide +kernel
theorem dX7_copy_107 : decode cX7_copy 107 = .ok (.iload 4, 2) := by decide +kernel
theorem dX7_copy_109 : decode cX7_copy 109 = .ok (.iload 5, 2) := by decide +kernel
theorem dX7_copy_111 : decode cX7_copy 111 = .ok (.invokestatic 259, 3) := by decide +kernel
theorem dX7_copy_114 : decode cX7_copy 114 = .ok (.iload 5, 2) := by decide +kernel
theorem dX7_copy_116 : decode cX7_copy 116 = .ok (.ireturn, 1) := by decide +kernel
theorem dX7_lay_0 : decode cX7_lay 0 = .ok (.iload_n 1, 1) := by decide +kernel
theorem dX7_lay_1 : decode cX7_lay 1 = .ok (.invokestatic 265, 3) := by decide +kernel
theorem dX7_lay_4 : decode cX7_lay 4 = .ok (.ifCond .eq 12, 3) := by decide +kernel
theorem dX7_lay_7 : decode cX7_lay 7 = .ok (.iload_n 2, 1) := by decide +kernel
theorem dX7_lay_8 : decode cX7_lay 8 = .ok (.iconst 0, 1) := by decide +kernel
theorem dX7_lay_9 : decode cX7_lay 9 = .ok (.iconst 3, 1) := by decide +kernel
theorem dX7_lay_10 : decode cX7_lay 10 = .ok (.invokestatic 56, 3) := by decide +kernel
theorem dX7_lay_13 : decode cX7_lay 13 = .ok (.ifCond .ne 6, 3) := by decide +kernel
theorem dX7_lay_16 : decode cX7_lay 16 = .ok (.ldc 60, 2) := by decide +kernel
theorem dX7_lay_18 : decode cX7_lay 18 = .ok (.ireturn, 1) := by decide +kernel
theorem dX7_lay_19 : decode cX7_lay 19 = .ok (.iload_n 2, 1) := by decide +kernel
theorem dX7_lay_20 : decode cX7_lay 20 = .ok (.iconst 1, 1) := by decide +kernel
theorem dX7_lay_21 : decode cX7_lay 21 = .ok (.if_icmp .ne 14, 3) := by decide +kernel
theorem dX7_lay_24 : decode cX7_lay 24 = .ok (.aload_n 0, 1) := by decide +kernel
theorem dX7_lay_25 : decode cX7_lay 25 = .ok (.getfield 28, 3) := by decide +kernel
theorem dX7_lay_28 : decode cX7_lay 28 = .ok (.iload_n 3, 1) := by decide +kernel
theorem dX7_lay_29 : decode cX7_lay 29 = .ok (.invokevirtual 70, 3) := by decide +kernel
theorem dX7_lay_32 : decode cX7_lay 32 = .ok (.ifCond .eq 15, 3) := by decide +kernel
theorem dX7_lay_35 : decode cX7_lay 35 = .ok (.iload_n 2, 1) := by decide +kernel
theorem dX7_lay_36 : decode cX7_lay 36 = .ok (.iconst 2, 1) := by decide +kernel
theorem dX7_lay_37 : decode cX7_lay 37 = .ok (.if_icmp .ne 13, 3) := by decide +kernel
theorem dX7_lay_40 : decode cX7_lay 40 = .ok (.iload_n 3, 1) := by decide +kernel
theorem dX7_lay_41 : decode cX7_lay 41 = .ok (.invokestatic 186, 3) := by decide +kernel
theorem dX7_lay_44 : decode cX7_lay 44 = .ok (.ifCond .ne 6, 3) := by decide +kernel
theorem dX7_lay_47 : decode cX7_lay 47 = .ok (.ldc 60, 2) := by decide +kernel
theorem dX7_lay_49 : decode cX7_lay 49 = .ok (.ireturn, 1) := by decide +kernel
theorem dX7_lay_50 : decode cX7_lay 50 = .ok (.iload_n 2, 1) := by decide +kernel
theorem dX7_lay_51 : decode cX7_lay 51 = .ok (.iconst 2, 1) := by decide +kernel
theorem dX7_lay_52 : decode cX7_lay 52 = .ok (.if_icmp .ne 19, 3) := by decide +kernel
theorem dX7_lay_55 : decode cX7_lay 55 = .ok (.aload_n 0, 1) := by decide +kernel
theorem dX7_lay_56 : decode cX7_lay 56 = .ok (.getfield 40, 3) := by decide +kernel
theorem dX7_lay_59 : decode cX7_lay 59 = .ok (.iload_n 3, 1) := by decide +kernel
theorem dX7_lay_60 : decode cX7_lay 60 = .ok (.aaload, 1) := by decide +kernel
theorem dX7_lay_61 : decode cX7_lay 61 = .ok (.getfield 189, 3) := by decide +kernel
theorem dX7_lay_64 : decode cX7_lay 64 = .ok (.iconst (-1), 1) := by decide +kernel
theorem dX7_lay_65 : decode cX7_lay 65 = .ok (.if_icmp .ne 6, 3) := by decide +kernel
theorem dX7_lay_68 : decode cX7_lay 68 = .ok (.ldc 192, 2) := by decide +kernel
theorem dX7_lay_70 : decode cX7_lay 70 = .ok (.ireturn, 1) := by decide +kernel
theorem dX7_lay_71 : decode cX7_lay 71 = .ok (.aload_n 0, 1) := by decide +kernel
theorem dX7_lay_72 : decode cX7_lay 72 = .ok (.getfield 47, 3) := by decide +kernel
theorem dX7_lay_75 : decode cX7_lay 75 = .ok (.iload_n 1, 1) := by decide +kernel
theorem dX7_lay_76 : decode cX7_lay 76 = .ok (.aaload, 1) := by decide +kernel
theorem dX7_lay_77 : decode cX7_lay 77 = .ok (.astore 4, 2) := by decide +kernel
theorem dX7_lay_79 : decode cX7_lay 79 = .ok (.aload 4, 2) := by decide +kernel
theorem dX7_lay_81 : decode cX7_lay 81 = .ok (.getfield 268, 3) := by decide +kernel
theorem dX7_lay_84 : decode cX7_lay 84 = .ok (.istore 5, 2) := by decide +kernel
theorem dX7_lay_86 : decode cX7_lay 86 = .ok (.aload 4, 2) := by decide +kernel
theorem dX7_lay_88 : decode cX7_lay 88 = .ok (.iload_n 2, 1) := by decide +kernel
theorem dX7_lay_89 : decode cX7_lay 89 = .ok (.putfield 268, 3) := by decide +kernel
theorem dX7_lay_92 : decode cX7_lay 92 = .ok (.iload_n 2, 1) := by decide +kernel
theorem dX7_lay_93 : decode cX7_lay 93 = .ok (.iconst 1, 1) := by decide +kernel
theorem dX7_lay_94 : decode cX7_lay 94 = .ok (.if_icmp .ne 34, 3) := by decide +kernel
theorem dX7_lay_97 : decode cX7_lay 97 = .ok (.aload 4, 2) := by decide +kernel
theorem dX7_lay_99 : decode cX7_lay 99 = .ok (.aload_n 0, 1) := by decide +kernel
theorem dX7_lay_100 : decode cX7_lay 100 = .ok (.getfield 28, 3) := by decide +kernel
theorem dX7_lay_103 : decode cX7_lay 103 = .ok (.getfield 74, 3) := by decide +kernel
theorem dX7_lay_106 : decode cX7_lay 106 = .ok (.iload_n 3, 1) := by decide +kernel
theorem dX7_lay_107 : decode cX7_lay 107 = .ok (.iaload, 1) := by decide +kernel
theorem dX7_lay_108 : decode cX7_lay 108 = .ok (.putfield 271, 3) := by decide +kernel
theorem dX7_lay_111 : decode cX7_lay 111 = .ok (.aload 4, 2) := by decide +kernel
theorem dX7_lay_113 : decode cX7_lay 113 = .ok (.aload_n 0, 1) := by decide +kernel
theorem dX7_lay_114 : decode cX7_lay 114 = .ok (.getfield 28, 3) := by decide +kernel
theorem dX7_lay_117 : decode cX7_lay 117 = .ok (.getfield 83, 3) := by decide +kernel
theorem dX7_lay_120 : decode cX7_lay 120 = .ok (.iload_n 3, 1) := by decide +kernel
theorem dX7_lay_121 : decode cX7_lay 121 = .ok (.iaload, 1) := by decide +kernel
theorem dX7_lay_122 : decode cX7_lay 122 = .ok (.putfield 273, 3) := by decide +kernel
theorem dX7_lay_125 : decode cX7_lay 125 = .ok (.goto 31, 3) := by decide +kernel
theorem dX7_lay_128 : decode cX7_lay 128 = .ok (.iload_n 2, 1) := by decide +kernel
theorem dX7_lay_129 : decode cX7_lay 129 = .ok (.iconst 2, 1) := by decide +kernel
theorem dX7_lay_130 : decode cX7_lay 130 = .ok (.if_icmp .ne 20, 3) := by decide +kernel
theorem dX7_lay_133 : decode cX7_lay 133 = .ok (.aload 4, 2) := by decide +kernel
theorem dX7_lay_135 : decode cX7_lay 135 = .ok (.getfield 275, 3) := by decide +kernel
theorem dX7_lay_138 : decode cX7_lay 138 = .ok (.aload_n 0, 1) := by decide +kernel
theorem dX7_lay_139 : decode cX7_lay 139 = .ok (.getfield 40, 3) := by decide +kernel
theorem dX7_lay_142 : decode cX7_lay 142 = .ok (.iload_n 3, 1) := by decide +kernel
theorem dX7_lay_143 : decode cX7_lay 143 = .ok (.aaload, 1) := by decide +kernel
theorem dX7_lay_144 : decode cX7_lay 144 = .ok (.invokevirtual 279, 3) := by decide +kernel
theorem dX7_lay_147 : decode cX7_lay 147 = .ok (.goto 9, 3) := by decide +kernel
theorem dX7_lay_150 : decode cX7_lay 150 = .ok (.aload 4, 2) := by decide +kernel
theorem dX7_lay_152 : decode cX7_lay 152 = .ok (.iload_n 3, 1) := by decide +kernel
theorem dX7_lay_153 : decode cX7_lay 153 = .ok (.putfield 282, 3) := by decide +kernel
theorem dX7_lay_156 : decode cX7_lay 156 = .ok (.iload 5, 2) := by decide +kernel
theorem dX7_lay_158 : decode cX7_lay 158 = .ok (.ireturn, 1) := by decide +kernel
theorem dX7_ask_0 : decode cX7_ask 0 = .ok (.iload_n 1, 1) := by decide +kernel
theorem dX7_ask_1 : decode cX7_ask 1 = .ok (.invokestatic 265, 3) := by decide +kernel
theorem dX7_ask_4 : decode cX7_ask 4 = .ok (.ifCond .eq 12, 3) := by decide +kernel
theorem dX7_ask_7 : decode cX7_ask 7 = .ok (.iload_n 2, 1) := by decide +kernel
theorem dX7_ask_8 : decode cX7_ask 8 = .ok (.iconst 0, 1) := by decide +kernel
theorem dX7_ask_9 : decode cX7_ask 9 = .ok (.iconst 5, 1) := by decide +kernel
theorem dX7_ask_10 : decode cX7_ask 10 = .ok (.invokestatic 56, 3) := by decide +kernel
theorem dX7_ask_13 : decode cX7_ask 13 = .ok (.ifCond .ne 6, 3) := by decide +kernel
theorem dX7_ask_16 : decode cX7_ask 16 = .ok (.ldc 60, 2) := by decide +kernel
theorem dX7_ask_18 : decode cX7_ask 18 = .ok (.ireturn, 1) := by decide +kernel
theorem dX7_ask_19 : decode cX7_ask 19 = .ok (.aload_n 0, 1) := by decide +kernel
theorem dX7_ask_20 : decode cX7_ask 20 = .ok (.getfield 47, 3) := by decide +kernel
theorem dX7_ask_23 : decode cX7_ask 23 = .ok (.iload_n 1, 1) := by decide +kernel
theorem dX7_ask_24 : decode cX7_ask 24 = .ok (.aaload, 1) := by decide +kernel
theorem dX7_ask_25 : decode cX7_ask 25 = .ok (.astore_n 3, 1) := by decide +kernel
theorem dX7_ask_26 : decode cX7_ask 26 = .ok (.aload_n 3, 1) := by decide +kernel
theorem dX7_ask_27 : decode cX7_ask 27 = .ok (.getfield 268, 3) := by decide +kernel
theorem dX7_ask_30 : decode cX7_ask 30 = .ok (.ifCond .ne 6, 3) := by decide +kernel
theorem dX7_ask_33 : decode cX7_ask 33 = .ok (.ldc 192, 2) := by decide +kernel
theorem dX7_ask_35 : decode cX7_ask 35 = .ok (.ireturn, 1) := by decide +kernel
theorem dX7_ask_36 : decode cX7_ask 36 = .ok (.aload_n 3, 1) := by decide +kernel
theorem dX7_ask_37 : decode cX7_ask 37 = .ok (.getfield 268, 3) := by decide +kernel
theorem dX7_ask_40 : decode cX7_ask 40 = .ok (.iconst 1, 1) := by decide +kernel
theorem dX7_ask_41 : decode cX7_ask 41 = .ok (.if_icmp .ne 14, 3) := by decide +kernel
theorem dX7_ask_44 : decode cX7_ask 44 = .ok (.aload_n 3, 1) := by decide +kernel
theorem dX7_ask_45 : decode cX7_ask 45 = .ok (.getfield 271, 3) := by decide +kernel
theorem dX7_ask_48 : decode cX7_ask 48 = .ok (.iload_n 2, 1) := by decide +kernel
theorem dX7_ask_49 : decode cX7_ask 49 = .ok (.invokestatic 115, 3) := by decide +kernel
theorem dX7_ask_52 : decode cX7_ask 52 = .ok (.ifCond .ne 6, 3) := by decide +kernel
theorem dX7_ask_55 : decode cX7_ask 55 = .ok (.ldc 119, 2) := by decide +kernel
theorem dX7_ask_57 : decode cX7_ask 57 = .ok (.ireturn, 1) := by decide +kernel
theorem dX7_ask_58 : decode cX7_ask 58 = .ok (.aload_n 3, 1) := by decide +kernel
theorem dX7_ask_59 : decode cX7_ask 59 = .ok (.getfield 271, 3) := by decide +kernel
theorem dX7_ask_62 : decode cX7_ask 62 = .ok (.aload_n 3, 1) := by decide +kernel
theorem dX7_ask_63 : decode cX7_ask 63 = .ok (.getfield 273, 3) := by decide +kernel
theorem dX7_ask_66 : decode cX7_ask 66 = .ok (.invokestatic 99, 3) := by decide +kernel
theorem dX7_ask_69 : decode cX7_ask 69 = .ok (.ireturn, 1) := by decide +kernel
theorem dX7_item_0 : decode cX7_item 0 = .ok (.iload_n 1, 1) := by decide +kernel
theorem dX7_item_1 : decode cX7_item 1 = .ok (.invokestatic 265, 3) := by decide +kernel
theorem dX7_item_4 : decode cX7_item 4 = .ok (.ifCond .ne 6, 3) := by decide +kernel
theorem dX7_item_7 : decode cX7_item 7 = .ok (.ldc 60, 2) := by decide +kernel
theorem dX7_item_9 : decode cX7_item 9 = .ok (.ireturn, 1) := by decide +kernel
theorem dX7_item_10 : decode cX7_item 10 = .ok (.aload_n 0, 1) := by decide +kernel
theorem dX7_item_11 : decode cX7_item 11 = .ok (.getfield 47, 3) := by decide +kernel
theorem dX7_item_14 : decode cX7_item 14 = .ok (.iload_n 1, 1) := by decide +kernel
theorem dX7_item_15 : decode cX7_item 15 = .ok (.aaload, 1) := by decide +kernel
theorem dX7_item_16 : decode cX7_item 16 = .ok (.astore_n 3, 1) := by decide +kernel
theorem dX7_item_17 : decode cX7_item 17 = .ok (.aload_n 3, 1) := by decide +kernel
theorem dX7_item_18 : decode cX7_item 18 = .ok (.getfield 268, 3) := by decide +kernel
theorem dX7_item_21 : decode cX7_item 21 = .ok (.ifCond .ne 6, 3) := by decide +kernel
theorem dX7_item_24 : decode cX7_item 24 = .ok (.ldc 192, 2) := by decide +kernel
theorem dX7_item_26 : decode cX7_item 26 = .ok (.ireturn, 1) := by decide +kernel
theorem dX7_item_27 : decode cX7_item 27 = .ok (.aload_n 3, 1) := by decide +kernel
theorem dX7_item_28 : decode cX7_item 28 = .ok (.getfield 268, 3) := by decide +kernel
theorem dX7_item_31 : decode cX7_item 31 = .ok (.iconst 2, 1) := by decide +kernel
theorem dX7_item_32 : decode cX7_item 32 = .ok (.if_icmp .eq 6, 3) := by decide +kernel
theorem dX7_item_35 : decode cX7_item 35 = .ok (.ldc 119, 2) := by decide +kernel
theorem dX7_item_37 : decode cX7_item 37 = .ok (.ireturn, 1) := by decide +kernel
theorem dX7_item_38 : decode cX7_item 38 = .ok (.aload_n 3, 1) := by decide +kernel
theorem dX7_item_39 : decode cX7_item 39 = .ok (.getfield 275, 3) := by decide +kernel
theorem dX7_item_42 : decode cX7_item 42 = .ok (.iload_n 2, 1) := by decide +kernel
theorem dX7_item_43 : decode cX7_item 43 = .ok (.invokevirtual 246, 3) := by decide +kernel
theorem dX7_item_46 : decode cX7_item 46 = .ok (.ifCond .ne 6, 3) := by decide +kernel
theorem dX7_item_49 : decode cX7_item 49 = .ok (.ldc 247, 2) := by decide +kernel
theorem dX7_item_51 : decode cX7_item 51 = .ok (.ireturn, 1) := by decide +kernel
theorem dX7_item_52 : decode cX7_item 52 = .ok (.aload_n 3, 1) := by decide +kernel
theorem dX7_item_53 : decode cX7_item 53 = .ok (.getfield 275, 3) := by decide +kernel
theorem dX7_item_56 : decode cX7_item 56 = .ok (.iload_n 2, 1) := by decide +kernel
theorem dX7_item_57 : decode cX7_item 57 = .ok (.invokevirtual 253, 3) := by decide +kernel
theorem dX7_item_60 : decode cX7_item 60 = .ok (.ifCond .eq 15, 3) := by decide +kernel
theorem dX7_item_63 : decode cX7_item 63 = .ok (.aload_n 3, 1) := by decide +kernel
theorem dX7_item_64 : decode cX7_item 64 = .ok (.getfield 275, 3) := by decide +kernel
theorem dX7_item_67 : decode cX7_item 67 = .ok (.getfield 248, 3) := by decide +kernel
theorem dX7_item_70 : decode cX7_item 70 = .ok (.iload_n 2, 1) := by decide +kernel
theorem dX7_item_71 : decode cX7_item 71 = .ok (.iaload, 1) := by decide +kernel
theorem dX7_item_72 : decode cX7_item 72 = .ok (.goto 5, 3) := by decide +kernel
theorem dX7_item_75 : decode cX7_item 75 = .ok (.ldc 119, 2) := by decide +kernel
theorem dX7_item_77 : decode cX7_item 77 = .ok (.ireturn, 1) := by decide +kernel
theorem dX7_rest_0 : decode cX7_rest 0 = .ok (.iload_n 1, 1) := by decide +kernel
theorem dX7_rest_1 : decode cX7_rest 1 = .ok (.invokestatic 265, 3) := by decide +kernel
theorem dX7_rest_4 : decode cX7_rest 4 = .ok (.ifCond .ne 6, 3) := by decide +kernel
theorem dX7_rest_7 : decode cX7_rest 7 = .ok (.ldc 60, 2) := by decide +kernel
theorem dX7_rest_9 : decode cX7_rest 9 = .ok (.ireturn, 1) := by decide +kernel
theorem dX7_rest_10 : decode cX7_rest 10 = .ok (.aload_n 0, 1) := by decide +kernel
theorem dX7_rest_11 : decode cX7_rest 11 = .ok (.getfield 47, 3) := by decide +kernel
theorem dX7_rest_14 : decode cX7_rest 14 = .ok (.iload_n 1, 1) := by decide +kernel
theorem dX7_rest_15 : decode cX7_rest 15 = .ok (.aaload, 1) := by decide +kernel
theorem dX7_rest_16 : decode cX7_rest 16 = .ok (.astore_n 3, 1) := by decide +kernel
theorem dX7_rest_17 : decode cX7_rest 17 = .ok (.aload_n 3, 1) := by decide +kernel
theorem dX7_rest_18 : decode cX7_rest 18 = .ok (.getfield 268, 3) := by decide +kernel
theorem dX7_rest_21 : decode cX7_rest 21 = .ok (.ifCond .ne 6, 3) := by decide +kernel
theorem dX7_rest_24 : decode cX7_rest 24 = .ok (.ldc 192, 2) := by decide +kernel
theorem dX7_rest_26 : decode cX7_rest 26 = .ok (.ireturn, 1) := by decide +kernel
theorem dX7_rest_27 : decode cX7_rest 27 = .ok (.aload_n 3, 1) := by decide +kernel
theorem dX7_rest_28 : decode cX7_rest 28 = .ok (.getfield 268, 3) := by decide +kernel
theorem dX7_rest_31 : decode cX7_rest 31 = .ok (.iconst 3, 1) := by decide +kernel
theorem dX7_rest_32 : decode cX7_rest 32 = .ok (.if_icmp .eq 6, 3) := by decide +kernel
theorem dX7_rest_35 : decode cX7_rest 35 = .ok (.ldc 119, 2) := by decide +kernel
theorem dX7_rest_37 : decode cX7_rest 37 = .ok (.ireturn, 1) := by decide +kernel
theorem dX7_rest_38 : decode cX7_rest 38 = .ok (.iload_n 2, 1) := by decide +kernel
theorem dX7_rest_39 : decode cX7_rest 39 = .ok (.ifCond .ne 9, 3) := by decide +kernel
theorem dX7_rest_42 : decode cX7_rest 42 = .ok (.ldc_w 285, 3) := by decide +kernel
theorem dX7_rest_45 : decode cX7_rest 45 = .ok (.goto 9, 3) := by decide +kernel
theorem dX7_rest_48 : decode cX7_rest 48 = .ok (.aload_n 3, 1) := by decide +kernel
theorem dX7_rest_49 : decode cX7_rest 49 = .ok (.getfield 282, 3) := by decide +kernel
theorem dX7_rest_52 : decode cX7_rest 52 = .ok (.iload_n 2, 1) := by decide +kernel
theorem dX7_rest_53 : decode cX7_rest 53 = .ok (.irem, 1) := by decide +kernel
theorem dX7_rest_54 : decode cX7_rest 54 = .ok (.ireturn, 1) := by decide +kernel
theorem dX7_tell_0 : decode cX7_tell 0 = .ok (.aload_n 0, 1) := by decide +kernel
theorem dX7_tell_1 : decode cX7_tell 1 = .ok (.getfield 286, 3) := by decide +kernel
theorem dX7_tell_4 : decode cX7_tell 4 = .ok (.bipush 60, 2) := by decide +kernel
theorem dX7_tell_6 : decode cX7_tell 6 = .ok (.if_icmp .lt 6, 3) := by decide +kernel
theorem dX7_tell_9 : decode cX7_tell 9 = .ok (.ldc 65, 2) := by decide +kernel
theorem dX7_tell_11 : decode cX7_tell 11 = .ok (.ireturn, 1) := by decide +kernel
theorem dX7_tell_12 : decode cX7_tell 12 = .ok (.aload_n 0, 1) := by decide +kernel
theorem dX7_tell_13 : decode cX7_tell 13 = .ok (.getfield 52, 3) := by decide +kernel
theorem dX7_tell_16 : decode cX7_tell 16 = .ok (.aload_n 0, 1) := by decide +kernel
theorem dX7_tell_17 : decode cX7_tell 17 = .ok (.getfield 286, 3) := by decide +kernel
theorem dX7_tell_20 : decode cX7_tell 20 = .ok (.iload_n 1, 1) := by decide +kernel
theorem dX7_tell_21 : decode cX7_tell 21 = .ok (.iastore, 1) := by decide +kernel
theorem dX7_tell_22 : decode cX7_tell 22 = .ok (.aload_n 0, 1) := by decide +kernel
theorem dX7_tell_23 : decode cX7_tell 23 = .ok (.dup, 1) := by decide +kernel
theorem dX7_tell_24 : decode cX7_tell 24 = .ok (.getfield 286, 3) := by decide +kernel
theorem dX7_tell_27 : decode cX7_tell 27 = .ok (.iconst 1, 1) := by decide +kernel
theorem dX7_tell_28 : decode cX7_tell 28 = .ok (.iadd, 1) := by decide +kernel
theorem dX7_tell_29 : decode cX7_tell 29 = .ok (.putfield 286, 3) := by decide +kernel
theorem dX7_tell_32 : decode cX7_tell 32 = .ok (.aload_n 0, 1) := by decide +kernel
theorem dX7_tell_33 : decode cX7_tell 33 = .ok (.getfield 286, 3) := by decide +kernel
theorem dX7_tell_36 : decode cX7_tell 36 = .ok (.ireturn, 1) := by decide +kernel
theorem dX7_check_0 : decode cX7_check 0 = .ok (.aload_n 0, 1) := by decide +kernel
theorem dX7_check_1 : decode cX7_check 1 = .ok (.getfield 286, 3) := by decide +kernel
theorem dX7_check_4 : decode cX7_check 4 = .ok (.istore_n 2, 1) := by decide +kernel
theorem dX7_check_5 : decode cX7_check 5 = .ok (.aload_n 0, 1) := by decide +kernel
theorem dX7_check_6 : decode cX7_check 6 = .ok (.iconst 0, 1) := by decide +kernel
theorem dX7_check_7 : decode cX7_check 7 = .ok (.putfield 286, 3) := by decide +kernel
theorem dX7_check_10 : decode cX7_check 10 = .ok (.iload_n 1, 1) := by decide +kernel
theorem dX7_check_11 : decode cX7_check 11 = .ok (.iconst 1, 1) := by decide +kernel
theorem dX7_check_12 : decode cX7_check 12 = .ok (.bipush 30, 2) := by decide +kernel
theorem dX7_check_14 : decode cX7_check 14 = .ok (.invokestatic 56, 3) := by decide +kernel
theorem dX7_check_17 : decode cX7_check 17 = .ok (.ifCond .ne 6, 3) := by decide +kernel
theorem dX7_check_20 : decode cX7_check 20 = .ok (.ldc 60, 2) := by decide +kernel
theorem dX7_check_22 : decode cX7_check 22 = .ok (.ireturn, 1) := by decide +kernel
theorem dX7_check_23 : decode cX7_check 23 = .ok (.aload_n 0, 1) := by decide +kernel
theorem dX7_check_24 : decode cX7_check 24 = .ok (.getfield 289, 3) := by decide +kernel
theorem dX7_check_27 : decode cX7_check 27 = .ok (.ifCond .ne 7, 3) := by decide +kernel
theorem dX7_check_30 : decode cX7_check 30 = .ok (.ldc_w 285, 3) := by decide +kernel
theorem dX7_check_33 : decode cX7_check 33 = .ok (.ireturn, 1) := by decide +kernel
theorem dX7_check_34 : decode cX7_check 34 = .ok (.aload_n 0, 1) := by decide +kernel
theorem dX7_check_35 : decode cX7_check 35 = .ok (.getfield 35, 3) := by decide +kernel
theorem dX7_check_38 : decode cX7_check 38 = .ok (.aload_n 0, 1) := by decide +kernel
theorem dX7_check_39 : decode cX7_check 39 = .ok (.getfield 32, 3) := by decide +kernel
theorem dX7_check_42 : decode cX7_check 42 = .ok (.invokevirtual 179, 3) := by decide +kernel
theorem dX7_check_45 : decode cX7_check 45 = .ok (.iconst 2, 1) := by decide +kernel
theorem dX7_check_46 : decode cX7_check 46 = .ok (.iload_n 1, 1) := by decide +kernel
theorem dX7_check_47 : decode cX7_check 47 = .ok (.sipush 9999, 3) := by decide +kernel
theorem dX7_check_50 : decode cX7_check 50 = .ok (.aload_n 0, 1) := by decide +kernel
theorem dX7_check_51 : decode cX7_check 51 = .ok (.getfield 32, 3) := by decide +kernel
theorem dX7_check_54 : decode cX7_check 54 = .ok (.getfield 153, 3) := by decide +kernel
theorem dX7_check_57 : decode cX7_check 57 = .ok (.isub, 1) := by decide +kernel
theorem dX7_check_58 : decode cX7_check 58 = .ok (.invokestatic 139, 3) := by decide +kernel
theorem dX7_check_61 : decode cX7_check 61 = .ok (.imul, 1) := by decide +kernel
theorem dX7_check_62 : decode cX7_check 62 = .ok (.istore_n 3, 1) := by decide +kernel
theorem dX7_check_63 : decode cX7_check 63 = .ok (.iconst 0, 1) := by decide +kernel
theorem dX7_check_64 : decode cX7_check 64 = .ok (.istore 4, 2) := by decide +kernel
theorem dX7_check_66 : decode cX7_check 66 = .ok (.iload 4, 2) := by decide +kernel
theorem dX7_check_68 : decode cX7_check 68 = .ok (.iload_n 3, 1) := by decide +kernel
theorem dX7_check_69 : decode cX7_check 69 = .ok (.if_icmp .ge 64, 3) := by decide +kernel
theorem dX7_check_72 : decode cX7_check 72 = .ok (.aload_n 0, 1) := by decide +kernel
theorem dX7_check_73 : decode cX7_check 73 = .ok (.getfield 35, 3) := by decide +kernel
theorem dX7_check_76 : decode cX7_check 76 = .ok (.iconst (-1), 1) := by decide +kernel
theorem dX7_check_77 : decode cX7_check 77 = .ok (.invokevirtual 183, 3) := by decide +kernel
theorem dX7_check_80 : decode cX7_check 80 = .ok (.pop, 1) := by decide +kernel
theorem dX7_check_81 : decode cX7_check 81 = .ok (.aload_n 0, 1) := by decide +kernel
theorem dX7_check_82 : decode cX7_check 82 = .ok (.iload_n 2, 1) := by decide +kernel
theorem dX7_check_83 : decode cX7_check 83 = .ok (.iload 4, 2) := by decide +kernel
theorem dX7_check_85 : decode cX7_check 85 = .ok (.aload_n 0, 1) := by decide +kernel
theorem dX7_check_86 : decode cX7_check 86 = .ok (.getfield 35, 3) := by decide +kernel
theorem dX7_check_89 : decode cX7_check 89 = .ok (.invokevirtual 169, 3) := by decide +kernel
theorem dX7_check_92 : decode cX7_check 92 = .ok (.invokevirtual 293, 3) := by decide +kernel
theorem dX7_check_95 : decode cX7_check 95 = .ok (.ifCond .ne 8, 3) := by decide +kernel
theorem dX7_check_98 : decode cX7_check 98 = .ok (.iconst 1, 1) := by decide +kernel
theorem dX7_check_99 : decode cX7_check 99 = .ok (.iload 4, 2) := by decide +kernel
theorem dX7_check_101 : decode cX7_check 101 = .ok (.iadd, 1) := by decide +kernel
theorem dX7_check_102 : decode cX7_check 102 = .ok (.ireturn, 1) := by decide +kernel
theorem dX7_check_103 : decode cX7_check 103 = .ok (.aload_n 0, 1) := by decide +kernel
theorem dX7_check_104 : decode cX7_check 104 = .ok (.iload_n 2, 1) := by decide +kernel
theorem dX7_check_105 : decode cX7_check 105 = .ok (.iload 4, 2) := by decide +kernel
theorem dX7_check_107 : decode cX7_check 107 = .ok (.iconst 1, 1) := by decide +kernel
theorem dX7_check_108 : decode cX7_check 108 = .ok (.iadd, 1) := by decide +kernel
theorem dX7_check_109 : decode cX7_check 109 = .ok (.aload_n 0, 1) := by decide +kernel
theorem dX7_check_110 : decode cX7_check 110 = .ok (.getfield 35, 3) := by decide +kernel
theorem dX7_check_113 : decode cX7_check 113 = .ok (.invokevirtual 163, 3) := by decide +kernel
theorem dX7_check_116 : decode cX7_check 116 = .ok (.invokevirtual 293, 3) := by decide +kernel
theorem dX7_check_119 : decode cX7_check 119 = .ok (.ifCond .ne 8, 3) := by decide +kernel
theorem dX7_check_122 : decode cX7_check 122 = .ok (.iconst 2, 1) := by decide +kernel
theorem dX7_check_123 : decode cX7_check 123 = .ok (.iload 4, 2) := by decide +kernel
theorem dX7_check_125 : decode cX7_check 125 = .ok (.iadd, 1) := by decide +kernel
theorem dX7_check_126 : decode cX7_check 126 = .ok (.ireturn, 1) := by decide +kernel
theorem dX7_check_127 : decode cX7_check 127 = .ok (.iinc 4 2, 3) := by decide +kernel
theorem dX7_check_130 : decode cX7_check 130 = .ok (.goto (-64), 3) := by decide +kernel
theorem dX7_check_133 : decode cX7_check 133 = .ok (.iload_n 2, 1) := by decide +kernel
theorem dX7_check_134 : decode cX7_check 134 = .ok (.iload_n 3, 1) := by decide +kernel
theorem dX7_check_135 : decode cX7_check 135 = .ok (.if_icmp .le 9, 3) := by decide +kernel
theorem dX7_check_138 : decode cX7_check 138 = .ok (.iconst 1, 1) := by decide +kernel
theorem dX7_check_139 : decode cX7_check 139 = .ok (.iload_n 3, 1) := by decide +kernel
theorem dX7_check_140 : decode cX7_check 140 = .ok (.iadd, 1) := by decide +kernel
theorem dX7_check_141 : decode cX7_check 141 = .ok (.goto 4, 3) := by decide +kernel
theorem dX7_check_144 : decode cX7_check 144 = .ok (.iconst 0, 1) := by decide +kernel
theorem dX7_check_145 : decode cX7_check 145 = .ok (.ireturn, 1) := by decide +kernel
theorem dX7_keep_0 : decode cX7_keep 0 = .ok (.aload_n 0, 1) := by decide +kernel
theorem dX7_keep_1 : decode cX7_keep 1 = .ok (.getfield 32, 3) := by decide +kernel
theorem dX7_keep_4 : decode cX7_keep 4 = .ok (.aload_n 0, 1) := by decide +kernel
theorem dX7_keep_5 : decode cX7_keep 5 = .ok (.getfield 28, 3) := by decide +kernel
theorem dX7_keep_8 : decode cX7_keep 8 = .ok (.invokevirtual 179, 3) := by decide +kernel
theorem dX7_keep_11 : decode cX7_keep 11 = .ok (.aload_n 0, 1) := by decide +kernel
theorem dX7_keep_12 : decode cX7_keep 12 = .ok (.iconst 1, 1) := by decide +kernel
theorem dX7_keep_13 : decode cX7_keep 13 = .ok (.putfield 289, 3) := by decide +kernel
theorem dX7_keep_16 : decode cX7_keep 16 = .ok (.aload_n 0, 1) := by decide +kernel
theorem dX7_keep_17 : decode cX7_keep 17 = .ok (.getfield 28, 3) := by decide +kernel
theorem dX7_keep_20 : decode cX7_keep 20 = .ok (.getfield 61, 3) := by decide +kernel
theorem dX7_keep_23 : decode cX7_keep 23 = .ok (.ireturn, 1) := by decide +kernel
theorem dX7_back_0 : decode cX7_back 0 = .ok (.aload_n 0, 1) := by decide +kernel
theorem dX7_back_1 : decode cX7_back 1 = .ok (.getfield 289, 3) := by decide +kernel
theorem dX7_back_4 : decode cX7_back 4 = .ok (.ifCond .ne 7, 3) := by decide +kernel
theorem dX7_back_7 : decode cX7_back 7 = .ok (.ldc_w 285, 3) := by decide +kernel
theorem dX7_back_10 : decode cX7_back 10 = .ok (.ireturn, 1) := by decide +kernel
theorem dX7_back_11 : decode cX7_back 11 = .ok (.aload_n 0, 1) := by decide +kernel
theorem dX7_back_12 : decode cX7_back 12 = .ok (.getfield 28, 3) := by decide +kernel
theorem dX7_back_15 : decode cX7_back 15 = .ok (.aload_n 0, 1) := by decide +kernel
theorem dX7_back_16 : decode cX7_back 16 = .ok (.getfield 32, 3) := by decide +kernel
theorem dX7_back_19 : decode cX7_back 19 = .ok (.invokevirtual 179, 3) := by decide +kernel
theorem dX7_back_22 : decode cX7_back 22 = .ok (.aload_n 0, 1) := by decide +kernel
theorem dX7_back_23 : decode cX7_back 23 = .ok (.getfield 28, 3) := by decide +kernel
theorem dX7_back_26 : decode cX7_back 26 = .ok (.getfield 61, 3) := by decide +kernel
theorem dX7_back_29 : decode cX7_back 29 = .ok (.ireturn, 1) := by decide +kernel
theorem dX7_count_0 : decode cX7_count 0 = .ok (.iload_n 1, 1) := by decide +kernel
theorem dX7_count_1 : decode cX7_count 1 = .ok (.tableswitch 132 0 9 #[55, 63, 71, 79, 87, 95, 103, 111, 116, 124], 55) := by decide +kernel
theorem dX7_count_56 : decode cX7_count 56 = .ok (.aload_n 0, 1) := by decide +kernel
theorem dX7_count_57 : decode cX7_count 57 = .ok (.getfield 28, 3) := by decide +kernel
theorem dX7_count_60 : decode cX7_count 60 = .ok (.getfield 61, 3) := by decide +kernel
theorem dX7_count_63 : decode cX7_count 63 = .ok (.ireturn, 1) := by decide +kernel
theorem dX7_count_64 : decode cX7_count 64 = .ok (.aload_n 0, 1) := by decide +kernel
theorem dX7_count_65 : decode cX7_count 65 = .ok (.getfield 28, 3) := by decide +kernel
theorem dX7_count_68 : decode cX7_count 68 = .ok (.getfield 153, 3) := by decide +kernel
theorem dX7_count_71 : decode cX7_count 71 = .ok (.ireturn, 1) := by decide +kernel
theorem dX7_count_72 : decode cX7_count 72 = .ok (.aload_n 0, 1) := by decide +kernel
theorem dX7_count_73 : decode cX7_count 73 = .ok (.getfield 28, 3) := by decide +kernel
theorem dX7_count_76 : decode cX7_count 76 = .ok (.getfield 130, 3) := by decide +kernel
theorem dX7_count_79 : decode cX7_count 79 = .ok (.ireturn, 1) := by decide +kernel
theorem dX7_count_80 : decode cX7_count 80 = .ok (.aload_n 0, 1) := by decide +kernel
theorem dX7_count_81 : decode cX7_count 81 = .ok (.getfield 28, 3) := by decide +kernel
theorem dX7_count_84 : decode cX7_count 84 = .ok (.getfield 133, 3) := by decide +kernel
theorem dX7_count_87 : decode cX7_count 87 = .ok (.ireturn, 1) := by decide +kernel
theorem dX7_count_88 : decode cX7_count 88 = .ok (.aload_n 0, 1) := by decide +kernel
theorem dX7_count_89 : decode cX7_count 89 = .ok (.getfield 28, 3) := by decide +kernel
theorem dX7_count_92 : decode cX7_count 92 = .ok (.getfield 136, 3) := by decide +kernel
theorem dX7_count_95 : decode cX7_count 95 = .ok (.ireturn, 1) := by decide +kernel
theorem dX7_count_96 : decode cX7_count 96 = .ok (.aload_n 0, 1) := by decide +kernel
theorem dX7_count_97 : decode cX7_count 97 = .ok (.getfield 28, 3) := by decide +kernel
theorem dX7_count_100 : decode cX7_count 100 = .ok (.invokevirtual 163, 3) := by decide +kernel
theorem dX7_count_103 : decode cX7_count 103 = .ok (.ireturn, 1) := by decide +kernel
theorem dX7_count_104 : decode cX7_count 104 = .ok (.aload_n 0, 1) := by decide +kernel
theorem dX7_count_105 : decode cX7_count 105 = .ok (.getfield 28, 3) := by decide +kernel
theorem dX7_count_108 : decode cX7_count 108 = .ok (.getfield 215, 3) := by decide +kernel
theorem dX7_count_111 : decode cX7_count 111 = .ok (.ireturn, 1) := by decide +kernel
theorem dX7_count_112 : decode cX7_count 112 = .ok (.aload_n 0, 1) := by decide +kernel
theorem dX7_count_113 : decode cX7_count 113 = .ok (.getfield 286, 3) := by decide +kernel
theorem dX7_count_116 : decode cX7_count 116 = .ok (.ireturn, 1) := by decide +kernel
theorem dX7_count_117 : decode cX7_count 117 = .ok (.aload_n 0, 1) := by decide +kernel
theorem dX7_count_118 : decode cX7_count 118 = .ok (.getfield 19, 3) := by decide +kernel
theorem dX7_count_121 : decode cX7_count 121 = .ok (.getfield 205, 3) := by decide +kernel
theorem dX7_count_124 : decode cX7_count 124 = .ok (.ireturn, 1) := by decide +kernel
theorem dX7_count_125 : decode cX7_count 125 = .ok (.aload_n 0, 1) := by decide +kernel
theorem dX7_count_126 : decode cX7_count 126 = .ok (.getfield 28, 3) := by decide +kernel
theorem dX7_count_129 : decode cX7_count 129 = .ok (.getfield 147, 3) := by decide +kernel
theorem dX7_count_132 : decode cX7_count 132 = .ok (.ireturn, 1) := by decide +kernel
theorem dX7_count_133 : decode cX7_count 133 = .ok (.ldc 60, 2) := by decide +kernel
theorem dX7_count_135 : decode cX7_count 135 = .ok (.ireturn, 1) := by decide +kernel
theorem dX7_think_0 : decode cX7_think 0 = .ok (.aload_n 0, 1) := by decide +kernel
theorem dX7_think_1 : decode cX7_think 1 = .ok (.getfield 35, 3) := by decide +kernel
theorem dX7_think_4 : decode cX7_think 4 = .ok (.aload_n 0, 1) := by decide +kernel
theorem dX7_think_5 : decode cX7_think 5 = .ok (.getfield 28, 3) := by decide +kernel
theorem dX7_think_8 : decode cX7_think 8 = .ok (.invokevirtual 179, 3) := by decide +kernel
theorem dX7_think_11 : decode cX7_think 11 = .ok (.aload_n 0, 1) := by decide +kernel
theorem dX7_think_12 : decode cX7_think 12 = .ok (.getfield 35, 3) := by decide +kernel
theorem dX7_think_15 : decode cX7_think 15 = .ok (.iload_n 1, 1) := by decide +kernel
theorem dX7_think_16 : decode cX7_think 16 = .ok (.iload_n 2, 1) := by decide +kernel
theorem dX7_think_17 : decode cX7_think 17 = .ok (.invokevirtual 156, 3) := by decide +kernel
theorem dX7_think_20 : decode cX7_think 20 = .ok (.pop, 1) := by decide +kernel
theorem dX7_think_21 : decode cX7_think 21 = .ok (.return_, 1) := by decide +kernel
theorem dX7_isSaid_0 : decode cX7_isSaid 0 = .ok (.iload_n 2, 1) := by decide +kernel
theorem dX7_isSaid_1 : decode cX7_isSaid 1 = .ok (.iload_n 1, 1) := by decide +kernel
theorem dX7_isSaid_2 : decode cX7_isSaid 2 = .ok (.if_icmp .ge 23, 3) := by decide +kernel
theorem dX7_isSaid_5 : decode cX7_isSaid 5 = .ok (.iload_n 2, 1) := by decide +kernel
theorem dX7_isSaid_6 : decode cX7_isSaid 6 = .ok (.bipush 60, 2) := by decide +kernel
theorem dX7_isSaid_8 : decode cX7_isSaid 8 = .ok (.if_icmp .ge 17, 3) := by decide +kernel
theorem dX7_isSaid_11 : decode cX7_isSaid 11 = .ok (.aload_n 0, 1) := by decide +kernel
theorem dX7_isSaid_12 : decode cX7_isSaid 12 = .ok (.getfield 52, 3) := by decide +kernel
theorem dX7_isSaid_15 : decode cX7_isSaid 15 = .ok (.iload_n 2, 1) := by decide +kernel
theorem dX7_isSaid_16 : decode cX7_isSaid 16 = .ok (.iaload, 1) := by decide +kernel
theorem dX7_isSaid_17 : decode cX7_isSaid 17 = .ok (.iload_n 3, 1) := by decide +kernel
theorem dX7_isSaid_18 : decode cX7_isSaid 18 = .ok (.if_icmp .ne 7, 3) := by decide +kernel
theorem dX7_isSaid_21 : decode cX7_isSaid 21 = .ok (.iconst 1, 1) := by decide +kernel
theorem dX7_isSaid_22 : decode cX7_isSaid 22 = .ok (.goto 4, 3) := by decide +kernel
theorem dX7_isSaid_25 : decode cX7_isSaid 25 = .ok (.iconst 0, 1) := by decide +kernel
theorem dX7_isSaid_26 : decode cX7_isSaid 26 = .ok (.ireturn, 1) := by decide +kernel
theorem dX7_apart_0 : decode cX7_apart 0 = .ok (.iconst 0, 1) := by decide +kernel
theorem dX7_apart_1 : decode cX7_apart 1 = .ok (.istore_n 2, 1) := by decide +kernel
theorem dX7_apart_2 : decode cX7_apart 2 = .ok (.iconst 0, 1) := by decide +kernel
theorem dX7_apart_3 : decode cX7_apart 3 = .ok (.istore_n 3, 1) := by decide +kernel
theorem dX7_apart_4 : decode cX7_apart 4 = .ok (.iload_n 3, 1) := by decide +kernel
theorem dX7_apart_5 : decode cX7_apart 5 = .ok (.aload_n 1, 1) := by decide +kernel
theorem dX7_apart_6 : decode cX7_apart 6 = .ok (.getfield 245, 3) := by decide +kernel
theorem dX7_apart_9 : decode cX7_apart 9 = .ok (.if_icmp .ge 51, 3) := by decide +kernel
theorem dX7_apart_12 : decode cX7_apart 12 = .ok (.aload_n 1, 1) := by decide +kernel
theorem dX7_apart_13 : decode cX7_apart 13 = .ok (.iload_n 3, 1) := by decide +kernel
theorem dX7_apart_14 : decode cX7_apart 14 = .ok (.invokevirtual 253, 3) := by decide +kernel
theorem dX7_apart_17 : decode cX7_apart 17 = .ok (.ifCond .eq 37, 3) := by decide +kernel
theorem dX7_apart_20 : decode cX7_apart 20 = .ok (.aload_n 0, 1) := by decide +kernel
theorem dX7_apart_21 : decode cX7_apart 21 = .ok (.iload_n 3, 1) := by decide +kernel
theorem dX7_apart_22 : decode cX7_apart 22 = .ok (.invokevirtual 70, 3) := by decide +kernel
theorem dX7_apart_25 : decode cX7_apart 25 = .ok (.ifCond .eq 11, 3) := by decide +kernel
theorem dX7_apart_28 : decode cX7_apart 28 = .ok (.aload_n 0, 1) := by decide +kernel
theorem dX7_apart_29 : decode cX7_apart 29 = .ok (.iload_n 3, 1) := by decide +kernel
theorem dX7_apart_30 : decode cX7_apart 30 = .ok (.invokevirtual 89, 3) := by decide +kernel
theorem dX7_apart_33 : decode cX7_apart 33 = .ok (.goto 4, 3) := by decide +kernel
theorem dX7_apart_36 : decode cX7_apart 36 = .ok (.iconst 0, 1) := by decide +kernel
theorem dX7_apart_37 : decode cX7_apart 37 = .ok (.istore 4, 2) := by decide +kernel
theorem dX7_apart_39 : decode cX7_apart 39 = .ok (.iload_n 2, 1) := by decide +kernel
theorem dX7_apart_40 : decode cX7_apart 40 = .ok (.iload 4, 2) := by decide +kernel
theorem dX7_apart_42 : decode cX7_apart 42 = .ok (.aload_n 1, 1) := by decide +kernel
theorem dX7_apart_43 : decode cX7_apart 43 = .ok (.getfield 248, 3) := by decide +kernel
theorem dX7_apart_46 : decode cX7_apart 46 = .ok (.iload_n 3, 1) := by decide +kernel
theorem dX7_apart_47 : decode cX7_apart 47 = .ok (.iaload, 1) := by decide +kernel
theorem dX7_apart_48 : decode cX7_apart 48 = .ok (.isub, 1) := by decide +kernel
theorem dX7_apart_49 : decode cX7_apart 49 = .ok (.invokestatic 296, 3) := by decide +kernel
theorem dX7_apart_52 : decode cX7_apart 52 = .ok (.iadd, 1) := by decide +kernel
theorem dX7_apart_53 : decode cX7_apart 53 = .ok (.istore_n 2, 1) := by decide +kernel
theorem dX7_apart_54 : decode cX7_apart 54 = .ok (.iinc 3 1, 3) := by decide +kernel
theorem dX7_apart_57 : decode cX7_apart 57 = .ok (.goto (-53), 3) := by decide +kernel
theorem dX7_apart_60 : decode cX7_apart 60 = .ok (.iload_n 2, 1) := by decide +kernel
theorem dX7_apart_61 : decode cX7_apart 61 = .ok (.ireturn, 1) := by decide +kernel
theorem dX7_isFact_0 : decode cX7_isFact 0 = .ok (.iload_n 0, 1) := by decide +kernel
theorem dX7_isFact_1 : decode cX7_isFact 1 = .ok (.iconst 0, 1) := by decide +kernel
theorem dX7_isFact_2 : decode cX7_isFact 2 = .ok (.bipush 7, 2) := by decide +kernel
theorem dX7_isFact_4 : decode cX7_isFact 4 = .ok (.invokestatic 56, 3) := by decide +kernel
theorem dX7_isFact_7 : decode cX7_isFact 7 = .ok (.ireturn, 1) := by decide +kernel
theorem dX7_isSheet_0 : decode cX7_isSheet 0 = .ok (.iload_n 0, 1) := by decide +kernel
theorem dX7_isSheet_1 : decode cX7_isSheet 1 = .ok (.iconst 0, 1) := by decide +kernel
theorem dX7_isSheet_2 : decode cX7_isSheet 2 = .ok (.iconst 3, 1) := by decide +kernel
theorem dX7_isSheet_3 : decode cX7_isSheet 3 = .ok (.invokestatic 56, 3) := by decide +kernel
theorem dX7_isSheet_6 : decode cX7_isSheet 6 = .ok (.ireturn, 1) := by decide +kernel
theorem dX7_isSlot_0 : decode cX7_isSlot 0 = .ok (.iload_n 0, 1) := by decide +kernel
theorem dX7_isSlot_1 : decode cX7_isSlot 1 = .ok (.iconst 0, 1) := by decide +kernel
theorem dX7_isSlot_2 : decode cX7_isSlot 2 = .ok (.iconst 4, 1) := by decide +kernel
theorem dX7_isSlot_3 : decode cX7_isSlot 3 = .ok (.invokestatic 56, 3) := by decide +kernel
theorem dX7_isSlot_6 : decode cX7_isSlot 6 = .ok (.ireturn, 1) := by decide +kernel
theorem dX7_within_0 : decode cX7_within 0 = .ok (.iload_n 0, 1) := by decide +kernel
theorem dX7_within_1 : decode cX7_within 1 = .ok (.iload_n 1, 1) := by decide +kernel
theorem dX7_within_2 : decode cX7_within 2 = .ok (.if_icmp .lt 12, 3) := by decide +kernel
theorem dX7_within_5 : decode cX7_within 5 = .ok (.iload_n 0, 1) := by decide +kernel
theorem dX7_within_6 : decode cX7_within 6 = .ok (.iload_n 2, 1) := by decide +kernel
theorem dX7_within_7 : decode cX7_within 7 = .ok (.if_icmp .gt 7, 3) := by decide +kernel
theorem dX7_within_10 : decode cX7_within 10 = .ok (.iconst 1, 1) := by decide +kernel
theorem dX7_within_11 : decode cX7_within 11 = .ok (.goto 4, 3) := by decide +kernel
theorem dX7_within_14 : decode cX7_within 14 = .ok (.iconst 0, 1) := by decide +kernel
theorem dX7_within_15 : decode cX7_within 15 = .ok (.ireturn, 1) := by decide +kernel
theorem dX7_held_0 : decode cX7_held 0 = .ok (.iload_n 1, 1) := by decide +kernel
theorem dX7_held_1 : decode cX7_held 1 = .ok (.iload_n 2, 1) := by decide +kernel
theorem dX7_held_2 : decode cX7_held 2 = .ok (.iload_n 0, 1) := by decide +kernel
theorem dX7_held_3 : decode cX7_held 3 = .ok (.invokestatic 139, 3) := by decide +kernel
theorem dX7_held_6 : decode cX7_held 6 = .ok (.invokestatic 299, 3) := by decide +kernel
theorem dX7_held_9 : decode cX7_held 9 = .ok (.ireturn, 1) := by decide +kernel
theorem dX7_exchange_0 : decode cX7_exchange 0 = .ok (.aload_n 0, 1) := by decide +kernel
theorem dX7_exchange_1 : decode cX7_exchange 1 = .ok (.iload_n 1, 1) := by decide +kernel
theorem dX7_exchange_2 : decode cX7_exchange 2 = .ok (.iaload, 1) := by decide +kernel
theorem dX7_exchange_3 : decode cX7_exchange 3 = .ok (.istore_n 3, 1) := by decide +kernel
theorem dX7_exchange_4 : decode cX7_exchange 4 = .ok (.aload_n 0, 1) := by decide +kernel
theorem dX7_exchange_5 : decode cX7_exchange 5 = .ok (.iload_n 1, 1) := by decide +kernel
theorem dX7_exchange_6 : decode cX7_exchange 6 = .ok (.iload_n 2, 1) := by decide +kernel
theorem dX7_exchange_7 : decode cX7_exchange 7 = .ok (.iastore, 1) := by decide +kernel
theorem dX7_exchange_8 : decode cX7_exchange 8 = .ok (.iload_n 3, 1) := by decide +kernel
theorem dX7_exchange_9 : decode cX7_exchange 9 = .ok (.ireturn, 1) := by decide +kernel
theorem dX8_init_0 : decode cX8_init 0 = .ok (.aload_n 0, 1) := by decide +kernel
theorem dX8_init_1 : decode cX8_init 1 = .ok (.invokespecial 1, 3) := by decide +kernel
theorem dX8_init_4 : decode cX8_init 4 = .ok (.aload_n 0, 1) := by decide +kernel
theorem dX8_init_5 : decode cX8_init 5 = .ok (.sipush 1438, 3) := by decide +kernel
theorem dX8_init_8 : decode cX8_init 8 = .ok (.newarray .int, 2) := by decide +kernel
theorem dX8_init_10 : decode cX8_init 10 = .ok (.putfield 9, 3) := by decide +kernel
theorem dX8_init_13 : decode cX8_init 13 = .ok (.aload_n 0, 1) := by decide +kernel
theorem dX8_init_14 : decode cX8_init 14 = .ok (.sipush 1438, 3) := by decide +kernel
theorem dX8_init_17 : decode cX8_init 17 = .ok (.newarray .int, 2) := by decide +kernel
theorem dX8_init_19 : decode cX8_init 19 = .ok (.putfield 13, 3) := by decide +kernel
theorem dX8_init_22 : decode cX8_init 22 = .ok (.aload_n 0, 1) := by decide +kernel
theorem dX8_init_23 : decode cX8_init 23 = .ok (.sipush 1438, 3) := by decide +kernel
theorem dX8_init_26 : decode cX8_init 26 = .ok (.newarray .int, 2) := by decide +kernel
theorem dX8_init_28 : decode cX8_init 28 = .ok (.putfield 16, 3) := by decide +kernel
theorem dX8_init_31 : decode cX8_init 31 = .ok (.aload_n 0, 1) := by decide +kernel
theorem dX8_init_32 : decode cX8_init 32 = .ok (.iconst (-1), 1) := by decide +kernel
theorem dX8_init_33 : decode cX8_init 33 = .ok (.putfield 19, 3) := by decide +kernel
theorem dX8_init_36 : decode cX8_init 36 = .ok (.aload_n 0, 1) := by decide +kernel
theorem dX8_init_37 : decode cX8_init 37 = .ok (.bipush 66, 2) := by decide +kernel
theorem dX8_init_39 : decode cX8_init 39 = .ok (.newarray .int, 2) := by decide +kernel
theorem dX8_init_41 : decode cX8_init 41 = .ok (.putfield 23, 3) := by decide +kernel
theorem dX8_init_44 : decode cX8_init 44 = .ok (.aload_n 0, 1) := by decide +kernel
theorem dX8_init_45 : decode cX8_init 45 = .ok (.bipush 96, 2) := by decide +kernel
theorem dX8_init_47 : decode cX8_init 47 = .ok (.newarray .int, 2) := by decide +kernel
theorem dX8_init_49 : decode cX8_init 49 = .ok (.putfield 26, 3) := by decide +kernel
theorem dX8_init_52 : decode cX8_init 52 = .ok (.aload_n 0, 1) := by decide +kernel
theorem dX8_init_53 : decode cX8_init 53 = .ok (.bipush 12, 2) := by decide +kernel
theorem dX8_init_55 : decode cX8_init 55 = .ok (.newarray .char, 2) := by decide +kernel
theorem dX8_init_57 : decode cX8_init 57 = .ok (.dup, 1) := by decide +kernel
theorem dX8_init_58 : decode cX8_init 58 = .ok (.iconst 0, 1) := by decide +kernel
theorem dX8_init_59 : decode cX8_init 59 = .ok (.bipush 116, 2) := by decide +kernel
theorem dX8_init_61 : decode cX8_init 61 = .ok (.castore, 1) := by decide +kernel
theorem dX8_init_62 : decode cX8_init 62 = .ok (.dup, 1) := by decide +kernel
theorem dX8_init_63 : decode cX8_init 63 = .ok (.iconst 1, 1) := by decide +kernel
theorem dX8_init_64 : decode cX8_init 64 = .ok (.bipush 114, 2) := by decide +kernel
theorem dX8_init_66 : decode cX8_init 66 = .ok (.castore, 1) := by decide +kernel
theorem dX8_init_67 : decode cX8_init 67 = .ok (.dup, 1) := by decide +kernel
theorem dX8_init_68 : decode cX8_init 68 = .ok (.iconst 2, 1) := by decide +kernel
theorem dX8_init_69 : decode cX8_init 69 = .ok (.bipush 117, 2) := by decide +kernel
theorem dX8_init_71 : decode cX8_init 71 = .ok (.castore, 1) := by decide +kernel
theorem dX8_init_72 : decode cX8_init 72 = .ok (.dup, 1) := by decide +kernel
theorem dX8_init_73 : decode cX8_init 73 = .ok (.iconst 3, 1) := by decide +kernel
theorem dX8_init_74 : decode cX8_init 74 = .ok (.bipush 115, 2) := by decide +kernel
theorem dX8_init_76 : decode cX8_init 76 = .ok (.castore, 1) := by decide +kernel
theorem dX8_init_77 : decode cX8_init 77 = .ok (.dup, 1) := by decide +kernel
theorem dX8_init_78 : decode cX8_init 78 = .ok (.iconst 4, 1) := by decide +kernel
theorem dX8_init_79 : decode cX8_init 79 = .ok (.bipush 116, 2) := by decide +kernel
theorem dX8_init_81 : decode cX8_init 81 = .ok (.castore, 1) := by decide +kernel
theorem dX8_init_82 : decode cX8_init 82 = .ok (.dup, 1) := by decide +kernel
theorem dX8_init_83 : decode cX8_init 83 = .ok (.iconst 5, 1) := by decide +kernel
theorem dX8_init_84 : decode cX8_init 84 = .ok (.bipush 102, 2) := by decide +kernel
theorem dX8_init_86 : decode cX8_init 86 = .ok (.castore, 1) := by decide +kernel
theorem dX8_init_87 : decode cX8_init 87 = .ok (.dup, 1) := by decide +kernel
theorem dX8_init_88 : decode cX8_init 88 = .ok (.bipush 6, 2) := by decide +kernel
theorem dX8_init_90 : decode cX8_init 90 = .ok (.bipush 101, 2) := by decide +kernel
theorem dX8_init_92 : decode cX8_init 92 = .ok (.castore, 1) := by decide +kernel
theorem dX8_init_93 : decode cX8_init 93 = .ok (.dup, 1) := by decide +kernel
theorem dX8_init_94 : decode cX8_init 94 = .ok (.bipush 7, 2) := by decide +kernel
theorem dX8_init_96 : decode cX8_init 96 = .ok (.bipush 101, 2) := by decide +kernel
theorem dX8_init_98 : decode cX8_init 98 = .ok (.castore, 1) := by decide +kernel
theorem dX8_init_99 : decode cX8_init 99 = .ok (.dup, 1) := by decide +kernel
theorem dX8_init_100 : decode cX8_init 100 = .ok (.bipush 8, 2) := by decide +kernel
theorem dX8_init_102 : decode cX8_init 102 = .ok (.bipush 102, 2) := by decide +kernel
theorem dX8_init_104 : decode cX8_init 104 = .ok (.castore, 1) := by decide +kernel
theorem dX8_init_105 : decode cX8_init 105 = .ok (.dup, 1) := by decide +kernel
theorem dX8_init_106 : decode cX8_init 106 = .ok (.bipush 9, 2) := by decide +kernel
theorem dX8_init_108 : decode cX8_init 108 = .ok (.bipush 105, 2) := by decide +kernel
theorem dX8_init_110 : decode cX8_init 110 = .ok (.castore, 1) := by decide +kernel
theorem dX8_init_111 : decode cX8_init 111 = .ok (.dup, 1) := by decide +kernel
theorem dX8_init_112 : decode cX8_init 112 = .ok (.bipush 10, 2) := by decide +kernel
theorem dX8_init_114 : decode cX8_init 114 = .ok (.bipush 110, 2) := by decide +kernel
theorem dX8_init_116 : decode cX8_init 116 = .ok (.castore, 1) := by decide +kernel
theorem dX8_init_117 : decode cX8_init 117 = .ok (.dup, 1) := by decide +kernel
theorem dX8_init_118 : decode cX8_init 118 = .ok (.bipush 11, 2) := by decide +kernel
theorem dX8_init_120 : decode cX8_init 120 = .ok (.bipush 101, 2) := by decide +kernel
theorem dX8_init_122 : decode cX8_init 122 = .ok (.castore, 1) := by decide +kernel
theorem dX8_init_123 : decode cX8_init 123 = .ok (.putfield 29, 3) := by decide +kernel
theorem dX8_init_126 : decode cX8_init 126 = .ok (.aload_n 0, 1) := by decide +kernel
theorem dX8_init_127 : decode cX8_init 127 = .ok (.iconst 4, 1) := by decide +kernel
theorem dX8_init_128 : decode cX8_init 128 = .ok (.newarray .int, 2) := by decide +kernel
theorem dX8_init_130 : decode cX8_init 130 = .ok (.dup, 1) := by decide +kernel
theorem dX8_init_131 : decode cX8_init 131 = .ok (.iconst 0, 1) := by decide +kernel
theorem dX8_init_132 : decode cX8_init 132 = .ok (.iconst 0, 1) := by decide +kernel
theorem dX8_init_133 : decode cX8_init 133 = .ok (.iastore, 1) := by decide +kernel
theorem dX8_init_134 : decode cX8_init 134 = .ok (.dup, 1) := by decide +kernel
theorem dX8_init_135 : decode cX8_init 135 = .ok (.iconst 1, 1) := by decide +kernel
theorem dX8_init_136 : decode cX8_init 136 = .ok (.iconst 5, 1) := by decide +kernel
theorem dX8_init_137 : decode cX8_init 137 = .ok (.iastore, 1) := by decide +kernel
theorem dX8_init_138 : decode cX8_init 138 = .ok (.dup, 1) := by decide +kernel
theorem dX8_init_139 : decode cX8_init 139 = .ok (.iconst 2, 1) := by decide +kernel
theorem dX8_init_140 : decode cX8_init 140 = .ok (.bipush 8, 2) := by decide +kernel
theorem dX8_init_142 : decode cX8_init 142 = .ok (.iastore, 1) := by decide +kernel
theorem dX8_init_143 : decode cX8_init 143 = .ok (.dup, 1) := by decide +kernel
theorem dX8_init_144 : decode cX8_init 144 = .ok (.iconst 3, 1) := by decide +kernel
theorem dX8_init_145 : decode cX8_init 145 = .ok (.bipush 12, 2) := by decide +kernel
theorem dX8_init_147 : decode cX8_init 147 = .ok (.iastore, 1) := by decide +kernel
theorem dX8_init_148 : decode cX8_init 148 = .ok (.putfield 33, 3) := by decide +kernel
theorem dX8_init_151 : decode cX8_init 151 = .ok (.aload_n 0, 1) := by decide +kernel
theorem dX8_init_152 : decode cX8_init 152 = .ok (.bipush 96, 2) := by decide +kernel
theorem dX8_init_154 : decode cX8_init 154 = .ok (.newarray .int, 2) := by decide +kernel
theorem dX8_init_156 : decode cX8_init 156 = .ok (.putfield 36, 3) := by decide +kernel
theorem dX8_init_159 : decode cX8_init 159 = .ok (.aload_n 0, 1) := by decide +kernel
theorem dX8_init_160 : decode cX8_init 160 = .ok (.bipush 96, 2) := by decide +kernel
theorem dX8_init_162 : decode cX8_init 162 = .ok (.newarray .int, 2) := by decide +kernel
theorem dX8_init_164 : decode cX8_init 164 = .ok (.putfield 39, 3) := by decide +kernel
theorem dX8_init_167 : decode cX8_init 167 = .ok (.aload_n 0, 1) := by decide +kernel
theorem dX8_init_168 : decode cX8_init 168 = .ok (.bipush 10, 2) := by decide +kernel
theorem dX8_init_170 : decode cX8_init 170 = .ok (.newarray .boolean, 2) := by decide +kernel
theorem dX8_init_172 : decode cX8_init 172 = .ok (.putfield 42, 3) := by decide +kernel
theorem dX8_init_175 : decode cX8_init 175 = .ok (.aload_n 0, 1) := by decide +kernel
theorem dX8_init_176 : decode cX8_init 176 = .ok (.bipush 96, 2) := by decide +kernel
theorem dX8_init_178 : decode cX8_init 178 = .ok (.newarray .int, 2) := by decide +kernel
theorem dX8_init_180 : decode cX8_init 180 = .ok (.putfield 46, 3) := by decide +kernel
theorem dX8_init_183 : decode cX8_init 183 = .ok (.aload_n 0, 1) := by decide +kernel
theorem dX8_init_184 : decode cX8_init 184 = .ok (.iconst 4, 1) := by decide +kernel
theorem dX8_init_185 : decode cX8_init 185 = .ok (.newarray .int, 2) := by decide +kernel
theorem dX8_init_187 : decode cX8_init 187 = .ok (.putfield 49, 3) := by decide +kernel
theorem dX8_init_190 : decode cX8_init 190 = .ok (.aload_n 0, 1) := by decide +kernel
theorem dX8_init_191 : decode cX8_init 191 = .ok (.iconst 4, 1) := by decide +kernel
theorem dX8_init_192 : decode cX8_init 192 = .ok (.newarray .int, 2) := by decide +kernel
theorem dX8_init_194 : decode cX8_init 194 = .ok (.dup, 1) := by decide +kernel
theorem dX8_init_195 : decode cX8_init 195 = .ok (.iconst 0, 1) := by decide +kernel
theorem dX8_init_196 : decode cX8_init 196 = .ok (.iconst (-1), 1) := by decide +kernel
theorem dX8_init_197 : decode cX8_init 197 = .ok (.iastore, 1) := by decide +kernel
theorem dX8_init_198 : decode cX8_init 198 = .ok (.dup, 1) := by decide +kernel
theorem dX8_init_199 : decode cX8_init 199 = .ok (.iconst 1, 1) := by decide +kernel
theorem dX8_init_200 : decode cX8_init 200 = .ok (.iconst (-1), 1) := by decide +kernel
theorem dX8_init_201 : decode cX8_init 201 = .ok (.iastore, 1) := by decide +kernel
theorem dX8_init_202 : decode cX8_init 202 = .ok (.dup, 1) := by decide +kernel
theorem dX8_init_203 : decode cX8_init 203 = .ok (.iconst 2, 1) := by decide +kernel
theorem dX8_init_204 : decode cX8_init 204 = .ok (.iconst (-1), 1) := by decide +kernel
theorem dX8_init_205 : decode cX8_init 205 = .ok (.iastore, 1) := by decide +kernel
theorem dX8_init_206 : decode cX8_init 206 = .ok (.dup, 1) := by decide +kernel
theorem dX8_init_207 : decode cX8_init 207 = .ok (.iconst 3, 1) := by decide +kernel
theorem dX8_init_208 : decode cX8_init 208 = .ok (.iconst (-1), 1) := by decide +kernel
theorem dX8_init_209 : decode cX8_init 209 = .ok (.iastore, 1) := by decide +kernel
theorem dX8_init_210 : decode cX8_init 210 = .ok (.putfield 52, 3) := by decide +kernel
theorem dX8_init_213 : decode cX8_init 213 = .ok (.aload_n 0, 1) := by decide +kernel
theorem dX8_init_214 : decode cX8_init 214 = .ok (.iconst 4, 1) := by decide +kernel
theorem dX8_init_215 : decode cX8_init 215 = .ok (.newarray .int, 2) := by decide +kernel
theorem dX8_init_217 : decode cX8_init 217 = .ok (.putfield 55, 3) := by decide +kernel
theorem dX8_init_220 : decode cX8_init 220 = .ok (.aload_n 0, 1) := by decide +kernel
theorem dX8_init_221 : decode cX8_init 221 = .ok (.bipush 96, 2) := by decide +kernel
theorem dX8_init_223 : decode cX8_init 223 = .ok (.newarray .int, 2) := by decide +kernel
theorem dX8_init_225 : decode cX8_init 225 = .ok (.putfield 58, 3) := by decide +kernel
theorem dX8_init_228 : decode cX8_init 228 = .ok (.aload_n 0, 1) := by decide +kernel
theorem dX8_init_229 : decode cX8_init 229 = .ok (.iconst 5, 1) := by decide +kernel
theorem dX8_init_230 : decode cX8_init 230 = .ok (.newarray .int, 2) := by decide +kernel
theorem dX8_init_232 : decode cX8_init 232 = .ok (.putfield 61, 3) := by decide +kernel
theorem dX8_init_235 : decode cX8_init 235 = .ok (.aload_n 0, 1) := by decide +kernel
theorem dX8_init_236 : decode cX8_init 236 = .ok (.iconst 5, 1) := by decide +kernel
theorem dX8_init_237 : decode cX8_init 237 = .ok (.newarray .int, 2) := by decide +kernel
theorem dX8_init_239 : decode cX8_init 239 = .ok (.putfield 64, 3) := by decide +kernel
theorem dX8_init_242 : decode cX8_init 242 = .ok (.aload_n 0, 1) := by decide +kernel
theorem dX8_init_243 : decode cX8_init 243 = .ok (.iconst 5, 1) := by decide +kernel
theorem dX8_init_244 : decode cX8_init 244 = .ok (.newarray .int, 2) := by decide +kernel
theorem dX8_init_246 : decode cX8_init 246 = .ok (.putfield 67, 3) := by decide +kernel
theorem dX8_init_249 : decode cX8_init 249 = .ok (.aload_n 0, 1) := by decide +kernel
theorem dX8_init_250 : decode cX8_init 250 = .ok (.bipush 120, 2) := by decide +kernel
theorem dX8_init_252 : decode cX8_init 252 = .ok (.newarray .int, 2) := by decide +kernel
theorem dX8_init_254 : decode cX8_init 254 = .ok (.putfield 70, 3) := by decide +kernel
theorem dX8_init_257 : decode cX8_init 257 = .ok (.aload_n 0, 1) := by decide +kernel
theorem dX8_init_258 : decode cX8_init 258 = .ok (.bipush 24, 2) := by decide +kernel
theorem dX8_init_260 : decode cX8_init 260 = .ok (.newarray .int, 2) := by decide +kernel
theorem dX8_init_262 : decode cX8_init 262 = .ok (.putfield 73, 3) := by decide +kernel
theorem dX8_init_265 : decode cX8_init 265 = .ok (.aload_n 0, 1) := by decide +kernel
theorem dX8_init_266 : decode cX8_init 266 = .ok (.bipush 60, 2) := by decide +kernel
theorem dX8_init_268 : decode cX8_init 268 = .ok (.newarray .int, 2) := by decide +kernel
theorem dX8_init_270 : decode cX8_init 270 = .ok (.putfield 76, 3) := by decide +kernel
theorem dX8_init_273 : decode cX8_init 273 = .ok (.aload_n 0, 1) := by decide +kernel
theorem dX8_init_274 : decode cX8_init 274 = .ok (.getfield 9, 3) := by decide +kernel
theorem dX8_init_277 : decode cX8_init 277 = .ok (.iconst 0, 1) := by decide +kernel
theorem dX8_init_278 : decode cX8_init 278 = .ok (.iconst 1, 1) := by decide +kernel
theorem dX8_init_279 : decode cX8_init 279 = .ok (.iastore, 1) := by decide +kernel
theorem dX8_init_280 : decode cX8_init 280 = .ok (.aload_n 0, 1) := by decide +kernel
theorem dX8_init_281 : decode cX8_init 281 = .ok (.getfield 9, 3) := by decide +kernel
theorem dX8_init_284 : decode cX8_init 284 = .ok (.iconst 3, 1) := by decide +kernel
theorem dX8_init_285 : decode cX8_init 285 = .ok (.bipush 50, 2) := by decide +kernel
theorem dX8_init_287 : decode cX8_init 287 = .ok (.iastore, 1) := by decide +kernel
theorem dX8_init_288 : decode cX8_init 288 = .ok (.aload_n 0, 1) := by decide +kernel
theorem dX8_init_289 : decode cX8_init 289 = .ok (.getfield 9, 3) := by decide +kernel
theorem dX8_init_292 : decode cX8_init 292 = .ok (.iconst 4, 1) := by decide +kernel
theorem dX8_init_293 : decode cX8_init 293 = .ok (.bipush 10, 2) := by decide +kernel
theorem dX8_init_295 : decode cX8_init 295 = .ok (.iastore, 1) := by decide +kernel
theorem dX8_init_296 : decode cX8_init 296 = .ok (.return_, 1) := by decide +kernel
theorem dX8_in_0 : decode cX8_in 0 = .ok (.iload_n 0, 1) := by decide +kernel
theorem dX8_in_1 : decode cX8_in 1 = .ok (.iload_n 1, 1) := by decide +kernel
theorem dX8_in_2 : decode cX8_in 2 = .ok (.if_icmp .lt 12, 3) := by decide +kernel
theorem dX8_in_5 : decode cX8_in 5 = .ok (.iload_n 0, 1) := by decide +kernel
theorem dX8_in_6 : decode cX8_in 6 = .ok (.iload_n 2, 1) := by decide +kernel
theorem dX8_in_7 : decode cX8_in 7 = .ok (.if_icmp .gt 7, 3) := by decide +kernel
theorem dX8_in_10 : decode cX8_in 10 = .ok (.iconst 1, 1) := by decide +kernel
theorem dX8_in_11 : decode cX8_in 11 = .ok (.goto 4, 3) := by decide +kernel
theorem dX8_in_14 : decode cX8_in 14 = .ok (.iconst 0, 1) := by decide +kernel
theorem dX8_in_15 : decode cX8_in 15 = .ok (.ireturn, 1) := by decide +kernel
theorem dX8_within_0 : decode cX8_within 0 = .ok (.iload_n 0, 1) := by decide +kernel
theorem dX8_within_1 : decode cX8_within 1 = .ok (.iload_n 1, 1) := by decide +kernel
theorem dX8_within_2 : decode cX8_within 2 = .ok (.if_icmp .ge 7, 3) := by decide +kernel
theorem dX8_within_5 : decode cX8_within 5 = .ok (.iload_n 1, 1) := by decide +kernel
theorem dX8_within_6 : decode cX8_within 6 = .ok (.goto 13, 3) := by decide +kernel
theorem dX8_within_9 : decode cX8_within 9 = .ok (.iload_n 0, 1) := by decide +kernel
theorem dX8_within_10 : decode cX8_within 10 = .ok (.iload_n 2, 1) := by decide +kernel
theorem dX8_within_11 : decode cX8_within 11 = .ok (.if_icmp .le 7, 3) := by decide +kernel
theorem dX8_within_14 : decode cX8_within 14 = .ok (.iload_n 2, 1) := by decide +kernel
theorem dX8_within_15 : decode cX8_within 15 = .ok (.goto 4, 3) := by decide +kernel
theorem dX8_within_18 : decode cX8_within 18 = .ok (.iload_n 0, 1) := by decide +kernel
theorem dX8_within_19 : decode cX8_within 19 = .ok (.ireturn, 1) := by decide +kernel
theorem dX8_copyAll_0 : decode cX8_copyAll 0 = .ok (.iconst 0, 1) := by decide +kernel
theorem dX8_copyAll_1 : decode cX8_copyAll 1 = .ok (.istore_n 2, 1) := by decide +kernel
theorem dX8_copyAll_2 : decode cX8_copyAll 2 = .ok (.iload_n 2, 1) := by decide +kernel
theorem dX8_copyAll_3 : decode cX8_copyAll 3 = .ok (.sipush 1438, 3) := by decide +kernel
theorem dX8_copyAll_6 : decode cX8_copyAll 6 = .ok (.if_icmp .ge 15, 3) := by decide +kernel
theorem dX8_copyAll_9 : decode cX8_copyAll 9 = .ok (.aload_n 1, 1) := by decide +kernel
theorem dX8_copyAll_10 : decode cX8_copyAll 10 = .ok (.iload_n 2, 1) := by decide +kernel
theorem dX8_copyAll_11 : decode cX8_copyAll 11 = .ok (.aload_n 0, 1) := by decide +kernel
theorem dX8_copyAll_12 : decode cX8_copyAll 12 = .ok (.iload_n 2, 1) := by decide +kernel
theorem dX8_copyAll_13 : decode cX8_copyAll 13 = .ok (.iaload, 1) := by decide +kernel
theorem dX8_copyAll_14 : decode cX8_copyAll 14 = .ok (.iastore, 1) := by decide +kernel
theorem dX8_copyAll_15 : decode cX8_copyAll 15 = .ok (.iinc 2 1, 3) := by decide +kernel
theorem dX8_copyAll_18 : decode cX8_copyAll 18 = .ok (.goto (-16), 3) := by decide +kernel
theorem dX8_copyAll_21 : decode cX8_copyAll 21 = .ok (.return_, 1) := by decide +kernel
theorem dX8_told0_0 : decode cX8_told0 0 = .ok (.iload_n 0, 1) := by decide +kernel
theorem dX8_told0_1 : decode cX8_told0 1 = .ok (.ifCond .ge 8, 3) := by decide +kernel
theorem dX8_told0_4 : decode cX8_told0 4 = .ok (.ldc 79, 2) := by decide +kernel
theorem dX8_told0_6 : decode cX8_told0 6 = .ok (.goto 4, 3) := by decide +kernel
theorem dX8_told0_9 : decode cX8_told0 9 = .ok (.iload_n 0, 1) := by decide +kernel
theorem dX8_told0_10 : decode cX8_told0 10 = .ok (.ireturn, 1) := by decide +kernel
theorem dX8_isJuror_0 : decode cX8_isJuror 0 = .ok (.iload_n 1, 1) := by decide +kernel
theorem dX8_isJuror_1 : decode cX8_isJuror 1 = .ok (.iconst 0, 1) := by decide +kernel
theorem dX8_isJuror_2 : decode cX8_isJuror 2 = .ok (.aload_n 0, 1) := by decide +kernel
theorem dX8_isJuror_3 : decode cX8_isJuror 3 = .ok (.getfield 9, 3) := by decide +kernel
theorem dX8_isJuror_6 : decode cX8_isJuror 6 = .ok (.iconst 1, 1) := by decide +kernel
theorem dX8_isJuror_7 : decode cX8_isJuror 7 = .ok (.iaload, 1) := by decide +kernel
theorem dX8_isJuror_8 : decode cX8_isJuror 8 = .ok (.iconst 1, 1) := by decide +kernel
theorem dX8_isJuror_9 : decode cX8_isJuror 9 = .ok (.isub, 1) := by decide +kernel
theorem dX8_isJuror_10 : decode cX8_isJuror 10 = .ok (.invokestatic 80, 3) := by decide +kernel
theorem dX8_isJuror_13 : decode cX8_isJuror 13 = .ok (.ireturn, 1) := by decide +kernel
theorem dX8_isFact_0 : decode cX8_isFact 0 = .ok (.iload_n 0, 1) := by decide +kernel
theorem dX8_isFact_1 : decode cX8_isFact 1 = .ok (.iconst 0, 1) := by decide +kernel
theorem dX8_isFact_2 : decode cX8_isFact 2 = .ok (.bipush 7, 2) := by decide +kernel
theorem dX8_isFact_4 : decode cX8_isFact 4 = .ok (.invokestatic 80, 3) := by decide +kernel
theorem dX8_isFact_7 : decode cX8_isFact 7 = .ok (.ireturn, 1) := by decide +kernel
theorem dX8_of_0 : decode cX8_of 0 = .ok (.aload_n 0, 1) := by decide +kernel
theorem dX8_of_1 : decode cX8_of 1 = .ok (.getfield 9, 3) := by decide +kernel
theorem dX8_of_4 : decode cX8_of 4 = .ok (.bipush 16, 2) := by decide +kernel
theorem dX8_of_6 : decode cX8_of 6 = .ok (.iconst 5, 1) := by decide +kernel
theorem dX8_of_7 : decode cX8_of 7 = .ok (.iload_n 1, 1) := by decide +kernel
theorem dX8_of_8 : decode cX8_of 8 = .ok (.imul, 1) := by decide +kernel
theorem dX8_of_9 : decode cX8_of 9 = .ok (.iadd, 1) := by decide +kernel
theorem dX8_of_10 : decode cX8_of 10 = .ok (.iload_n 2, 1) := by decide +kernel
theorem dX8_of_11 : decode cX8_of 11 = .ok (.iadd, 1) := by decide +kernel
theorem dX8_of_12 : decode cX8_of 12 = .ok (.iaload, 1) := by decide +kernel
theorem dX8_of_13 : decode cX8_of 13 = .ok (.ireturn, 1) := by decide +kernel
theorem dX8_put_0 : decode cX8_put 0 = .ok (.aload_n 0, 1) := by decide +kernel
theorem dX8_put_1 : decode cX8_put 1 = .ok (.getfield 9, 3) := by decide +kernel
theorem dX8_put_4 : decode cX8_put 4 = .ok (.bipush 16, 2) := by decide +kernel
theorem dX8_put_6 : decode cX8_put 6 = .ok (.iconst 5, 1) := by decide +kernel
theorem dX8_put_7 : decode cX8_put 7 = .ok (.iload_n 1, 1) := by decide +kernel
theorem dX8_put_8 : decode cX8_put 8 = .ok (.imul, 1) := by decide +kernel
theorem dX8_put_9 : decode cX8_put 9 = .ok (.iadd, 1) := by decide +kernel
theorem dX8_put_10 : decode cX8_put 10 = .ok (.iload_n 2, 1) := by decide +kernel
theorem dX8_put_11 : decode cX8_put 11 = .ok (.iadd, 1) := by decide +kernel
theorem dX8_put_12 : decode cX8_put 12 = .ok (.iload_n 3, 1) := by decide +kernel
theorem dX8_put_13 : decode cX8_put 13 = .ok (.iastore, 1) := by decide +kernel
theorem dX8_put_14 : decode cX8_put 14 = .ok (.return_, 1) := by decide +kernel
theorem dX8_becomes_0 : decode cX8_becomes 0 = .ok (.aload_n 0, 1) := by decide +kernel
theorem dX8_becomes_1 : decode cX8_becomes 1 = .ok (.getfield 9, 3) := by decide +kernel
theorem dX8_becomes_4 : decode cX8_becomes 4 = .ok (.iload_n 1, 1) := by decide +kernel
theorem dX8_becomes_5 : decode cX8_becomes 5 = .ok (.iaload, 1) := by decide +kernel
theorem dX8_becomes_6 : decode cX8_becomes 6 = .ok (.istore_n 3, 1) := by decide +kernel
theorem dX8_becomes_7 : decode cX8_becomes 7 = .ok (.aload_n 0, 1) := by decide +kernel
theorem dX8_becomes_8 : decode cX8_becomes 8 = .ok (.getfield 9, 3) := by decide +kernel
theorem dX8_becomes_11 : decode cX8_becomes 11 = .ok (.iload_n 1, 1) := by decide +kernel
theorem dX8_becomes_12 : decode cX8_becomes 12 = .ok (.iload_n 2, 1) := by decide +kernel
theorem dX8_becomes_13 : decode cX8_becomes 13 = .ok (.iastore, 1) := by decide +kernel
theorem dX8_becomes_14 : decode cX8_becomes 14 = .ok (.iload_n 3, 1) := by decide +kernel
theorem dX8_becomes_15 : decode cX8_becomes 15 = .ok (.ireturn, 1) := by decide +kernel
theorem dX8_bitsOf_0 : decode cX8_bitsOf 0 = .ok (.iconst 0, 1) := by decide +kernel
theorem dX8_bitsOf_1 : decode cX8_bitsOf 1 = .ok (.istore_n 1, 1) := by decide +kernel
theorem dX8_bitsOf_2 : decode cX8_bitsOf 2 = .ok (.iconst 0, 1) := by decide +kernel
theorem dX8_bitsOf_3 : decode cX8_bitsOf 3 = .ok (.istore_n 2, 1) := by decide +kernel
theorem dX8_bitsOf_4 : decode cX8_bitsOf 4 = .ok (.iload_n 2, 1) := by decide +kernel
theorem dX8_bitsOf_5 : decode cX8_bitsOf 5 = .ok (.bipush 8, 2) := by decide +kernel
theorem dX8_bitsOf_7 : decode cX8_bitsOf 7 = .ok (.if_icmp .ge 17, 3) := by decide +kernel
theorem dX8_bitsOf_10 : decode cX8_bitsOf 10 = .ok (.iload_n 1, 1) := by decide +kernel
theorem dX8_bitsOf_11 : decode cX8_bitsOf 11 = .ok (.iload_n 0, 1) := by decide +kernel
theorem dX8_bitsOf_12 : decode cX8_bitsOf 12 = .ok (.iload_n 2, 1) := by decide +kernel
theorem dX8_bitsOf_13 : decode cX8_bitsOf 13 = .ok (.ishr, 1) := by decide +kernel
theorem dX8_bitsOf_14 : decode cX8_bitsOf 14 = .ok (.iconst 1, 1) := by decide +kernel
theorem dX8_bitsOf_15 : decode cX8_bitsOf 15 = .ok (.iand, 1) := by decide +kernel
theorem dX8_bitsOf_16 : decode cX8_bitsOf 16 = .ok (.iadd, 1) := by decide +kernel
theorem dX8_bitsOf_17 : decode cX8_bitsOf 17 = .ok (.istore_n 1, 1) := by decide +kernel
theorem dX8_bitsOf_18 : decode cX8_bitsOf 18 = .ok (.iinc 2 1, 3) := by decide +kernel
theorem dX8_bitsOf_21 : decode cX8_bitsOf 21 = .ok (.goto (-17), 3) := by decide +kernel
theorem dX8_bitsOf_24 : decode cX8_bitsOf 24 = .ok (.iload_n 1, 1) := by decide +kernel
theorem dX8_bitsOf_25 : decode cX8_bitsOf 25 = .ok (.ireturn, 1) := by decide +kernel
theorem dX8_comes_0 : decode cX8_comes 0 = .ok (.aload_n 0, 1) := by decide +kernel
theorem dX8_comes_1 : decode cX8_comes 1 = .ok (.getfield 9, 3) := by decide +kernel
theorem dX8_comes_4 : decode cX8_comes 4 = .ok (.iconst 1, 1) := by decide +kernel
theorem dX8_comes_5 : decode cX8_comes 5 = .ok (.iaload, 1) := by decide +kernel
theorem dX8_comes_6 : decode cX8_comes 6 = .ok (.istore 5, 2) := by decide +kernel
theorem dX8_comes_8 : decode cX8_comes 8 = .ok (.aload_n 0, 1) := by decide +kernel
theorem dX8_comes_9 : decode cX8_comes 9 = .ok (.iload 5, 2) := by decide +kernel
theorem dX8_comes_11 : decode cX8_comes 11 = .ok (.iconst 0, 1) := by decide +kernel
theorem dX8_comes_12 : decode cX8_comes 12 = .ok (.iload_n 1, 1) := by decide +kernel
theorem dX8_comes_13 : decode cX8_comes 13 = .ok (.invokevirtual 84, 3) := by decide +kernel
theorem dX8_comes_16 : decode cX8_comes 16 = .ok (.aload_n 0, 1) := by decide +kernel
theorem dX8_comes_17 : decode cX8_comes 17 = .ok (.iload 5, 2) := by decide +kernel
theorem dX8_comes_19 : decode cX8_comes 19 = .ok (.iconst 1, 1) := by decide +kernel
theorem dX8_comes_20 : decode cX8_comes 20 = .ok (.iload_n 2, 1) := by decide +kernel
theorem dX8_comes_21 : decode cX8_comes 21 = .ok (.invokevirtual 84, 3) := by decide +kernel
theorem dX8_comes_24 : decode cX8_comes 24 = .ok (.aload_n 0, 1) := by decide +kernel
theorem dX8_comes_25 : decode cX8_comes 25 = .ok (.iload 5, 2) := by decide +kernel
theorem dX8_comes_27 : decode cX8_comes 27 = .ok (.iconst 2, 1) := by decide +kernel
theorem dX8_comes_28 : decode cX8_comes 28 = .ok (.iload_n 3, 1) := by decide +kernel
theorem dX8_comes_29 : decode cX8_comes 29 = .ok (.invokevirtual 84, 3) := by decide +kernel
theorem dX8_comes_32 : decode cX8_comes 32 = .ok (.aload_n 0, 1) := by decide +kernel
theorem dX8_comes_33 : decode cX8_comes 33 = .ok (.iload 5, 2) := by decide +kernel
theorem dX8_comes_35 : decode cX8_comes 35 = .ok (.iconst 3, 1) := by decide +kernel
theorem dX8_comes_36 : decode cX8_comes 36 = .ok (.iload 4, 2) := by decide +kernel
theorem dX8_comes_38 : decode cX8_comes 38 = .ok (.invokevirtual 84, 3) := by decide +kernel
theorem dX8_comes_41 : decode cX8_comes 41 = .ok (.aload_n 0, 1) := by decide +kernel
theorem dX8_comes_42 : decode cX8_comes 42 = .ok (.iload 5, 2) := by decide +kernel
theorem dX8_comes_44 : decode cX8_comes 44 = .ok (.iconst 4, 1) := by decide +kernel
theorem dX8_comes_45 : decode cX8_comes 45 = .ok (.iconst 0, 1) := by decide +kernel
theorem dX8_comes_46 : decode cX8_comes 46 = .ok (.invokevirtual 84, 3) := by decide +kernel
theorem dX8_comes_49 : decode cX8_comes 49 = .ok (.aload_n 0, 1) := by decide +kernel
theorem dX8_comes_50 : decode cX8_comes 50 = .ok (.getfield 9, 3) := by decide +kernel
theorem dX8_comes_53 : decode cX8_comes 53 = .ok (.iconst 1, 1) := by decide +kernel
theorem dX8_comes_54 : decode cX8_comes 54 = .ok (.dup2, 1) := by decide +kernel
theorem dX8_comes_55 : decode cX8_comes 55 = .ok (.iaload, 1) := by decide +kernel
theorem dX8_comes_56 : decode cX8_comes 56 = .ok (.iconst 1, 1) := by decide +kernel
theorem dX8_comes_57 : decode cX8_comes 57 = .ok (.iadd, 1) := by decide +kernel
theorem dX8_comes_58 : decode cX8_comes 58 = .ok (.iastore, 1) := by decide +kernel
theorem dX8_comes_59 : decode cX8_comes 59 = .ok (.iload 5, 2) := by decide +kernel
theorem dX8_comes_61 : decode cX8_comes 61 = .ok (.ireturn, 1) := by decide +kernel
theorem dX8_juror_0 : decode cX8_juror 0 = .ok (.iload_n 1, 1) := by decide +kernel
theorem dX8_juror_1 : decode cX8_juror 1 = .ok (.iconst 0, 1) := by decide +kernel
theorem dX8_juror_2 : decode cX8_juror 2 = .ok (.iconst 5, 1) := by decide +kernel
theorem dX8_juror_3 : decode cX8_juror 3 = .ok (.invokestatic 80, 3) := by decide +kernel
theorem dX8_juror_6 : decode cX8_juror 6 = .ok (.ifCond .eq 22, 3) := by decide +kernel
theorem dX8_juror_9 : decode cX8_juror 9 = .ok (.iload_n 2, 1) := by decide +kernel
theorem dX8_juror_10 : decode cX8_juror 10 = .ok (.iconst 0, 1) := by decide +kernel
theorem dX8_juror_11 : decode cX8_juror 11 = .ok (.iconst 1, 1) := by decide +kernel
theorem dX8_juror_12 : decode cX8_juror 12 = .ok (.invokestatic 80, 3) := by decide +kernel
theorem dX8_juror_15 : decode cX8_juror 15 = .ok (.ifCond .eq 13, 3) := by decide +kernel
theorem dX8_juror_18 : decode cX8_juror 18 = .ok (.iload_n 3, 1) := by decide +kernel
theorem dX8_juror_19 : decode cX8_juror 19 = .ok (.iconst 0, 1) := by decide +kernel
theorem dX8_juror_20 : decode cX8_juror 20 = .ok (.bipush 40, 2) := by decide +kernel
theorem dX8_juror_22 : decode cX8_juror 22 = .ok (.invokestatic 80, 3) := by decide +kernel
theorem dX8_juror_25 : decode cX8_juror 25 = .ok (.ifCond .ne 6, 3) := by decide +kernel
theorem dX8_juror_28 : decode cX8_juror 28 = .ok (.ldc 88, 2) := by decide +kernel
theorem dX8_juror_30 : decode cX8_juror 30 = .ok (.ireturn, 1) := by decide +kernel
theorem dX8_juror_31 : decode cX8_juror 31 = .ok (.aload_n 0, 1) := by decide +kernel
theorem dX8_juror_32 : decode cX8_juror 32 = .ok (.getfield 9, 3) := by decide +kernel
theorem dX8_juror_35 : decode cX8_juror 35 = .ok (.iconst 1, 1) := by decide +kernel
theorem dX8_juror_36 : decode cX8_juror 36 = .ok (.iaload, 1) := by decide +kernel
theorem dX8_juror_37 : decode cX8_juror 37 = .ok (.bipush 10, 2) := by decide +kernel
theorem dX8_juror_39 : decode cX8_juror 39 = .ok (.if_icmp .ne 8, 3) := by decide +kernel
theorem dX8_juror_42 : decode cX8_juror 42 = .ok (.ldc 89, 2) := by decide +kernel
theorem dX8_juror_44 : decode cX8_juror 44 = .ok (.goto 11, 3) := by decide +kernel
theorem dX8_juror_47 : decode cX8_juror 47 = .ok (.aload_n 0, 1) := by decide +kernel
theorem dX8_juror_48 : decode cX8_juror 48 = .ok (.iload_n 1, 1) := by decide +kernel
theorem dX8_juror_49 : decode cX8_juror 49 = .ok (.iload_n 2, 1) := by decide +kernel
theorem dX8_juror_50 : decode cX8_juror 50 = .ok (.iconst 0, 1) := by decide +kernel
theorem dX8_juror_51 : decode cX8_juror 51 = .ok (.iload_n 3, 1) := by decide +kernel
theorem dX8_juror_52 : decode cX8_juror 52 = .ok (.invokevirtual 90, 3) := by decide +kernel
theorem dX8_juror_55 : decode cX8_juror 55 = .ok (.ireturn, 1) := by decide +kernel
theorem dX8_weightOf_0 : decode cX8_weightOf 0 = .ok (.iconst 0, 1) := by decide +kernel
theorem dX8_weightOf_1 : decode cX8_weightOf 1 = .ok (.istore_n 2, 1) := by decide +kernel
theorem dX8_weightOf_2 : decode cX8_weightOf 2 = .ok (.iconst 0, 1) := by decide +kernel
theorem dX8_weightOf_3 : decode cX8_weightOf 3 = .ok (.istore_n 3, 1) := by decide +kernel
theorem dX8_weightOf_4 : decode cX8_weightOf 4 = .ok (.iload_n 3, 1) := by decide +kernel
theorem dX8_weightOf_5 : decode cX8_weightOf 5 = .ok (.bipush 8, 2) := by decide +kernel
theorem dX8_weightOf_7 : decode cX8_weightOf 7 = .ok (.if_icmp .ge 27, 3) := by decide +kernel
theorem dX8_weightOf_10 : decode cX8_weightOf 10 = .ok (.iload_n 2, 1) := by decide +kernel
theorem dX8_weightOf_11 : decode cX8_weightOf 11 = .ok (.iload_n 1, 1) := by decide +kernel
theorem dX8_weightOf_12 : decode cX8_weightOf 12 = .ok (.iload_n 3, 1) := by decide +kernel
theorem dX8_weightOf_13 : decode cX8_weightOf 13 = .ok (.ishr, 1) := by decide +kernel
theorem dX8_weightOf_14 : decode cX8_weightOf 14 = .ok (.iconst 1, 1) := by decide +kernel
theorem dX8_weightOf_15 : decode cX8_weightOf 15 = .ok (.iand, 1) := by decide +kernel
theorem dX8_weightOf_16 : decode cX8_weightOf 16 = .ok (.aload_n 0, 1) := by decide +kernel
theorem dX8_weightOf_17 : decode cX8_weightOf 17 = .ok (.getfield 9, 3) := by decide +kernel
theorem dX8_weightOf_20 : decode cX8_weightOf 20 = .ok (.bipush 8, 2) := by decide +kernel
theorem dX8_weightOf_22 : decode cX8_weightOf 22 = .ok (.iload_n 3, 1) := by decide +kernel
theorem dX8_weightOf_23 : decode cX8_weightOf 23 = .ok (.iadd, 1) := by decide +kernel
theorem dX8_weightOf_24 : decode cX8_weightOf 24 = .ok (.iaload, 1) := by decide +kernel
theorem dX8_weightOf_25 : decode cX8_weightOf 25 = .ok (.imul, 1) := by decide +kernel
theorem dX8_weightOf_26 : decode cX8_weightOf 26 = .ok (.iadd, 1) := by decide +kernel
theorem dX8_weightOf_27 : decode cX8_weightOf 27 = .ok (.istore_n 2, 1) := by decide +kernel
theorem dX8_weightOf_28 : decode cX8_weightOf 28 = .ok (.iinc 3 1, 3) := by decide +kernel
theorem dX8_weightOf_31 : decode cX8_weightOf 31 = .ok (.goto (-27), 3) := by decide +kernel
theorem dX8_weightOf_34 : decode cX8_weightOf 34 = .ok (.iload_n 2, 1) := by decide +kernel
theorem dX8_weightOf_35 : decode cX8_weightOf 35 = .ok (.ireturn, 1) := by decide +kernel
theorem dX8_believesOf_0 : decode cX8_believesOf 0 = .ok (.aload_n 0, 1) := by decide +kernel
theorem dX8_believesOf_1 : decode cX8_believesOf 1 = .ok (.aload_n 0, 1) := by decide +kernel
theorem dX8_believesOf_2 : decode cX8_believesOf 2 = .ok (.iload_n 1, 1) := by decide +kernel
theorem dX8_believesOf_3 : decode cX8_believesOf 3 = .ok (.iconst 2, 1) := by decide +kernel
theorem dX8_believesOf_4 : decode cX8_believesOf 4 = .ok (.invokevirtual 94, 3) := by decide +kernel
theorem dX8_believesOf_7 : decode cX8_believesOf 7 = .ok (.invokevirtual 98, 3) := by decide +kernel
theorem dX8_believesOf_10 : decode cX8_believesOf 10 = .ok (.istore_n 2, 1) := by decide +kernel
theorem dX8_believesOf_11 : decode cX8_believesOf 11 = .ok (.aload_n 0, 1) := by decide +kernel
theorem dX8_believesOf_12 : decode cX8_believesOf 12 = .ok (.iconst 0, 1) := by decide +kernel
theorem dX8_believesOf_13 : decode cX8_believesOf 13 = .ok (.invokevirtual 102, 3) := by decide +kernel
theorem dX8_believesOf_16 : decode cX8_believesOf 16 = .ok (.istore_n 3, 1) := by decide +kernel
theorem dX8_believesOf_17 : decode cX8_believesOf 17 = .ok (.aload_n 0, 1) := by decide +kernel
theorem dX8_believesOf_18 : decode cX8_believesOf 18 = .ok (.getfield 49, 3) := by decide +kernel
theorem dX8_believesOf_21 : decode cX8_believesOf 21 = .ok (.iconst 0, 1) := by decide +kernel
theorem dX8_believesOf_22 : decode cX8_believesOf 22 = .ok (.aload_n 0, 1) := by decide +kernel
theorem dX8_believesOf_23 : decode cX8_believesOf 23 = .ok (.iload_n 1, 1) := by decide +kernel
theorem dX8_believesOf_24 : decode cX8_believesOf 24 = .ok (.iconst 2, 1) := by decide +kernel
theorem dX8_believesOf_25 : decode cX8_believesOf 25 = .ok (.invokevirtual 94, 3) := by decide +kernel
theorem dX8_believesOf_28 : decode cX8_believesOf 28 = .ok (.invokestatic 105, 3) := by decide +kernel
theorem dX8_believesOf_31 : decode cX8_believesOf 31 = .ok (.iastore, 1) := by decide +kernel
theorem dX8_believesOf_32 : decode cX8_believesOf 32 = .ok (.aload_n 0, 1) := by decide +kernel
theorem dX8_believesOf_33 : decode cX8_believesOf 33 = .ok (.getfield 49, 3) := by decide +kernel
theorem dX8_believesOf_36 : decode cX8_believesOf 36 = .ok (.iconst 1, 1) := by decide +kernel
theorem dX8_believesOf_37 : decode cX8_believesOf 37 = .ok (.iload_n 2, 1) := by decide +kernel
theorem dX8_believesOf_38 : decode cX8_believesOf 38 = .ok (.iastore, 1) := by decide +kernel
theorem dX8_believesOf_39 : decode cX8_believesOf 39 = .ok (.aload_n 0, 1) := by decide +kernel
theorem dX8_believesOf_40 : decode cX8_believesOf 40 = .ok (.getfield 49, 3) := by decide +kernel
theorem dX8_believesOf_43 : decode cX8_believesOf 43 = .ok (.iconst 2, 1) := by decide +kernel
theorem dX8_believesOf_44 : decode cX8_believesOf 44 = .ok (.aload_n 0, 1) := by decide +kernel
theorem dX8_believesOf_45 : decode cX8_believesOf 45 = .ok (.iload_n 1, 1) := by decide +kernel
theorem dX8_believesOf_46 : decode cX8_believesOf 46 = .ok (.iconst 3, 1) := by decide +kernel
theorem dX8_believesOf_47 : decode cX8_believesOf 47 = .ok (.invokevirtual 94, 3) := by decide +kernel
theorem dX8_believesOf_50 : decode cX8_believesOf 50 = .ok (.iastore, 1) := by decide +kernel
theorem dX8_believesOf_51 : decode cX8_believesOf 51 = .ok (.iload_n 3, 1) := by decide +kernel
theorem dX8_believesOf_52 : decode cX8_believesOf 52 = .ok (.ifCond .ge 10, 3) := by decide +kernel
theorem dX8_believesOf_55 : decode cX8_believesOf 55 = .ok (.bipush 50, 2) := by decide +kernel
theorem dX8_believesOf_57 : decode cX8_believesOf 57 = .ok (.iload_n 2, 1) := by decide +kernel
theorem dX8_believesOf_58 : decode cX8_believesOf 58 = .ok (.iadd, 1) := by decide +kernel
theorem dX8_believesOf_59 : decode cX8_believesOf 59 = .ok (.goto 8, 3) := by decide +kernel
theorem dX8_believesOf_62 : decode cX8_believesOf 62 = .ok (.aload_n 0, 1) := by decide +kernel
theorem dX8_believesOf_63 : decode cX8_believesOf 63 = .ok (.iload_n 3, 1) := by decide +kernel
theorem dX8_believesOf_64 : decode cX8_believesOf 64 = .ok (.invokevirtual 108, 3) := by decide +kernel
theorem dX8_believesOf_67 : decode cX8_believesOf 67 = .ok (.iconst 0, 1) := by decide +kernel
theorem dX8_believesOf_68 : decode cX8_believesOf 68 = .ok (.bipush 100, 2) := by decide +kernel
theorem dX8_believesOf_70 : decode cX8_believesOf 70 = .ok (.invokestatic 111, 3) := by decide +kernel
theorem dX8_believesOf_73 : decode cX8_believesOf 73 = .ok (.istore 4, 2) := by decide +kernel
theorem dX8_believesOf_75 : decode cX8_believesOf 75 = .ok (.iload 4, 2) := by decide +kernel
theorem dX8_believesOf_77 : decode cX8_believesOf 77 = .ok (.aload_n 0, 1) := by decide +kernel
theorem dX8_believesOf_78 : decode cX8_believesOf 78 = .ok (.iload_n 1, 1) := by decide +kernel
theorem dX8_believesOf_79 : decode cX8_believesOf 79 = .ok (.iconst 3, 1) := by decide +kernel
theorem dX8_believesOf_80 : decode cX8_believesOf 80 = .ok (.invokevirtual 94, 3) := by decide +kernel
theorem dX8_believesOf_83 : decode cX8_believesOf 83 = .ok (.if_icmp .ge 7, 3) := by decide +kernel
theorem dX8_believesOf_86 : decode cX8_believesOf 86 = .ok (.iconst 0, 1) := by decide +kernel
theorem dX8_believesOf_87 : decode cX8_believesOf 87 = .ok (.goto 12, 3) := by decide +kernel
theorem dX8_believesOf_90 : decode cX8_believesOf 90 = .ok (.iload 4, 2) := by decide +kernel
theorem dX8_believesOf_92 : decode cX8_believesOf 92 = .ok (.aload_n 0, 1) := by decide +kernel
theorem dX8_believesOf_93 : decode cX8_believesOf 93 = .ok (.iload_n 1, 1) := by decide +kernel
theorem dX8_believesOf_94 : decode cX8_believesOf 94 = .ok (.iconst 3, 1) := by decide +kernel
theorem dX8_believesOf_95 : decode cX8_believesOf 95 = .ok (.invokevirtual 94, 3) := by decide +kernel
theorem dX8_believesOf_98 : decode cX8_believesOf 98 = .ok (.isub, 1) := by decide +kernel
theorem dX8_believesOf_99 : decode cX8_believesOf 99 = .ok (.istore 5, 2) := by decide +kernel
theorem dX8_believesOf_101 : decode cX8_believesOf 101 = .ok (.iload 4, 2) := by decide +kernel
theorem dX8_believesOf_103 : decode cX8_believesOf 103 = .ok (.bipush 50, 2) := by decide +kernel
theorem dX8_believesOf_105 : decode cX8_believesOf 105 = .ok (.if_icmp .le 11, 3) := by decide +kernel
theorem dX8_believesOf_108 : decode cX8_believesOf 108 = .ok (.iload 4, 2) := by decide +kernel
theorem dX8_believesOf_110 : decode cX8_believesOf 110 = .ok (.bipush 10, 2) := by decide +kernel
theorem dX8_believesOf_112 : decode cX8_believesOf 112 = .ok (.iadd, 1) := by decide +kernel
theorem dX8_believesOf_113 : decode cX8_believesOf 113 = .ok (.goto 20, 3) := by decide +kernel
theorem dX8_believesOf_116 : decode cX8_believesOf 116 = .ok (.iload 4, 2) := by decide +kernel
theorem dX8_believesOf_118 : decode cX8_believesOf 118 = .ok (.bipush 50, 2) := by decide +kernel
theorem dX8_believesOf_120 : decode cX8_believesOf 120 = .ok (.if_icmp .ge 11, 3) := by decide +kernel
theorem dX8_believesOf_123 : decode cX8_believesOf 123 = .ok (.iload 4, 2) := by decide +kernel
theorem dX8_believesOf_125 : decode cX8_believesOf 125 = .ok (.bipush 10, 2) := by decide +kernel
theorem dX8_believesOf_127 : decode cX8_believesOf 127 = .ok (.isub, 1) := by decide +kernel
theorem dX8_believesOf_128 : decode cX8_believesOf 128 = .ok (.goto 5, 3) := by decide +kernel
theorem dX8_believesOf_131 : decode cX8_believesOf 131 = .ok (.iload 4, 2) := by decide +kernel
theorem dX8_believesOf_133 : decode cX8_believesOf 133 = .ok (.iconst 0, 1) := by decide +kernel
theorem dX8_believesOf_134 : decode cX8_believesOf 134 = .ok (.bipush 100, 2) := by decide +kernel
theorem dX8_believesOf_136 : decode cX8_believesOf 136 = .ok (.invokestatic 111, 3) := by decide +kernel
theorem dX8_believesOf_139 : decode cX8_believesOf 139 = .ok (.istore 6, 2) := by decide +kernel
theorem dX8_believesOf_141 : decode cX8_believesOf 141 = .ok (.aload_n 0, 1) := by decide +kernel
theorem dX8_believesOf_142 : decode cX8_believesOf 142 = .ok (.iload_n 1, 1) := by decide +kernel
theorem dX8_believesOf_143 : decode cX8_believesOf 143 = .ok (.iconst 0, 1) := by decide +kernel
theorem dX8_believesOf_144 : decode cX8_believesOf 144 = .ok (.invokevirtual 94, 3) := by decide +kernel
theorem dX8_believesOf_147 : decode cX8_believesOf 147 = .ok (.tableswitch 49 1 4 #[29, 32, 35, 43], 29) := by decide +kernel
theorem dX8_believesOf_176 : decode cX8_believesOf 176 = .ok (.iload 5, 2) := by decide +kernel
theorem dX8_believesOf_178 : decode cX8_believesOf 178 = .ok (.ireturn, 1) := by decide +kernel
theorem dX8_believesOf_179 : decode cX8_believesOf 179 = .ok (.iload 6, 2) := by decide +kernel
theorem dX8_believesOf_181 : decode cX8_believesOf 181 = .ok (.ireturn, 1) := by decide +kernel
theorem dX8_believesOf_182 : decode cX8_believesOf 182 = .ok (.iload 5, 2) := by decide +kernel
theorem dX8_believesOf_184 : decode cX8_believesOf 184 = .ok (.bipush 50, 2) := by decide +kernel
theorem dX8_believesOf_186 : decode cX8_believesOf 186 = .ok (.iadd, 1) := by decide +kernel
theorem dX8_believesOf_187 : decode cX8_believesOf 187 = .ok (.iconst 2, 1) := by decide +kernel
theorem dX8_believesOf_188 : decode cX8_believesOf 188 = .ok (.idiv, 1) := by decide +kernel
theorem dX8_believesOf_189 : decode cX8_believesOf 189 = .ok (.ireturn, 1) := by decide +kernel
theorem dX8_believesOf_190 : decode cX8_believesOf 190 = .ok (.bipush 100, 2) := by decide +kernel
theorem dX8_believesOf_192 : decode cX8_believesOf 192 = .ok (.iload 6, 2) := by decide +kernel
theorem dX8_believesOf_194 : decode cX8_believesOf 194 = .ok (.isub, 1) := by decide +kernel
theorem dX8_believesOf_195 : decode cX8_believesOf 195 = .ok (.ireturn, 1) := by decide +kernel
theorem dX8_believesOf_196 : decode cX8_believesOf 196 = .ok (.iload 4, 2) := by decide +kernel
theorem dX8_believesOf_198 : decode cX8_believesOf 198 = .ok (.ireturn, 1) := by decide +kernel
theorem dX8_isGuilty_0 : decode cX8_isGuilty 0 = .ok (.aload_n 0, 1) := by decide +kernel
theorem dX8_isGuilty_1 : decode cX8_isGuilty 1 = .ok (.iload_n 1, 1) := by decide +kernel
theorem dX8_isGuilty_2 : decode cX8_isGuilty 2 = .ok (.invokevirtual 115, 3) := by decide +kernel
theorem dX8_isGuilty_5 : decode cX8_isGuilty 5 = .ok (.aload_n 0, 1) := by decide +kernel
theorem dX8_isGuilty_6 : decode cX8_isGuilty 6 = .ok (.getfield 9, 3) := by decide +kernel
theorem dX8_isGuilty_9 : decode cX8_isGuilty 9 = .ok (.iconst 3, 1) := by decide +kernel
theorem dX8_isGuilty_10 : decode cX8_isGuilty 10 = .ok (.iaload, 1) := by decide +kernel
theorem dX8_isGuilty_11 : decode cX8_isGuilty 11 = .ok (.if_icmp .lt 7, 3) := by decide +kernel
theorem dX8_isGuilty_14 : decode cX8_isGuilty 14 = .ok (.iconst 1, 1) := by decide +kernel
theorem dX8_isGuilty_15 : decode cX8_isGuilty 15 = .ok (.goto 4, 3) := by decide +kernel
theorem dX8_isGuilty_18 : decode cX8_isGuilty 18 = .ok (.iconst 0, 1) := by decide +kernel
theorem dX8_isGuilty_19 : decode cX8_isGuilty 19 = .ok (.ireturn, 1) := by decide +kernel
theorem dX8_partnerOf_0 : decode cX8_partnerOf 0 = .ok (.aload_n 0, 1) := by decide +kernel
theorem dX8_partnerOf_1 : decode cX8_partnerOf 1 = .ok (.getfield 9, 3) := by decide +kernel
theorem dX8_partnerOf_4 : decode cX8_partnerOf 4 = .ok (.iconst 2, 1) := by decide +kernel
theorem dX8_partnerOf_5 : decode cX8_partnerOf 5 = .ok (.iaload, 1) := by decide +kernel
theorem dX8_partnerOf_6 : decode cX8_partnerOf 6 = .ok (.aload_n 0, 1) := by decide +kernel
theorem dX8_partnerOf_7 : decode cX8_partnerOf 7 = .ok (.getfield 9, 3) := by decide +kernel
theorem dX8_partnerOf_10 : decode cX8_partnerOf 10 = .ok (.iconst 5, 1) := by decide +kernel
theorem dX8_partnerOf_11 : decode cX8_partnerOf 11 = .ok (.iaload, 1) := by decide +kernel
theorem dX8_partnerOf_12 : decode cX8_partnerOf 12 = .ok (.iadd, 1) := by decide +kernel
theorem dX8_partnerOf_13 : decode cX8_partnerOf 13 = .ok (.iload_n 1, 1) := by decide +kernel
theorem dX8_partnerOf_14 : decode cX8_partnerOf 14 = .ok (.isub, 1) := by decide +kernel
theorem dX8_partnerOf_15 : decode cX8_partnerOf 15 = .ok (.aload_n 0, 1) := by decide +kernel
theorem dX8_partnerOf_16 : decode cX8_partnerOf 16 = .ok (.getfield 9, 3) := by decide +kernel
theorem dX8_partnerOf_19 : decode cX8_partnerOf 19 = .ok (.iconst 1, 1) := by decide +kernel
theorem dX8_partnerOf_20 : decode cX8_partnerOf 20 = .ok (.iaload, 1) := by decide +kernel
theorem dX8_partnerOf_21 : decode cX8_partnerOf 21 = .ok (.irem, 1) := by decide +kernel
theorem dX8_partnerOf_22 : decode cX8_partnerOf 22 = .ok (.istore_n 2, 1) := by decide +kernel
theorem dX8_partnerOf_23 : decode cX8_partnerOf 23 = .ok (.iload_n 2, 1) := by decide +kernel
theorem dX8_partnerOf_24 : decode cX8_partnerOf 24 = .ok (.ifCond .ge 14, 3) := by decide +kernel
theorem dX8_partnerOf_27 : decode cX8_partnerOf 27 = .ok (.iload_n 2, 1) := by decide +kernel
theorem dX8_partnerOf_28 : decode cX8_partnerOf 28 = .ok (.aload_n 0, 1) := by decide +kernel
theorem dX8_partnerOf_29 : decode cX8_partnerOf 29 = .ok (.getfield 9, 3) := by decide +kernel
theorem dX8_partnerOf_32 : decode cX8_partnerOf 32 = .ok (.iconst 1, 1) := by decide +kernel
theorem dX8_partnerOf_33 : decode cX8_partnerOf 33 = .ok (.iaload, 1) := by decide +kernel
theorem dX8_partnerOf_34 : decode cX8_partnerOf 34 = .ok (.iadd, 1) := by decide +kernel
theorem dX8_partnerOf_35 : decode cX8_partnerOf 35 = .ok (.goto 4, 3) := by decide +kernel
theorem dX8_partnerOf_38 : decode cX8_partnerOf 38 = .ok (.iload_n 2, 1) := by decide +kernel
theorem dX8_partnerOf_39 : decode cX8_partnerOf 39 = .ok (.ireturn, 1) := by decide +kernel
theorem dX8_tellsOf_0 : decode cX8_tellsOf 0 = .ok (.aload_n 0, 1) := by decide +kernel
theorem dX8_tellsOf_1 : decode cX8_tellsOf 1 = .ok (.iload_n 1, 1) := by decide +kernel
theorem dX8_tellsOf_2 : decode cX8_tellsOf 2 = .ok (.iconst 0, 1) := by decide +kernel
theorem dX8_tellsOf_3 : decode cX8_tellsOf 3 = .ok (.invokevirtual 94, 3) := by decide +kernel
theorem dX8_tellsOf_6 : decode cX8_tellsOf 6 = .ok (.istore_n 3, 1) := by decide +kernel
theorem dX8_tellsOf_7 : decode cX8_tellsOf 7 = .ok (.iload_n 3, 1) := by decide +kernel
theorem dX8_tellsOf_8 : decode cX8_tellsOf 8 = .ok (.iconst 5, 1) := by decide +kernel
theorem dX8_tellsOf_9 : decode cX8_tellsOf 9 = .ok (.if_icmp .eq 11, 3) := by decide +kernel
theorem dX8_tellsOf_12 : decode cX8_tellsOf 12 = .ok (.iload_n 1, 1) := by decide +kernel
theorem dX8_tellsOf_13 : decode cX8_tellsOf 13 = .ok (.aload_n 0, 1) := by decide +kernel
theorem dX8_tellsOf_14 : decode cX8_tellsOf 14 = .ok (.getfield 19, 3) := by decide +kernel
theorem dX8_tellsOf_17 : decode cX8_tellsOf 17 = .ok (.if_icmp .ne 7, 3) := by decide +kernel
theorem dX8_tellsOf_20 : decode cX8_tellsOf 20 = .ok (.iconst 0, 1) := by decide +kernel
theorem dX8_tellsOf_21 : decode cX8_tellsOf 21 = .ok (.goto 18, 3) := by decide +kernel
theorem dX8_tellsOf_24 : decode cX8_tellsOf 24 = .ok (.aload_n 0, 1) := by decide +kernel
theorem dX8_tellsOf_25 : decode cX8_tellsOf 25 = .ok (.iload_n 1, 1) := by decide +kernel
theorem dX8_tellsOf_26 : decode cX8_tellsOf 26 = .ok (.iconst 2, 1) := by decide +kernel
theorem dX8_tellsOf_27 : decode cX8_tellsOf 27 = .ok (.invokevirtual 94, 3) := by decide +kernel
theorem dX8_tellsOf_30 : decode cX8_tellsOf 30 = .ok (.aload_n 0, 1) := by decide +kernel
theorem dX8_tellsOf_31 : decode cX8_tellsOf 31 = .ok (.iload_n 2, 1) := by decide +kernel
theorem dX8_tellsOf_32 : decode cX8_tellsOf 32 = .ok (.iconst 2, 1) := by decide +kernel
theorem dX8_tellsOf_33 : decode cX8_tellsOf 33 = .ok (.invokevirtual 94, 3) := by decide +kernel
theorem dX8_tellsOf_36 : decode cX8_tellsOf 36 = .ok (.iconst (-1), 1) := by decide +kernel
theorem dX8_tellsOf_37 : decode cX8_tellsOf 37 = .ok (.ixor, 1) := by decide +kernel
theorem dX8_tellsOf_38 : decode cX8_tellsOf 38 = .ok (.iand, 1) := by decide +kernel
theorem dX8_tellsOf_39 : decode cX8_tellsOf 39 = .ok (.istore 4, 2) := by decide +kernel
theorem dX8_tellsOf_41 : decode cX8_tellsOf 41 = .ok (.iconst (-1), 1) := by decide +kernel
theorem dX8_tellsOf_42 : decode cX8_tellsOf 42 = .ok (.istore 5, 2) := by decide +kernel
theorem dX8_tellsOf_44 : decode cX8_tellsOf 44 = .ok (.iconst 0, 1) := by decide +kernel
theorem dX8_tellsOf_45 : decode cX8_tellsOf 45 = .ok (.istore 6, 2) := by decide +kernel
theorem dX8_tellsOf_47 : decode cX8_tellsOf 47 = .ok (.iload 6, 2) := by decide +kernel
theorem dX8_tellsOf_49 : decode cX8_tellsOf 49 = .ok (.bipush 8, 2) := by decide +kernel
theorem dX8_tellsOf_51 : decode cX8_tellsOf 51 = .ok (.if_icmp .ge 79, 3) := by decide +kernel
theorem dX8_tellsOf_54 : decode cX8_tellsOf 54 = .ok (.iload 4, 2) := by decide +kernel
theorem dX8_tellsOf_56 : decode cX8_tellsOf 56 = .ok (.iload 6, 2) := by decide +kernel
theorem dX8_tellsOf_58 : decode cX8_tellsOf 58 = .ok (.ishr, 1) := by decide +kernel
theorem dX8_tellsOf_59 : decode cX8_tellsOf 59 = .ok (.iconst 1, 1) := by decide +kernel
theorem dX8_tellsOf_60 : decode cX8_tellsOf 60 = .ok (.iand, 1) := by decide +kernel
theorem dX8_tellsOf_61 : decode cX8_tellsOf 61 = .ok (.iconst 1, 1) := by decide +kernel
theorem dX8_tellsOf_62 : decode cX8_tellsOf 62 = .ok (.if_icmp .ne 30, 3) := by decide +kernel
theorem dX8_tellsOf_65 : decode cX8_tellsOf 65 = .ok (.iload_n 3, 1) := by decide +kernel
theorem dX8_tellsOf_66 : decode cX8_tellsOf 66 = .ok (.iconst 2, 1) := by decide +kernel
theorem dX8_tellsOf_67 : decode cX8_tellsOf 67 = .ok (.if_icmp .eq 8, 3) := by decide +kernel
theorem dX8_tellsOf_70 : decode cX8_tellsOf 70 = .ok (.iload_n 3, 1) := by decide +kernel
theorem dX8_tellsOf_71 : decode cX8_tellsOf 71 = .ok (.iconst 4, 1) := by decide +kernel
theorem dX8_tellsOf_72 : decode cX8_tellsOf 72 = .ok (.if_icmp .ne 16, 3) := by decide +kernel
theorem dX8_tellsOf_75 : decode cX8_tellsOf 75 = .ok (.aload_n 0, 1) := by decide +kernel
theorem dX8_tellsOf_76 : decode cX8_tellsOf 76 = .ok (.getfield 9, 3) := by decide +kernel
theorem dX8_tellsOf_79 : decode cX8_tellsOf 79 = .ok (.bipush 8, 2) := by decide +kernel
theorem dX8_tellsOf_81 : decode cX8_tellsOf 81 = .ok (.iload 6, 2) := by decide +kernel
theorem dX8_tellsOf_83 : decode cX8_tellsOf 83 = .ok (.iadd, 1) := by decide +kernel
theorem dX8_tellsOf_84 : decode cX8_tellsOf 84 = .ok (.iaload, 1) := by decide +kernel
theorem dX8_tellsOf_85 : decode cX8_tellsOf 85 = .ok (.ifCond .le 7, 3) := by decide +kernel
theorem dX8_tellsOf_88 : decode cX8_tellsOf 88 = .ok (.iconst 1, 1) := by decide +kernel
theorem dX8_tellsOf_89 : decode cX8_tellsOf 89 = .ok (.goto 4, 3) := by decide +kernel
theorem dX8_tellsOf_92 : decode cX8_tellsOf 92 = .ok (.iconst 0, 1) := by decide +kernel
theorem dX8_tellsOf_93 : decode cX8_tellsOf 93 = .ok (.istore 7, 2) := by decide +kernel
theorem dX8_tellsOf_95 : decode cX8_tellsOf 95 = .ok (.iload 7, 2) := by decide +kernel
theorem dX8_tellsOf_97 : decode cX8_tellsOf 97 = .ok (.ifCond .eq 23, 3) := by decide +kernel
theorem dX8_tellsOf_100 : decode cX8_tellsOf 100 = .ok (.iload 5, 2) := by decide +kernel
theorem dX8_tellsOf_102 : decode cX8_tellsOf 102 = .ok (.ifCond .lt 13, 3) := by decide +kernel
theorem dX8_tellsOf_105 : decode cX8_tellsOf 105 = .ok (.iload_n 3, 1) := by decide +kernel
theorem dX8_tellsOf_106 : decode cX8_tellsOf 106 = .ok (.iconst 1, 1) := by decide +kernel
theorem dX8_tellsOf_107 : decode cX8_tellsOf 107 = .ok (.if_icmp .eq 8, 3) := by decide +kernel
theorem dX8_tellsOf_110 : decode cX8_tellsOf 110 = .ok (.iload_n 3, 1) := by decide +kernel
theorem dX8_tellsOf_111 : decode cX8_tellsOf 111 = .ok (.iconst 3, 1) := by decide +kernel
theorem dX8_tellsOf_112 : decode cX8_tellsOf 112 = .ok (.if_icmp .ne 8, 3) := by decide +kernel
theorem dX8_tellsOf_115 : decode cX8_tellsOf 115 = .ok (.iload 6, 2) := by decide +kernel
theorem dX8_tellsOf_117 : decode cX8_tellsOf 117 = .ok (.goto 5, 3) := by decide +kernel
theorem dX8_tellsOf_120 : decode cX8_tellsOf 120 = .ok (.iload 5, 2) := by decide +kernel
theorem dX8_tellsOf_122 : decode cX8_tellsOf 122 = .ok (.istore 5, 2) := by decide +kernel
theorem dX8_tellsOf_124 : decode cX8_tellsOf 124 = .ok (.iinc 6 1, 3) := by decide +kernel
theorem dX8_tellsOf_127 : decode cX8_tellsOf 127 = .ok (.goto (-80), 3) := by decide +kernel
theorem dX8_tellsOf_130 : decode cX8_tellsOf 130 = .ok (.iload 5, 2) := by decide +kernel
theorem dX8_tellsOf_132 : decode cX8_tellsOf 132 = .ok (.ireturn, 1) := by decide +kernel
theorem dX8_worthOf_0 : decode cX8_worthOf 0 = .ok (.aload_n 0, 1) := by decide +kernel
theorem dX8_worthOf_1 : decode cX8_worthOf 1 = .ok (.iload_n 1, 1) := by decide +kernel
theorem dX8_worthOf_2 : decode cX8_worthOf 2 = .ok (.iconst 3, 1) := by decide +kernel
theorem dX8_worthOf_3 : decode cX8_worthOf 3 = .ok (.invokevirtual 94, 3) := by decide +kernel
theorem dX8_worthOf_6 : decode cX8_worthOf 6 = .ok (.istore_n 2, 1) := by decide +kernel
theorem dX8_worthOf_7 : decode cX8_worthOf 7 = .ok (.aload_n 0, 1) := by decide +kernel
theorem dX8_worthOf_8 : decode cX8_worthOf 8 = .ok (.iload_n 1, 1) := by decide +kernel
theorem dX8_worthOf_9 : decode cX8_worthOf 9 = .ok (.iconst 0, 1) := by decide +kernel
theorem dX8_worthOf_10 : decode cX8_worthOf 10 = .ok (.invokevirtual 94, 3) := by decide +kernel
theorem dX8_worthOf_13 : decode cX8_worthOf 13 = .ok (.tableswitch 57 1 5 #[35, 39, 44, 50, 55], 35) := by decide +kernel
theorem dX8_worthOf_48 : decode cX8_worthOf 48 = .ok (.iload_n 2, 1) := by decide +kernel
theorem dX8_worthOf_49 : decode cX8_worthOf 49 = .ok (.iconst 5, 1) := by decide +kernel
theorem dX8_worthOf_50 : decode cX8_worthOf 50 = .ok (.iadd, 1) := by decide +kernel
theorem dX8_worthOf_51 : decode cX8_worthOf 51 = .ok (.ireturn, 1) := by decide +kernel
theorem dX8_worthOf_52 : decode cX8_worthOf 52 = .ok (.bipush 99, 2) := by decide +kernel
theorem dX8_worthOf_54 : decode cX8_worthOf 54 = .ok (.iload_n 2, 1) := by decide +kernel
theorem dX8_worthOf_55 : decode cX8_worthOf 55 = .ok (.isub, 1) := by decide +kernel
theorem dX8_worthOf_56 : decode cX8_worthOf 56 = .ok (.ireturn, 1) := by decide +kernel
theorem dX8_worthOf_57 : decode cX8_worthOf 57 = .ok (.iconst 2, 1) := by decide +kernel
theorem dX8_worthOf_58 : decode cX8_worthOf 58 = .ok (.iload_n 2, 1) := by decide +kernel
theorem dX8_worthOf_59 : decode cX8_worthOf 59 = .ok (.iconst 5, 1) := by decide +kernel
theorem dX8_worthOf_60 : decode cX8_worthOf 60 = .ok (.iadd, 1) := by decide +kernel
theorem dX8_worthOf_61 : decode cX8_worthOf 61 = .ok (.imul, 1) := by decide +kernel
theorem dX8_worthOf_62 : decode cX8_worthOf 62 = .ok (.ireturn, 1) := by decide +kernel
theorem dX8_worthOf_63 : decode cX8_worthOf 63 = .ok (.bipush 92, 2) := by decide +kernel
theorem dX8_worthOf_65 : decode cX8_worthOf 65 = .ok (.iload_n 2, 1) := by decide +kernel
theorem dX8_worthOf_66 : decode cX8_worthOf 66 = .ok (.isub, 1) := by decide +kernel
theorem dX8_worthOf_67 : decode cX8_worthOf 67 = .ok (.ireturn, 1) := by decide +kernel
theorem dX8_worthOf_68 : decode cX8_worthOf 68 = .ok (.iconst 2, 1) := by decide +kernel
theorem dX8_worthOf_69 : decode cX8_worthOf 69 = .ok (.ireturn, 1) := by decide +kernel
theorem dX8_worthOf_70 : decode cX8_worthOf 70 = .ok (.iload_n 2, 1) := by decide +kernel
theorem dX8_worthOf_71 : decode cX8_worthOf 71 = .ok (.ireturn, 1) := by decide +kernel
theorem dX8_told_0 : decode cX8_told 0 = .ok (.aload_n 0, 1) := by decide +kernel
theorem dX8_told_1 : decode cX8_told 1 = .ok (.iload_n 1, 1) := by decide +kernel
theorem dX8_told_2 : decode cX8_told 2 = .ok (.invokevirtual 118, 3) := by decide +kernel
theorem dX8_told_5 : decode cX8_told 5 = .ok (.ifCond .ne 6, 3) := by decide +kernel
theorem dX8_told_8 : decode cX8_told 8 = .ok (.ldc 88, 2) := by decide +kernel
theorem dX8_told_10 : decode cX8_told 10 = .ok (.ireturn, 1) := by decide +kernel
theorem dX8_told_11 : decode cX8_told 11 = .ok (.iload_n 2, 1) := by decide +kernel
theorem dX8_told_12 : decode cX8_told 12 = .ok (.tableswitch 91 0 8 #[52, 52, 52, 52, 52, 59, 65, 79, 85], 52) := by decide +kernel
theorem dX8_told_64 : decode cX8_told 64 = .ok (.aload_n 0, 1) := by decide +kernel
theorem dX8_told_65 : decode cX8_told 65 = .ok (.iload_n 1, 1) := by decide +kernel
theorem dX8_told_66 : decode cX8_told 66 = .ok (.iload_n 2, 1) := by decide +kernel
theorem dX8_told_67 : decode cX8_told 67 = .ok (.invokevirtual 94, 3) := by decide +kernel
theorem dX8_told_70 : decode cX8_told 70 = .ok (.ireturn, 1) := by decide +kernel
theorem dX8_told_71 : decode cX8_told 71 = .ok (.aload_n 0, 1) := by decide +kernel
theorem dX8_told_72 : decode cX8_told 72 = .ok (.iload_n 1, 1) := by decide +kernel
theorem dX8_told_73 : decode cX8_told 73 = .ok (.invokevirtual 115, 3) := by decide +kernel
theorem dX8_told_76 : decode cX8_told 76 = .ok (.ireturn, 1) := by decide +kernel
theorem dX8_told_77 : decode cX8_told 77 = .ok (.aload_n 0, 1) := by decide +kernel
theorem dX8_told_78 : decode cX8_told 78 = .ok (.iload_n 1, 1) := by decide +kernel
theorem dX8_told_79 : decode cX8_told 79 = .ok (.invokevirtual 122, 3) := by decide +kernel
theorem dX8_told_82 : decode cX8_told 82 = .ok (.ifCond .eq 7, 3) := by decide +kernel
theorem dX8_told_85 : decode cX8_told 85 = .ok (.iconst 1, 1) := by decide +kernel
theorem dX8_told_86 : decode cX8_told 86 = .ok (.goto 4, 3) := by decide +kernel
theorem dX8_told_89 : decode cX8_told 89 = .ok (.iconst 0, 1) := by decide +kernel
theorem dX8_told_90 : decode cX8_told 90 = .ok (.ireturn, 1) := by decide +kernel
theorem dX8_told_91 : decode cX8_told 91 = .ok (.aload_n 0, 1) := by decide +kernel
theorem dX8_told_92 : decode cX8_told 92 = .ok (.iload_n 1, 1) := by decide +kernel
theorem dX8_told_93 : decode cX8_told 93 = .ok (.invokevirtual 125, 3) := by decide +kernel
theorem dX8_told_96 : decode cX8_told 96 = .ok (.ireturn, 1) := by decide +kernel
theorem dX8_told_97 : decode cX8_told 97 = .ok (.aload_n 0, 1) := by decide +kernel
theorem dX8_told_98 : decode cX8_told 98 = .ok (.iload_n 1, 1) := by decide +kernel
theorem dX8_told_99 : decode cX8_told 99 = .ok (.invokevirtual 128, 3) := by decide +kernel
theorem dX8_told_102 : decode cX8_told 102 = .ok (.ireturn, 1) := by decide +kernel
theorem dX8_told_103 : decode cX8_told 103 = .ok (.ldc 88, 2) := by decide +kernel
theorem dX8_told_105 : decode cX8_told 105 = .ok (.ireturn, 1) := by decide +kernel
theorem dX8_tells_0 : decode cX8_tells 0 = .ok (.aload_n 0, 1) := by decide +kernel
theorem dX8_tells_1 : decode cX8_tells 1 = .ok (.iload_n 1, 1) := by decide +kernel
theorem dX8_tells_2 : decode cX8_tells 2 = .ok (.invokevirtual 118, 3) := by decide +kernel
theorem dX8_tells_5 : decode cX8_tells 5 = .ok (.ifCond .eq 28, 3) := by decide +kernel
theorem dX8_tells_8 : decode cX8_tells 8 = .ok (.aload_n 0, 1) := by decide +kernel
theorem dX8_tells_9 : decode cX8_tells 9 = .ok (.iload_n 2, 1) := by decide +kernel
theorem dX8_tells_10 : decode cX8_tells 10 = .ok (.invokevirtual 118, 3) := by decide +kernel
theorem dX8_tells_13 : decode cX8_tells 13 = .ok (.ifCond .eq 20, 3) := by decide +kernel
theorem dX8_tells_16 : decode cX8_tells 16 = .ok (.iload_n 1, 1) := by decide +kernel
theorem dX8_tells_17 : decode cX8_tells 17 = .ok (.iload_n 2, 1) := by decide +kernel
theorem dX8_tells_18 : decode cX8_tells 18 = .ok (.if_icmp .eq 15, 3) := by decide +kernel
theorem dX8_tells_21 : decode cX8_tells 21 = .ok (.aload_n 0, 1) := by decide +kernel
theorem dX8_tells_22 : decode cX8_tells 22 = .ok (.iload_n 1, 1) := by decide +kernel
theorem dX8_tells_23 : decode cX8_tells 23 = .ok (.iload_n 2, 1) := by decide +kernel
theorem dX8_tells_24 : decode cX8_tells 24 = .ok (.invokevirtual 131, 3) := by decide +kernel
theorem dX8_tells_27 : decode cX8_tells 27 = .ok (.invokestatic 134, 3) := by decide +kernel
theorem dX8_tells_30 : decode cX8_tells 30 = .ok (.goto 5, 3) := by decide +kernel
theorem dX8_tells_33 : decode cX8_tells 33 = .ok (.ldc 88, 2) := by decide +kernel
theorem dX8_tells_35 : decode cX8_tells 35 = .ok (.ireturn, 1) := by decide +kernel
theorem dX8_isUnder_0 : decode cX8_isUnder 0 = .ok (.iload_n 1, 1) := by decide +kernel
theorem dX8_isUnder_1 : decode cX8_isUnder 1 = .ok (.ifCond .eq 28, 3) := by decide +kernel
theorem dX8_isUnder_4 : decode cX8_isUnder 4 = .ok (.iload_n 0, 1) := by decide +kernel
theorem dX8_isUnder_5 : decode cX8_isUnder 5 = .ok (.iload_n 1, 1) := by decide +kernel
theorem dX8_isUnder_6 : decode cX8_isUnder 6 = .ok (.if_icmp .eq 23, 3) := by decide +kernel
theorem dX8_isUnder_9 : decode cX8_isUnder 9 = .ok (.iload_n 1, 1) := by decide +kernel
theorem dX8_isUnder_10 : decode cX8_isUnder 10 = .ok (.iconst 1, 1) := by decide +kernel
theorem dX8_isUnder_11 : decode cX8_isUnder 11 = .ok (.if_icmp .ne 8, 3) := by decide +kernel
theorem dX8_isUnder_14 : decode cX8_isUnder 14 = .ok (.iload_n 0, 1) := by decide +kernel
theorem dX8_isUnder_15 : decode cX8_isUnder 15 = .ok (.iconst 3, 1) := by decide +kernel
theorem dX8_isUnder_16 : decode cX8_isUnder 16 = .ok (.if_icmp .eq 13, 3) := by decide +kernel
theorem dX8_isUnder_19 : decode cX8_isUnder 19 = .ok (.iload_n 1, 1) := by decide +kernel
theorem dX8_isUnder_20 : decode cX8_isUnder 20 = .ok (.iconst 2, 1) := by decide +kernel
theorem dX8_isUnder_21 : decode cX8_isUnder 21 = .ok (.if_icmp .ne 12, 3) := by decide +kernel
theorem dX8_isUnder_24 : decode cX8_isUnder 24 = .ok (.iload_n 0, 1) := by decide +kernel
theorem dX8_isUnder_25 : decode cX8_isUnder 25 = .ok (.iconst 4, 1) := by decide +kernel
theorem dX8_isUnder_26 : decode cX8_isUnder 26 = .ok (.if_icmp .ne 7, 3) := by decide +kernel
theorem dX8_isUnder_29 : decode cX8_isUnder 29 = .ok (.iconst 1, 1) := by decide +kernel
theorem dX8_isUnder_30 : decode cX8_isUnder 30 = .ok (.goto 4, 3) := by decide +kernel
theorem dX8_isUnder_33 : decode cX8_isUnder 33 = .ok (.iconst 0, 1) := by decide +kernel
theorem dX8_isUnder_34 : decode cX8_isUnder 34 = .ok (.ireturn, 1) := by decide +kernel
theorem dX8_as_0 : decode cX8_as 0 = .ok (.aload_n 0, 1) := by decide +kernel
theorem dX8_as_1 : decode cX8_as 1 = .ok (.iload_n 1, 1) := by decide +kernel
theorem dX8_as_2 : decode cX8_as 2 = .ok (.invokevirtual 118, 3) := by decide +kernel
theorem dX8_as_5 : decode cX8_as 5 = .ok (.ifCond .eq 12, 3) := by decide +kernel
theorem dX8_as_8 : decode cX8_as 8 = .ok (.iload_n 2, 1) := by decide +kernel
theorem dX8_as_9 : decode cX8_as 9 = .ok (.iconst 0, 1) := by decide +kernel
theorem dX8_as_10 : decode cX8_as 10 = .ok (.iconst 5, 1) := by decide +kernel
theorem dX8_as_11 : decode cX8_as 11 = .ok (.invokestatic 80, 3) := by decide +kernel
theorem dX8_as_14 : decode cX8_as 14 = .ok (.ifCond .ne 6, 3) := by decide +kernel
theorem dX8_as_17 : decode cX8_as 17 = .ok (.ldc 88, 2) := by decide +kernel
theorem dX8_as_19 : decode cX8_as 19 = .ok (.ireturn, 1) := by decide +kernel
theorem dX8_as_20 : decode cX8_as 20 = .ok (.aload_n 0, 1) := by decide +kernel
theorem dX8_as_21 : decode cX8_as 21 = .ok (.iload_n 1, 1) := by decide +kernel
theorem dX8_as_22 : decode cX8_as 22 = .ok (.iconst 0, 1) := by decide +kernel
theorem dX8_as_23 : decode cX8_as 23 = .ok (.invokevirtual 94, 3) := by decide +kernel
theorem dX8_as_26 : decode cX8_as 26 = .ok (.iload_n 2, 1) := by decide +kernel
theorem dX8_as_27 : decode cX8_as 27 = .ok (.invokestatic 137, 3) := by decide +kernel
theorem dX8_as_30 : decode cX8_as 30 = .ok (.ifCond .eq 12, 3) := by decide +kernel
theorem dX8_as_33 : decode cX8_as 33 = .ok (.aload_n 0, 1) := by decide +kernel
theorem dX8_as_34 : decode cX8_as 34 = .ok (.iload_n 1, 1) := by decide +kernel
theorem dX8_as_35 : decode cX8_as 35 = .ok (.iconst 3, 1) := by decide +kernel
theorem dX8_as_36 : decode cX8_as 36 = .ok (.invokevirtual 94, 3) := by decide +kernel
theorem dX8_as_39 : decode cX8_as 39 = .ok (.goto 5, 3) := by decide +kernel
theorem dX8_as_42 : decode cX8_as 42 = .ok (.ldc 141, 2) := by decide +kernel
theorem dX8_as_44 : decode cX8_as 44 = .ok (.ireturn, 1) := by decide +kernel
theorem dX8_turns_0 : decode cX8_turns 0 = .ok (.aload_n 0, 1) := by decide +kernel
theorem dX8_turns_1 : decode cX8_turns 1 = .ok (.iload_n 1, 1) := by decide +kernel
theorem dX8_turns_2 : decode cX8_turns 2 = .ok (.invokevirtual 118, 3) := by decide +kernel
theorem dX8_turns_5 : decode cX8_turns 5 = .ok (.ifCond .eq 26, 3) := by decide +kernel
theorem dX8_turns_8 : decode cX8_turns 8 = .ok (.iload_n 2, 1) := by decide +kernel
theorem dX8_turns_9 : decode cX8_turns 9 = .ok (.iconst 0, 1) := by decide +kernel
theorem dX8_turns_10 : decode cX8_turns 10 = .ok (.iconst 5, 1) := by decide +kernel
theorem dX8_turns_11 : decode cX8_turns 11 = .ok (.invokestatic 80, 3) := by decide +kernel
theorem dX8_turns_14 : decode cX8_turns 14 = .ok (.ifCond .eq 17, 3) := by decide +kernel
theorem dX8_turns_17 : decode cX8_turns 17 = .ok (.aload_n 0, 1) := by decide +kernel
theorem dX8_turns_18 : decode cX8_turns 18 = .ok (.bipush 16, 2) := by decide +kernel
theorem dX8_turns_20 : decode cX8_turns 20 = .ok (.iconst 5, 1) := by decide +kernel
theorem dX8_turns_21 : decode cX8_turns 21 = .ok (.iload_n 1, 1) := by decide +kernel
theorem dX8_turns_22 : decode cX8_turns 22 = .ok (.imul, 1) := by decide +kernel
theorem dX8_turns_23 : decode cX8_turns 23 = .ok (.iadd, 1) := by decide +kernel
theorem dX8_turns_24 : decode cX8_turns 24 = .ok (.iload_n 2, 1) := by decide +kernel
theorem dX8_turns_25 : decode cX8_turns 25 = .ok (.invokevirtual 142, 3) := by decide +kernel
theorem dX8_turns_28 : decode cX8_turns 28 = .ok (.goto 5, 3) := by decide +kernel
theorem dX8_turns_31 : decode cX8_turns 31 = .ok (.ldc 88, 2) := by decide +kernel
theorem dX8_turns_33 : decode cX8_turns 33 = .ok (.ireturn, 1) := by decide +kernel
theorem dX8_set_0 : decode cX8_set 0 = .ok (.aload_n 0, 1) := by decide +kernel
theorem dX8_set_1 : decode cX8_set 1 = .ok (.iload_n 1, 1) := by decide +kernel
theorem dX8_set_2 : decode cX8_set 2 = .ok (.invokevirtual 118, 3) := by decide +kernel
theorem dX8_set_5 : decode cX8_set 5 = .ok (.ifCond .eq 42, 3) := by decide +kernel
theorem dX8_set_8 : decode cX8_set 8 = .ok (.iload_n 2, 1) := by decide +kernel
theorem dX8_set_9 : decode cX8_set 9 = .ok (.iconst 1, 1) := by decide +kernel
theorem dX8_set_10 : decode cX8_set 10 = .ok (.iconst 3, 1) := by decide +kernel
theorem dX8_set_11 : decode cX8_set 11 = .ok (.invokestatic 80, 3) := by decide +kernel
theorem dX8_set_14 : decode cX8_set 14 = .ok (.ifCond .eq 33, 3) := by decide +kernel
theorem dX8_set_17 : decode cX8_set 17 = .ok (.iload_n 3, 1) := by decide +kernel
theorem dX8_set_18 : decode cX8_set 18 = .ok (.iconst 0, 1) := by decide +kernel
theorem dX8_set_19 : decode cX8_set 19 = .ok (.iload_n 2, 1) := by decide +kernel
theorem dX8_set_20 : decode cX8_set 20 = .ok (.iconst 1, 1) := by decide +kernel
theorem dX8_set_21 : decode cX8_set 21 = .ok (.if_icmp .ne 7, 3) := by decide +kernel
theorem dX8_set_24 : decode cX8_set 24 = .ok (.iconst 1, 1) := by decide +kernel
theorem dX8_set_25 : decode cX8_set 25 = .ok (.goto 16, 3) := by decide +kernel
theorem dX8_set_28 : decode cX8_set 28 = .ok (.iload_n 2, 1) := by decide +kernel
theorem dX8_set_29 : decode cX8_set 29 = .ok (.iconst 2, 1) := by decide +kernel
theorem dX8_set_30 : decode cX8_set 30 = .ok (.if_icmp .ne 9, 3) := by decide +kernel
theorem dX8_set_33 : decode cX8_set 33 = .ok (.sipush 255, 3) := by decide +kernel
theorem dX8_set_36 : decode cX8_set 36 = .ok (.goto 5, 3) := by decide +kernel
theorem dX8_set_39 : decode cX8_set 39 = .ok (.bipush 40, 2) := by decide +kernel
theorem dX8_set_41 : decode cX8_set 41 = .ok (.invokestatic 80, 3) := by decide +kernel
theorem dX8_set_44 : decode cX8_set 44 = .ok (.ifCond .ne 6, 3) := by decide +kernel
theorem dX8_set_47 : decode cX8_set 47 = .ok (.ldc 88, 2) := by decide +kernel
theorem dX8_set_49 : decode cX8_set 49 = .ok (.ireturn, 1) := by decide +kernel
theorem dX8_set_50 : decode cX8_set 50 = .ok (.aload_n 0, 1) := by decide +kernel
theorem dX8_set_51 : decode cX8_set 51 = .ok (.bipush 16, 2) := by decide +kernel
theorem dX8_set_53 : decode cX8_set 53 = .ok (.iconst 5, 1) := by decide +kernel
theorem dX8_set_54 : decode cX8_set 54 = .ok (.iload_n 1, 1) := by decide +kernel
theorem dX8_set_55 : decode cX8_set 55 = .ok (.imul, 1) := by decide +kernel
theorem dX8_set_56 : decode cX8_set 56 = .ok (.iadd, 1) := by decide +kernel
theorem dX8_set_57 : decode cX8_set 57 = .ok (.iload_n 2, 1) := by decide +kernel
theorem dX8_set_58 : decode cX8_set 58 = .ok (.iadd, 1) := by decide +kernel
theorem dX8_set_59 : decode cX8_set 59 = .ok (.iload_n 3, 1) := by decide +kernel
theorem dX8_set_60 : decode cX8_set 60 = .ok (.invokevirtual 142, 3) := by decide +kernel
theorem dX8_set_63 : decode cX8_set 63 = .ok (.ireturn, 1) := by decide +kernel
theorem dX8_weigh_0 : decode cX8_weigh 0 = .ok (.iload_n 1, 1) := by decide +kernel
theorem dX8_weigh_1 : decode cX8_weigh 1 = .ok (.invokestatic 145, 3) := by decide +kernel
theorem dX8_weigh_4 : decode cX8_weigh 4 = .ok (.ifCond .eq 26, 3) := by decide +kernel
theorem dX8_weigh_7 : decode cX8_weigh 7 = .ok (.iload_n 2, 1) := by decide +kernel
theorem dX8_weigh_8 : decode cX8_weigh 8 = .ok (.bipush (-50), 2) := by decide +kernel
theorem dX8_weigh_10 : decode cX8_weigh 10 = .ok (.bipush 50, 2) := by decide +kernel
theorem dX8_weigh_12 : decode cX8_weigh 12 = .ok (.invokestatic 80, 3) := by decide +kernel
theorem dX8_weigh_15 : decode cX8_weigh 15 = .ok (.ifCond .eq 15, 3) := by decide +kernel
theorem dX8_weigh_18 : decode cX8_weigh 18 = .ok (.aload_n 0, 1) := by decide +kernel
theorem dX8_weigh_19 : decode cX8_weigh 19 = .ok (.bipush 8, 2) := by decide +kernel
theorem dX8_weigh_21 : decode cX8_weigh 21 = .ok (.iload_n 1, 1) := by decide +kernel
theorem dX8_weigh_22 : decode cX8_weigh 22 = .ok (.iadd, 1) := by decide +kernel
theorem dX8_weigh_23 : decode cX8_weigh 23 = .ok (.iload_n 2, 1) := by decide +kernel
theorem dX8_weigh_24 : decode cX8_weigh 24 = .ok (.invokevirtual 142, 3) := by decide +kernel
theorem dX8_weigh_27 : decode cX8_weigh 27 = .ok (.goto 5, 3) := by decide +kernel
theorem dX8_weigh_30 : decode cX8_weigh 30 = .ok (.ldc 88, 2) := by decide +kernel
theorem dX8_weigh_32 : decode cX8_weigh 32 = .ok (.ireturn, 1) := by decide +kernel
theorem dX8_rule_0 : decode cX8_rule 0 = .ok (.iload_n 1, 1) := by decide +kernel
theorem dX8_rule_1 : decode cX8_rule 1 = .ok (.iconst 0, 1) := by decide +kernel
theorem dX8_rule_2 : decode cX8_rule 2 = .ok (.iconst 2, 1) := by decide +kernel
theorem dX8_rule_3 : decode cX8_rule 3 = .ok (.invokestatic 80, 3) := by decide +kernel
theorem dX8_rule_6 : decode cX8_rule 6 = .ok (.ifCond .eq 34, 3) := by decide +kernel
theorem dX8_rule_9 : decode cX8_rule 9 = .ok (.iload_n 2, 1) := by decide +kernel
theorem dX8_rule_10 : decode cX8_rule 10 = .ok (.iconst 0, 1) := by decide +kernel
theorem dX8_rule_11 : decode cX8_rule 11 = .ok (.iload_n 1, 1) := by decide +kernel
theorem dX8_rule_12 : decode cX8_rule 12 = .ok (.iconst 2, 1) := by decide +kernel
theorem dX8_rule_13 : decode cX8_rule 13 = .ok (.if_icmp .ne 8, 3) := by decide +kernel
theorem dX8_rule_16 : decode cX8_rule 16 = .ok (.bipush 9, 2) := by decide +kernel
theorem dX8_rule_18 : decode cX8_rule 18 = .ok (.goto 5, 3) := by decide +kernel
theorem dX8_rule_21 : decode cX8_rule 21 = .ok (.bipush 100, 2) := by decide +kernel
theorem dX8_rule_23 : decode cX8_rule 23 = .ok (.invokestatic 80, 3) := by decide +kernel
theorem dX8_rule_26 : decode cX8_rule 26 = .ok (.ifCond .eq 14, 3) := by decide +kernel
theorem dX8_rule_29 : decode cX8_rule 29 = .ok (.aload_n 0, 1) := by decide +kernel
theorem dX8_rule_30 : decode cX8_rule 30 = .ok (.iconst 3, 1) := by decide +kernel
theorem dX8_rule_31 : decode cX8_rule 31 = .ok (.iload_n 1, 1) := by decide +kernel
theorem dX8_rule_32 : decode cX8_rule 32 = .ok (.iadd, 1) := by decide +kernel
theorem dX8_rule_33 : decode cX8_rule 33 = .ok (.iload_n 2, 1) := by decide +kernel
theorem dX8_rule_34 : decode cX8_rule 34 = .ok (.invokevirtual 142, 3) := by decide +kernel
theorem dX8_rule_37 : decode cX8_rule 37 = .ok (.goto 5, 3) := by decide +kernel
theorem dX8_rule_40 : decode cX8_rule 40 = .ok (.ldc 88, 2) := by decide +kernel
theorem dX8_rule_42 : decode cX8_rule 42 = .ok (.ireturn, 1) := by decide +kernel
theorem dX8_draw_0 : decode cX8_draw 0 = .ok (.aload_n 0, 1) := by decide +kernel
theorem dX8_draw_1 : decode cX8_draw 1 = .ok (.getfield 9, 3) := by decide +kernel
theorem dX8_draw_4 : decode cX8_draw 4 = .ok (.iconst 0, 1) := by decide +kernel
theorem dX8_draw_5 : decode cX8_draw 5 = .ok (.aload_n 0, 1) := by decide +kernel
theorem dX8_draw_6 : decode cX8_draw 6 = .ok (.getfield 9, 3) := by decide +kernel
theorem dX8_draw_9 : decode cX8_draw 9 = .ok (.iconst 0, 1) := by decide +kernel
theorem dX8_draw_10 : decode cX8_draw 10 = .ok (.iaload, 1) := by decide +kernel
theorem dX8_draw_11 : decode cX8_draw 11 = .ok (.ldc 148, 2) := by decide +kernel
theorem dX8_draw_13 : decode cX8_draw 13 = .ok (.imul, 1) := by decide +kernel
theorem dX8_draw_14 : decode cX8_draw 14 = .ok (.sipush 12345, 3) := by decide +kernel
theorem dX8_draw_17 : decode cX8_draw 17 = .ok (.iadd, 1) := by decide +kernel
theorem dX8_draw_18 : decode cX8_draw 18 = .ok (.iastore, 1) := by decide +kernel
theorem dX8_draw_19 : decode cX8_draw 19 = .ok (.aload_n 0, 1) := by decide +kernel
theorem dX8_draw_20 : decode cX8_draw 20 = .ok (.getfield 9, 3) := by decide +kernel
theorem dX8_draw_23 : decode cX8_draw 23 = .ok (.iconst 0, 1) := by decide +kernel
theorem dX8_draw_24 : decode cX8_draw 24 = .ok (.iaload, 1) := by decide +kernel
theorem dX8_draw_25 : decode cX8_draw 25 = .ok (.bipush 8, 2) := by decide +kernel
theorem dX8_draw_27 : decode cX8_draw 27 = .ok (.iushr, 1) := by decide +kernel
theorem dX8_draw_28 : decode cX8_draw 28 = .ok (.ireturn, 1) := by decide +kernel
theorem dX8_deal_0 : decode cX8_deal 0 = .ok (.iload_n 1, 1) := by decide +kernel
theorem dX8_deal_1 : decode cX8_deal 1 = .ok (.iconst 1, 1) := by decide +kernel
theorem dX8_deal_2 : decode cX8_deal 2 = .ok (.bipush 10, 2) := by decide +kernel
theorem dX8_deal_4 : decode cX8_deal 4 = .ok (.invokestatic 80, 3) := by decide +kernel
theorem dX8_deal_7 : decode cX8_deal 7 = .ok (.ifCond .ne 6, 3) := by decide +kernel
theorem dX8_deal_10 : decode cX8_deal 10 = .ok (.ldc 88, 2) := by decide +kernel
theorem dX8_deal_12 : decode cX8_deal 12 = .ok (.ireturn, 1) := by decide +kernel
theorem dX8_deal_13 : decode cX8_deal 13 = .ok (.iconst 0, 1) := by decide +kernel
theorem dX8_deal_14 : decode cX8_deal 14 = .ok (.istore_n 2, 1) := by decide +kernel
theorem dX8_deal_15 : decode cX8_deal 15 = .ok (.iload_n 2, 1) := by decide +kernel
theorem dX8_deal_16 : decode cX8_deal 16 = .ok (.iload_n 1, 1) := by decide +kernel
theorem dX8_deal_17 : decode cX8_deal 17 = .ok (.if_icmp .ge 64, 3) := by decide +kernel
theorem dX8_deal_20 : decode cX8_deal 20 = .ok (.aload_n 0, 1) := by decide +kernel
theorem dX8_deal_21 : decode cX8_deal 21 = .ok (.getfield 9, 3) := by decide +kernel
theorem dX8_deal_24 : decode cX8_deal 24 = .ok (.iconst 1, 1) := by decide +kernel
theorem dX8_deal_25 : decode cX8_deal 25 = .ok (.iaload, 1) := by decide +kernel
theorem dX8_deal_26 : decode cX8_deal 26 = .ok (.bipush 10, 2) := by decide +kernel
theorem dX8_deal_28 : decode cX8_deal 28 = .ok (.if_icmp .ge 53, 3) := by decide +kernel
theorem dX8_deal_31 : decode cX8_deal 31 = .ok (.aload_n 0, 1) := by decide +kernel
theorem dX8_deal_32 : decode cX8_deal 32 = .ok (.invokevirtual 149, 3) := by decide +kernel
theorem dX8_deal_35 : decode cX8_deal 35 = .ok (.bipush 6, 2) := by decide +kernel
theorem dX8_deal_37 : decode cX8_deal 37 = .ok (.irem, 1) := by decide +kernel
theorem dX8_deal_38 : decode cX8_deal 38 = .ok (.istore_n 3, 1) := by decide +kernel
theorem dX8_deal_39 : decode cX8_deal 39 = .ok (.aload_n 0, 1) := by decide +kernel
theorem dX8_deal_40 : decode cX8_deal 40 = .ok (.invokevirtual 149, 3) := by decide +kernel
theorem dX8_deal_43 : decode cX8_deal 43 = .ok (.iconst 2, 1) := by decide +kernel
theorem dX8_deal_44 : decode cX8_deal 44 = .ok (.irem, 1) := by decide +kernel
theorem dX8_deal_45 : decode cX8_deal 45 = .ok (.istore 4, 2) := by decide +kernel
theorem dX8_deal_47 : decode cX8_deal 47 = .ok (.aload_n 0, 1) := by decide +kernel
theorem dX8_deal_48 : decode cX8_deal 48 = .ok (.invokevirtual 149, 3) := by decide +kernel
theorem dX8_deal_51 : decode cX8_deal 51 = .ok (.sipush 256, 3) := by decide +kernel
theorem dX8_deal_54 : decode cX8_deal 54 = .ok (.irem, 1) := by decide +kernel
theorem dX8_deal_55 : decode cX8_deal 55 = .ok (.istore 5, 2) := by decide +kernel
theorem dX8_deal_57 : decode cX8_deal 57 = .ok (.aload_n 0, 1) := by decide +kernel
theorem dX8_deal_58 : decode cX8_deal 58 = .ok (.iload_n 3, 1) := by decide +kernel
theorem dX8_deal_59 : decode cX8_deal 59 = .ok (.iload 4, 2) := by decide +kernel
theorem dX8_deal_61 : decode cX8_deal 61 = .ok (.iload 5, 2) := by decide +kernel
theorem dX8_deal_63 : decode cX8_deal 63 = .ok (.aload_n 0, 1) := by decide +kernel
theorem dX8_deal_64 : decode cX8_deal 64 = .ok (.invokevirtual 149, 3) := by decide +kernel
theorem dX8_deal_67 : decode cX8_deal 67 = .ok (.bipush 30, 2) := by decide +kernel
theorem dX8_deal_69 : decode cX8_deal 69 = .ok (.irem, 1) := by decide +kernel
theorem dX8_deal_70 : decode cX8_deal 70 = .ok (.invokevirtual 90, 3) := by decide +kernel
theorem dX8_deal_73 : decode cX8_deal 73 = .ok (.istore 6, 2) := by decide +kernel
theorem dX8_deal_75 : decode cX8_deal 75 = .ok (.iinc 2 1, 3) := by decide +kernel
theorem dX8_deal_78 : decode cX8_deal 78 = .ok (.goto (-63), 3) := by decide +kernel
theorem dX8_deal_81 : decode cX8_deal 81 = .ok (.iload_n 2, 1) := by decide +kernel
theorem dX8_deal_82 : decode cX8_deal 82 = .ok (.ireturn, 1) := by decide +kernel
theorem dX8_seed_0 : decode cX8_seed 0 = .ok (.aload_n 0, 1) := by decide +kernel
theorem dX8_seed_1 : decode cX8_seed 1 = .ok (.iconst 0, 1) := by decide +kernel
theorem dX8_seed_2 : decode cX8_seed 2 = .ok (.iload_n 1, 1) := by decide +kernel
theorem dX8_seed_3 : decode cX8_seed 3 = .ok (.invokevirtual 142, 3) := by decide +kernel
theorem dX8_seed_6 : decode cX8_seed 6 = .ok (.ireturn, 1) := by decide +kernel
theorem dX8_comesOut_0 : decode cX8_comesOut 0 = .ok (.iconst 0, 1) := by decide +kernel
theorem dX8_comesOut_1 : decode cX8_comesOut 1 = .ok (.istore_n 3, 1) := by decide +kernel
theorem dX8_comesOut_2 : decode cX8_comesOut 2 = .ok (.iconst 0, 1) := by decide +kernel
theorem dX8_comesOut_3 : decode cX8_comesOut 3 = .ok (.istore 4, 2) := by decide +kernel
theorem dX8_comesOut_5 : decode cX8_comesOut 5 = .ok (.iload 4, 2) := by decide +kernel
theorem dX8_comesOut_7 : decode cX8_comesOut 7 = .ok (.aload_n 0, 1) := by decide +kernel
theorem dX8_comesOut_8 : decode cX8_comesOut 8 = .ok (.getfield 9, 3) := by decide +kernel
theorem dX8_comesOut_11 : decode cX8_comesOut 11 = .ok (.iconst 1, 1) := by decide +kernel
theorem dX8_comesOut_12 : decode cX8_comesOut 12 = .ok (.iaload, 1) := by decide +kernel
theorem dX8_comesOut_13 : decode cX8_comesOut 13 = .ok (.if_icmp .ge 54, 3) := by decide +kernel
theorem dX8_comesOut_16 : decode cX8_comesOut 16 = .ok (.aload_n 0, 1) := by decide +kernel
theorem dX8_comesOut_17 : decode cX8_comesOut 17 = .ok (.iload 4, 2) := by decide +kernel
theorem dX8_comesOut_19 : decode cX8_comesOut 19 = .ok (.iconst 1, 1) := by decide +kernel
theorem dX8_comesOut_20 : decode cX8_comesOut 20 = .ok (.invokevirtual 94, 3) := by decide +kernel
theorem dX8_comesOut_23 : decode cX8_comesOut 23 = .ok (.iload_n 2, 1) := by decide +kernel
theorem dX8_comesOut_24 : decode cX8_comesOut 24 = .ok (.if_icmp .ne 37, 3) := by decide +kernel
theorem dX8_comesOut_27 : decode cX8_comesOut 27 = .ok (.iload_n 3, 1) := by decide +kernel
theorem dX8_comesOut_28 : decode cX8_comesOut 28 = .ok (.aload_n 0, 1) := by decide +kernel
theorem dX8_comesOut_29 : decode cX8_comesOut 29 = .ok (.iload 4, 2) := by decide +kernel
theorem dX8_comesOut_31 : decode cX8_comesOut 31 = .ok (.iconst 2, 1) := by decide +kernel
theorem dX8_comesOut_32 : decode cX8_comesOut 32 = .ok (.invokevirtual 94, 3) := by decide +kernel
theorem dX8_comesOut_35 : decode cX8_comesOut 35 = .ok (.iload_n 1, 1) := by decide +kernel
theorem dX8_comesOut_36 : decode cX8_comesOut 36 = .ok (.ishr, 1) := by decide +kernel
theorem dX8_comesOut_37 : decode cX8_comesOut 37 = .ok (.iconst 1, 1) := by decide +kernel
theorem dX8_comesOut_38 : decode cX8_comesOut 38 = .ok (.iand, 1) := by decide +kernel
theorem dX8_comesOut_39 : decode cX8_comesOut 39 = .ok (.iconst 1, 1) := by decide +kernel
theorem dX8_comesOut_40 : decode cX8_comesOut 40 = .ok (.ixor, 1) := by decide +kernel
theorem dX8_comesOut_41 : decode cX8_comesOut 41 = .ok (.iadd, 1) := by decide +kernel
theorem dX8_comesOut_42 : decode cX8_comesOut 42 = .ok (.istore_n 3, 1) := by decide +kernel
theorem dX8_comesOut_43 : decode cX8_comesOut 43 = .ok (.aload_n 0, 1) := by decide +kernel
theorem dX8_comesOut_44 : decode cX8_comesOut 44 = .ok (.iload 4, 2) := by decide +kernel
theorem dX8_comesOut_46 : decode cX8_comesOut 46 = .ok (.iconst 2, 1) := by decide +kernel
theorem dX8_comesOut_47 : decode cX8_comesOut 47 = .ok (.aload_n 0, 1) := by decide +kernel
theorem dX8_comesOut_48 : decode cX8_comesOut 48 = .ok (.iload 4, 2) := by decide +kernel
theorem dX8_comesOut_50 : decode cX8_comesOut 50 = .ok (.iconst 2, 1) := by decide +kernel
theorem dX8_comesOut_51 : decode cX8_comesOut 51 = .ok (.invokevirtual 94, 3) := by decide +kernel
theorem dX8_comesOut_54 : decode cX8_comesOut 54 = .ok (.iconst 1, 1) := by decide +kernel
theorem dX8_comesOut_55 : decode cX8_comesOut 55 = .ok (.iload_n 1, 1) := by decide +kernel
theorem dX8_comesOut_56 : decode cX8_comesOut 56 = .ok (.ishl, 1) := by decide +kernel
theorem dX8_comesOut_57 : decode cX8_comesOut 57 = .ok (.ior, 1) := by decide +kernel
theorem dX8_comesOut_58 : decode cX8_comesOut 58 = .ok (.invokevirtual 84, 3) := by decide +kernel
theorem dX8_comesOut_61 : decode cX8_comesOut 61 = .ok (.iinc 4 1, 3) := by decide +kernel
theorem dX8_comesOut_64 : decode cX8_comesOut 64 = .ok (.goto (-59), 3) := by decide +kernel
theorem dX8_comesOut_67 : decode cX8_comesOut 67 = .ok (.iload_n 3, 1) := by decide +kernel
theorem dX8_comesOut_68 : decode cX8_comesOut 68 = .ok (.ireturn, 1) := by decide +kernel
theorem dX8_out_0 : decode cX8_out 0 = .ok (.iload_n 1, 1) := by decide +kernel
theorem dX8_out_1 : decode cX8_out 1 = .ok (.invokestatic 145, 3) := by decide +kernel
theorem dX8_out_4 : decode cX8_out 4 = .ok (.ifCond .eq 21, 3) := by decide +kernel
theorem dX8_out_7 : decode cX8_out 7 = .ok (.iload_n 2, 1) := by decide +kernel
theorem dX8_out_8 : decode cX8_out 8 = .ok (.iconst 0, 1) := by decide +kernel
theorem dX8_out_9 : decode cX8_out 9 = .ok (.iconst 1, 1) := by decide +kernel
theorem dX8_out_10 : decode cX8_out 10 = .ok (.invokestatic 80, 3) := by decide +kernel
theorem dX8_out_13 : decode cX8_out 13 = .ok (.ifCond .eq 12, 3) := by decide +kernel
theorem dX8_out_16 : decode cX8_out 16 = .ok (.aload_n 0, 1) := by decide +kernel
theorem dX8_out_17 : decode cX8_out 17 = .ok (.iload_n 1, 1) := by decide +kernel
theorem dX8_out_18 : decode cX8_out 18 = .ok (.iload_n 2, 1) := by decide +kernel
theorem dX8_out_19 : decode cX8_out 19 = .ok (.invokevirtual 153, 3) := by decide +kernel
theorem dX8_out_22 : decode cX8_out 22 = .ok (.goto 5, 3) := by decide +kernel
theorem dX8_out_25 : decode cX8_out 25 = .ok (.ldc 88, 2) := by decide +kernel
theorem dX8_out_27 : decode cX8_out 27 = .ok (.ireturn, 1) := by decide +kernel
theorem dX8_passes_0 : decode cX8_passes 0 = .ok (.iload_n 3, 1) := by decide +kernel
theorem dX8_passes_1 : decode cX8_passes 1 = .ok (.ifCond .ge 5, 3) := by decide +kernel
theorem dX8_passes_4 : decode cX8_passes 4 = .ok (.iconst 0, 1) := by decide +kernel
theorem dX8_passes_5 : decode cX8_passes 5 = .ok (.ireturn, 1) := by decide +kernel
theorem dX8_passes_6 : decode cX8_passes 6 = .ok (.aload_n 0, 1) := by decide +kernel
theorem dX8_passes_7 : decode cX8_passes 7 = .ok (.iload_n 2, 1) := by decide +kernel
theorem dX8_passes_8 : decode cX8_passes 8 = .ok (.iconst 2, 1) := by decide +kernel
theorem dX8_passes_9 : decode cX8_passes 9 = .ok (.aload_n 0, 1) := by decide +kernel
theorem dX8_passes_10 : decode cX8_passes 10 = .ok (.iload_n 2, 1) := by decide +kernel
theorem dX8_passes_11 : decode cX8_passes 11 = .ok (.iconst 2, 1) := by decide +kernel
theorem dX8_passes_12 : decode cX8_passes 12 = .ok (.invokevirtual 94, 3) := by decide +kernel
theorem dX8_passes_15 : decode cX8_passes 15 = .ok (.iconst 1, 1) := by decide +kernel
theorem dX8_passes_16 : decode cX8_passes 16 = .ok (.iload_n 3, 1) := by decide +kernel
theorem dX8_passes_17 : decode cX8_passes 17 = .ok (.ishl, 1) := by decide +kernel
theorem dX8_passes_18 : decode cX8_passes 18 = .ok (.ior, 1) := by decide +kernel
theorem dX8_passes_19 : decode cX8_passes 19 = .ok (.invokevirtual 84, 3) := by decide +kernel
theorem dX8_passes_22 : decode cX8_passes 22 = .ok (.aload_n 0, 1) := by decide +kernel
theorem dX8_passes_23 : decode cX8_passes 23 = .ok (.iload_n 1, 1) := by decide +kernel
theorem dX8_passes_24 : decode cX8_passes 24 = .ok (.iconst 4, 1) := by decide +kernel
theorem dX8_passes_25 : decode cX8_passes 25 = .ok (.aload_n 0, 1) := by decide +kernel
theorem dX8_passes_26 : decode cX8_passes 26 = .ok (.iload_n 1, 1) := by decide +kernel
theorem dX8_passes_27 : decode cX8_passes 27 = .ok (.iconst 4, 1) := by decide +kernel
theorem dX8_passes_28 : decode cX8_passes 28 = .ok (.invokevirtual 94, 3) := by decide +kernel
theorem dX8_passes_31 : decode cX8_passes 31 = .ok (.iconst 1, 1) := by decide +kernel
theorem dX8_passes_32 : decode cX8_passes 32 = .ok (.iadd, 1) := by decide +kernel
theorem dX8_passes_33 : decode cX8_passes 33 = .ok (.invokevirtual 84, 3) := by decide +kernel
theorem dX8_passes_36 : decode cX8_passes 36 = .ok (.iconst 1, 1) := by decide +kernel
theorem dX8_passes_37 : decode cX8_passes 37 = .ok (.ireturn, 1) := by decide +kernel
theorem dX8_hour_0 : decode cX8_hour 0 = .ok (.iconst 0, 1) := by decide +kernel
theorem dX8_hour_1 : decode cX8_hour 1 = .ok (.istore_n 1, 1) := by decide +kernel
theorem dX8_hour_2 : decode cX8_hour 2 = .ok (.iconst 0, 1) := by decide +kernel
theorem dX8_hour_3 : decode cX8_hour 3 = .ok (.istore_n 2, 1) := by decide +kernel
theorem dX8_hour_4 : decode cX8_hour 4 = .ok (.iload_n 2, 1) := by decide +kernel
theorem dX8_hour_5 : decode cX8_hour 5 = .ok (.aload_n 0, 1) := by decide +kernel
theorem dX8_hour_6 : decode cX8_hour 6 = .ok (.getfield 9, 3) := by decide +kernel
theorem dX8_hour_9 : decode cX8_hour 9 = .ok (.iconst 1, 1) := by decide +kernel
theorem dX8_hour_10 : decode cX8_hour 10 = .ok (.iaload, 1) := by decide +kernel
theorem dX8_hour_11 : decode cX8_hour 11 = .ok (.if_icmp .ge 88, 3) := by decide +kernel
theorem dX8_hour_14 : decode cX8_hour 14 = .ok (.aload_n 0, 1) := by decide +kernel
theorem dX8_hour_15 : decode cX8_hour 15 = .ok (.iload_n 2, 1) := by decide +kernel
theorem dX8_hour_16 : decode cX8_hour 16 = .ok (.invokevirtual 125, 3) := by decide +kernel
theorem dX8_hour_19 : decode cX8_hour 19 = .ok (.istore_n 3, 1) := by decide +kernel
theorem dX8_hour_20 : decode cX8_hour 20 = .ok (.iload_n 3, 1) := by decide +kernel
theorem dX8_hour_21 : decode cX8_hour 21 = .ok (.iload_n 2, 1) := by decide +kernel
theorem dX8_hour_22 : decode cX8_hour 22 = .ok (.if_icmp .le 71, 3) := by decide +kernel
theorem dX8_hour_25 : decode cX8_hour 25 = .ok (.aload_n 0, 1) := by decide +kernel
theorem dX8_hour_26 : decode cX8_hour 26 = .ok (.invokevirtual 149, 3) := by decide +kernel
theorem dX8_hour_29 : decode cX8_hour 29 = .ok (.bipush 100, 2) := by decide +kernel
theorem dX8_hour_31 : decode cX8_hour 31 = .ok (.irem, 1) := by decide +kernel
theorem dX8_hour_32 : decode cX8_hour 32 = .ok (.aload_n 0, 1) := by decide +kernel
theorem dX8_hour_33 : decode cX8_hour 33 = .ok (.getfield 9, 3) := by decide +kernel
theorem dX8_hour_36 : decode cX8_hour 36 = .ok (.iconst 4, 1) := by decide +kernel
theorem dX8_hour_37 : decode cX8_hour 37 = .ok (.iaload, 1) := by decide +kernel
theorem dX8_hour_38 : decode cX8_hour 38 = .ok (.if_icmp .ge 17, 3) := by decide +kernel
theorem dX8_hour_41 : decode cX8_hour 41 = .ok (.aload_n 0, 1) := by decide +kernel
theorem dX8_hour_42 : decode cX8_hour 42 = .ok (.getfield 9, 3) := by decide +kernel
theorem dX8_hour_45 : decode cX8_hour 45 = .ok (.bipush 6, 2) := by decide +kernel
theorem dX8_hour_47 : decode cX8_hour 47 = .ok (.dup2, 1) := by decide +kernel
theorem dX8_hour_48 : decode cX8_hour 48 = .ok (.iaload, 1) := by decide +kernel
theorem dX8_hour_49 : decode cX8_hour 49 = .ok (.iconst 1, 1) := by decide +kernel
theorem dX8_hour_50 : decode cX8_hour 50 = .ok (.iadd, 1) := by decide +kernel
theorem dX8_hour_51 : decode cX8_hour 51 = .ok (.iastore, 1) := by decide +kernel
theorem dX8_hour_52 : decode cX8_hour 52 = .ok (.goto 41, 3) := by decide +kernel
theorem dX8_hour_55 : decode cX8_hour 55 = .ok (.aload_n 0, 1) := by decide +kernel
theorem dX8_hour_56 : decode cX8_hour 56 = .ok (.iload_n 2, 1) := by decide +kernel
theorem dX8_hour_57 : decode cX8_hour 57 = .ok (.iload_n 3, 1) := by decide +kernel
theorem dX8_hour_58 : decode cX8_hour 58 = .ok (.invokevirtual 131, 3) := by decide +kernel
theorem dX8_hour_61 : decode cX8_hour 61 = .ok (.istore 4, 2) := by decide +kernel
theorem dX8_hour_63 : decode cX8_hour 63 = .ok (.aload_n 0, 1) := by decide +kernel
theorem dX8_hour_64 : decode cX8_hour 64 = .ok (.iload_n 3, 1) := by decide +kernel
theorem dX8_hour_65 : decode cX8_hour 65 = .ok (.iload_n 2, 1) := by decide +kernel
theorem dX8_hour_66 : decode cX8_hour 66 = .ok (.invokevirtual 131, 3) := by decide +kernel
theorem dX8_hour_69 : decode cX8_hour 69 = .ok (.istore 5, 2) := by decide +kernel
theorem dX8_hour_71 : decode cX8_hour 71 = .ok (.iload_n 1, 1) := by decide +kernel
theorem dX8_hour_72 : decode cX8_hour 72 = .ok (.aload_n 0, 1) := by decide +kernel
theorem dX8_hour_73 : decode cX8_hour 73 = .ok (.iload_n 2, 1) := by decide +kernel
theorem dX8_hour_74 : decode cX8_hour 74 = .ok (.iload_n 3, 1) := by decide +kernel
theorem dX8_hour_75 : decode cX8_hour 75 = .ok (.iload 4, 2) := by decide +kernel
theorem dX8_hour_77 : decode cX8_hour 77 = .ok (.invokevirtual 156, 3) := by decide +kernel
theorem dX8_hour_80 : decode cX8_hour 80 = .ok (.iadd, 1) := by decide +kernel
theorem dX8_hour_81 : decode cX8_hour 81 = .ok (.istore_n 1, 1) := by decide +kernel
theorem dX8_hour_82 : decode cX8_hour 82 = .ok (.iload_n 1, 1) := by decide +kernel
theorem dX8_hour_83 : decode cX8_hour 83 = .ok (.aload_n 0, 1) := by decide +kernel
theorem dX8_hour_84 : decode cX8_hour 84 = .ok (.iload_n 3, 1) := by decide +kernel
theorem dX8_hour_85 : decode cX8_hour 85 = .ok (.iload_n 2, 1) := by decide +kernel
theorem dX8_hour_86 : decode cX8_hour 86 = .ok (.iload 5, 2) := by decide +kernel
theorem dX8_hour_88 : decode cX8_hour 88 = .ok (.invokevirtual 156, 3) := by decide +kernel
theorem dX8_hour_91 : decode cX8_hour 91 = .ok (.iadd, 1) := by decide +kernel
theorem dX8_hour_92 : decode cX8_hour 92 = .ok (.istore_n 1, 1) := by decide +kernel
theorem dX8_hour_93 : decode cX8_hour 93 = .ok (.iinc 2 1, 3) := by decide +kernel
theorem dX8_hour_96 : decode cX8_hour 96 = .ok (.goto (-92), 3) := by decide +kernel
theorem dX8_hour_99 : decode cX8_hour 99 = .ok (.aload_n 0, 1) := by decide +kernel
theorem dX8_hour_100 : decode cX8_hour 100 = .ok (.getfield 9, 3) := by decide +kernel
theorem dX8_hour_103 : decode cX8_hour 103 = .ok (.iconst 2, 1) := by decide +kernel
theorem dX8_hour_104 : decode cX8_hour 104 = .ok (.dup2, 1) := by decide +kernel
theorem dX8_hour_105 : decode cX8_hour 105 = .ok (.iaload, 1) := by decide +kernel
theorem dX8_hour_106 : decode cX8_hour 106 = .ok (.iconst 1, 1) := by decide +kernel
theorem dX8_hour_107 : decode cX8_hour 107 = .ok (.iadd, 1) := by decide +kernel
theorem dX8_hour_108 : decode cX8_hour 108 = .ok (.iastore, 1) := by decide +kernel
theorem dX8_hour_109 : decode cX8_hour 109 = .ok (.iload_n 1, 1) := by decide +kernel
theorem dX8_hour_110 : decode cX8_hour 110 = .ok (.ireturn, 1) := by decide +kernel
theorem dX8_goesOn_0 : decode cX8_goesOn 0 = .ok (.iconst 0, 1) := by decide +kernel
theorem dX8_goesOn_1 : decode cX8_goesOn 1 = .ok (.istore_n 2, 1) := by decide +kernel
theorem dX8_goesOn_2 : decode cX8_goesOn 2 = .ok (.iconst 0, 1) := by decide +kernel
theorem dX8_goesOn_3 : decode cX8_goesOn 3 = .ok (.istore_n 3, 1) := by decide +kernel
theorem dX8_goesOn_4 : decode cX8_goesOn 4 = .ok (.iload_n 3, 1) := by decide +kernel
theorem dX8_goesOn_5 : decode cX8_goesOn 5 = .ok (.iload_n 1, 1) := by decide +kernel
theorem dX8_goesOn_6 : decode cX8_goesOn 6 = .ok (.if_icmp .ge 16, 3) := by decide +kernel
theorem dX8_goesOn_9 : decode cX8_goesOn 9 = .ok (.iload_n 2, 1) := by decide +kernel
theorem dX8_goesOn_10 : decode cX8_goesOn 10 = .ok (.aload_n 0, 1) := by decide +kernel
theorem dX8_goesOn_11 : decode cX8_goesOn 11 = .ok (.invokevirtual 159, 3) := by decide +kernel
theorem dX8_goesOn_14 : decode cX8_goesOn 14 = .ok (.iadd, 1) := by decide +kernel
theorem dX8_goesOn_15 : decode cX8_goesOn 15 = .ok (.istore_n 2, 1) := by decide +kernel
theorem dX8_goesOn_16 : decode cX8_goesOn 16 = .ok (.iinc 3 1, 3) := by decide +kernel
theorem dX8_goesOn_19 : decode cX8_goesOn 19 = .ok (.goto (-15), 3) := by decide +kernel
theorem dX8_goesOn_22 : decode cX8_goesOn 22 = .ok (.iload_n 2, 1) := by decide +kernel
theorem dX8_goesOn_23 : decode cX8_goesOn 23 = .ok (.ireturn, 1) := by decide +kernel
theorem dX8_hours_0 : decode cX8_hours 0 = .ok (.iload_n 1, 1) := by decide +kernel
theorem dX8_hours_1 : decode cX8_hours 1 = .ok (.iconst 1, 1) := by decide +kernel
theorem dX8_hours_2 : decode cX8_hours 2 = .ok (.bipush 100, 2) := by decide +kernel
theorem dX8_hours_4 : decode cX8_hours 4 = .ok (.invokestatic 80, 3) := by decide +kernel
theorem dX8_hours_7 : decode cX8_hours 7 = .ok (.ifCond .eq 25, 3) := by decide +kernel
theorem dX8_hours_10 : decode cX8_hours 10 = .ok (.aload_n 0, 1) := by decide +kernel
theorem dX8_hours_11 : decode cX8_hours 11 = .ok (.sipush 9999, 3) := by decide +kernel
theorem dX8_hours_14 : decode cX8_hours 14 = .ok (.aload_n 0, 1) := by decide +kernel
theorem dX8_hours_15 : decode cX8_hours 15 = .ok (.getfield 9, 3) := by decide +kernel
theorem dX8_hours_18 : decode cX8_hours 18 = .ok (.iconst 2, 1) := by decide +kernel
theorem dX8_hours_19 : decode cX8_hours 19 = .ok (.iaload, 1) := by decide +kernel
theorem dX8_hours_20 : decode cX8_hours 20 = .ok (.isub, 1) := by decide +kernel
theorem dX8_hours_21 : decode cX8_hours 21 = .ok (.iconst 0, 1) := by decide +kernel
theorem dX8_hours_22 : decode cX8_hours 22 = .ok (.iload_n 1, 1) := by decide +kernel
theorem dX8_hours_23 : decode cX8_hours 23 = .ok (.invokestatic 111, 3) := by decide +kernel
theorem dX8_hours_26 : decode cX8_hours 26 = .ok (.invokevirtual 162, 3) := by decide +kernel
theorem dX8_hours_29 : decode cX8_hours 29 = .ok (.goto 5, 3) := by decide +kernel
theorem dX8_hours_32 : decode cX8_hours 32 = .ok (.ldc 88, 2) := by decide +kernel
theorem dX8_hours_34 : decode cX8_hours 34 = .ok (.ireturn, 1) := by decide +kernel
theorem dX8_common_0 : decode cX8_common 0 = .ok (.sipush 255, 3) := by decide +kernel
theorem dX8_common_3 : decode cX8_common 3 = .ok (.istore_n 1, 1) := by decide +kernel
theorem dX8_common_4 : decode cX8_common 4 = .ok (.iconst 0, 1) := by decide +kernel
theorem dX8_common_5 : decode cX8_common 5 = .ok (.istore_n 2, 1) := by decide +kernel
theorem dX8_common_6 : decode cX8_common 6 = .ok (.iload_n 2, 1) := by decide +kernel
theorem dX8_common_7 : decode cX8_common 7 = .ok (.aload_n 0, 1) := by decide +kernel
theorem dX8_common_8 : decode cX8_common 8 = .ok (.getfield 9, 3) := by decide +kernel
theorem dX8_common_11 : decode cX8_common 11 = .ok (.iconst 1, 1) := by decide +kernel
theorem dX8_common_12 : decode cX8_common 12 = .ok (.iaload, 1) := by decide +kernel
theorem dX8_common_13 : decode cX8_common 13 = .ok (.if_icmp .ge 18, 3) := by decide +kernel
theorem dX8_common_16 : decode cX8_common 16 = .ok (.iload_n 1, 1) := by decide +kernel
theorem dX8_common_17 : decode cX8_common 17 = .ok (.aload_n 0, 1) := by decide +kernel
theorem dX8_common_18 : decode cX8_common 18 = .ok (.iload_n 2, 1) := by decide +kernel
theorem dX8_common_19 : decode cX8_common 19 = .ok (.iconst 2, 1) := by decide +kernel
theorem dX8_common_20 : decode cX8_common 20 = .ok (.invokevirtual 94, 3) := by decide +kernel
theorem dX8_common_23 : decode cX8_common 23 = .ok (.iand, 1) := by decide +kernel
theorem dX8_common_24 : decode cX8_common 24 = .ok (.istore_n 1, 1) := by decide +kernel
theorem dX8_common_25 : decode cX8_common 25 = .ok (.iinc 2 1, 3) := by decide +kernel
theorem dX8_common_28 : decode cX8_common 28 = .ok (.goto (-22), 3) := by decide +kernel
theorem dX8_common_31 : decode cX8_common 31 = .ok (.iload_n 1, 1) := by decide +kernel
theorem dX8_common_32 : decode cX8_common 32 = .ok (.ireturn, 1) := by decide +kernel
theorem dX8_any_0 : decode cX8_any 0 = .ok (.iconst 0, 1) := by decide +kernel
theorem dX8_any_1 : decode cX8_any 1 = .ok (.istore_n 1, 1) := by decide +kernel
theorem dX8_any_2 : decode cX8_any 2 = .ok (.iconst 0, 1) := by decide +kernel
theorem dX8_any_3 : decode cX8_any 3 = .ok (.istore_n 2, 1) := by decide +kernel
theorem dX8_any_4 : decode cX8_any 4 = .ok (.iload_n 2, 1) := by decide +kernel
theorem dX8_any_5 : decode cX8_any 5 = .ok (.aload_n 0, 1) := by decide +kernel
theorem dX8_any_6 : decode cX8_any 6 = .ok (.getfield 9, 3) := by decide +kernel
theorem dX8_any_9 : decode cX8_any 9 = .ok (.iconst 1, 1) := by decide +kernel
theorem dX8_any_10 : decode cX8_any 10 = .ok (.iaload, 1) := by decide +kernel
theorem dX8_any_11 : decode cX8_any 11 = .ok (.if_icmp .ge 18, 3) := by decide +kernel
theorem dX8_any_14 : decode cX8_any 14 = .ok (.iload_n 1, 1) := by decide +kernel
theorem dX8_any_15 : decode cX8_any 15 = .ok (.aload_n 0, 1) := by decide +kernel
theorem dX8_any_16 : decode cX8_any 16 = .ok (.iload_n 2, 1) := by decide +kernel
theorem dX8_any_17 : decode cX8_any 17 = .ok (.iconst 2, 1) := by decide +kernel
theorem dX8_any_18 : decode cX8_any 18 = .ok (.invokevirtual 94, 3) := by decide +kernel
theorem dX8_any_21 : decode cX8_any 21 = .ok (.ior, 1) := by decide +kernel
theorem dX8_any_22 : decode cX8_any 22 = .ok (.istore_n 1, 1) := by decide +kernel
theorem dX8_any_23 : decode cX8_any 23 = .ok (.iinc 2 1, 3) := by decide +kernel
theorem dX8_any_26 : decode cX8_any 26 = .ok (.goto (-22), 3) := by decide +kernel
theorem dX8_any_29 : decode cX8_any 29 = .ok (.iload_n 1, 1) := by decide +kernel
theorem dX8_any_30 : decode cX8_any 30 = .ok (.ireturn, 1) := by decide +kernel
theorem dX8_votes_0 : decode cX8_votes 0 = .ok (.iconst 0, 1) := by decide +kernel
theorem dX8_votes_1 : decode cX8_votes 1 = .ok (.istore_n 1, 1) := by decide +kernel
theorem dX8_votes_2 : decode cX8_votes 2 = .ok (.iconst 0, 1) := by decide +kernel
theorem dX8_votes_3 : decode cX8_votes 3 = .ok (.istore_n 2, 1) := by decide +kernel
theorem dX8_votes_4 : decode cX8_votes 4 = .ok (.iload_n 2, 1) := by decide +kernel
theorem dX8_votes_5 : decode cX8_votes 5 = .ok (.aload_n 0, 1) := by decide +kernel
theorem dX8_votes_6 : decode cX8_votes 6 = .ok (.getfield 9, 3) := by decide +kernel
theorem dX8_votes_9 : decode cX8_votes 9 = .ok (.iconst 1, 1) := by decide +kernel
theorem dX8_votes_10 : decode cX8_votes 10 = .ok (.iaload, 1) := by decide +kernel
theorem dX8_votes_11 : decode cX8_votes 11 = .ok (.if_icmp .ge 25, 3) := by decide +kernel
theorem dX8_votes_14 : decode cX8_votes 14 = .ok (.iload_n 1, 1) := by decide +kernel
theorem dX8_votes_15 : decode cX8_votes 15 = .ok (.aload_n 0, 1) := by decide +kernel
theorem dX8_votes_16 : decode cX8_votes 16 = .ok (.iload_n 2, 1) := by decide +kernel
theorem dX8_votes_17 : decode cX8_votes 17 = .ok (.invokevirtual 122, 3) := by decide +kernel
theorem dX8_votes_20 : decode cX8_votes 20 = .ok (.ifCond .eq 7, 3) := by decide +kernel
theorem dX8_votes_23 : decode cX8_votes 23 = .ok (.iconst 1, 1) := by decide +kernel
theorem dX8_votes_24 : decode cX8_votes 24 = .ok (.goto 4, 3) := by decide +kernel
theorem dX8_votes_27 : decode cX8_votes 27 = .ok (.iconst 0, 1) := by decide +kernel
theorem dX8_votes_28 : decode cX8_votes 28 = .ok (.iadd, 1) := by decide +kernel
theorem dX8_votes_29 : decode cX8_votes 29 = .ok (.istore_n 1, 1) := by decide +kernel
theorem dX8_votes_30 : decode cX8_votes 30 = .ok (.iinc 2 1, 3) := by decide +kernel
theorem dX8_votes_33 : decode cX8_votes 33 = .ok (.goto (-29), 3) := by decide +kernel
theorem dX8_votes_36 : decode cX8_votes 36 = .ok (.iload_n 1, 1) := by decide +kernel
theorem dX8_votes_37 : decode cX8_votes 37 = .ok (.ireturn, 1) := by decide +kernel
theorem dX8_knownAll_0 : decode cX8_knownAll 0 = .ok (.iconst 0, 1) := by decide +kernel
theorem dX8_knownAll_1 : decode cX8_knownAll 1 = .ok (.istore_n 1, 1) := by decide +kernel
theorem dX8_knownAll_2 : decode cX8_knownAll 2 = .ok (.iconst 0, 1) := by decide +kernel
theorem dX8_knownAll_3 : decode cX8_knownAll 3 = .ok (.istore_n 2, 1) := by decide +kernel
theorem dX8_knownAll_4 : decode cX8_knownAll 4 = .ok (.iload_n 2, 1) := by decide +kernel
theorem dX8_knownAll_5 : decode cX8_knownAll 5 = .ok (.aload_n 0, 1) := by decide +kernel
theorem dX8_knownAll_6 : decode cX8_knownAll 6 = .ok (.getfield 9, 3) := by decide +kernel
theorem dX8_knownAll_9 : decode cX8_knownAll 9 = .ok (.iconst 1, 1) := by decide +kernel
theorem dX8_knownAll_10 : decode cX8_knownAll 10 = .ok (.iaload, 1) := by decide +kernel
theorem dX8_knownAll_11 : decode cX8_knownAll 11 = .ok (.if_icmp .ge 21, 3) := by decide +kernel
theorem dX8_knownAll_14 : decode cX8_knownAll 14 = .ok (.iload_n 1, 1) := by decide +kernel
theorem dX8_knownAll_15 : decode cX8_knownAll 15 = .ok (.aload_n 0, 1) := by decide +kernel
theorem dX8_knownAll_16 : decode cX8_knownAll 16 = .ok (.iload_n 2, 1) := by decide +kernel
theorem dX8_knownAll_17 : decode cX8_knownAll 17 = .ok (.iconst 2, 1) := by decide +kernel
theorem dX8_knownAll_18 : decode cX8_knownAll 18 = .ok (.invokevirtual 94, 3) := by decide +kernel
theorem dX8_knownAll_21 : decode cX8_knownAll 21 = .ok (.invokestatic 105, 3) := by decide +kernel
theorem dX8_knownAll_24 : decode cX8_knownAll 24 = .ok (.iadd, 1) := by decide +kernel
theorem dX8_knownAll_25 : decode cX8_knownAll 25 = .ok (.istore_n 1, 1) := by decide +kernel
theorem dX8_knownAll_26 : decode cX8_knownAll 26 = .ok (.iinc 2 1, 3) := by decide +kernel
theorem dX8_knownAll_29 : decode cX8_knownAll 29 = .ok (.goto (-25), 3) := by decide +kernel
theorem dX8_knownAll_32 : decode cX8_knownAll 32 = .ok (.iload_n 1, 1) := by decide +kernel
theorem dX8_knownAll_33 : decode cX8_knownAll 33 = .ok (.ireturn, 1) := by decide +kernel
theorem dX8_jury_0 : decode cX8_jury 0 = .ok (.iload_n 1, 1) := by decide +kernel
theorem dX8_jury_1 : decode cX8_jury 1 = .ok (.tableswitch 63 0 4 #[35, 40, 45, 53, 58], 35) := by decide +kernel
theorem dX8_jury_36 : decode cX8_jury 36 = .ok (.aload_n 0, 1) := by decide +kernel
theorem dX8_jury_37 : decode cX8_jury 37 = .ok (.invokevirtual 165, 3) := by decide +kernel
theorem dX8_jury_40 : decode cX8_jury 40 = .ok (.ireturn, 1) := by decide +kernel
theorem dX8_jury_41 : decode cX8_jury 41 = .ok (.aload_n 0, 1) := by decide +kernel
theorem dX8_jury_42 : decode cX8_jury 42 = .ok (.invokevirtual 168, 3) := by decide +kernel
theorem dX8_jury_45 : decode cX8_jury 45 = .ok (.ireturn, 1) := by decide +kernel
theorem dX8_jury_46 : decode cX8_jury 46 = .ok (.aload_n 0, 1) := by decide +kernel
theorem dX8_jury_47 : decode cX8_jury 47 = .ok (.getfield 9, 3) := by decide +kernel
theorem dX8_jury_50 : decode cX8_jury 50 = .ok (.bipush 6, 2) := by decide +kernel
theorem dX8_jury_52 : decode cX8_jury 52 = .ok (.iaload, 1) := by decide +kernel
theorem dX8_jury_53 : decode cX8_jury 53 = .ok (.ireturn, 1) := by decide +kernel
theorem dX8_jury_54 : decode cX8_jury 54 = .ok (.aload_n 0, 1) := by decide +kernel
theorem dX8_jury_55 : decode cX8_jury 55 = .ok (.invokevirtual 171, 3) := by decide +kernel
theorem dX8_jury_58 : decode cX8_jury 58 = .ok (.ireturn, 1) := by decide +kernel
theorem dX8_jury_59 : decode cX8_jury 59 = .ok (.aload_n 0, 1) := by decide +kernel
theorem dX8_jury_60 : decode cX8_jury 60 = .ok (.invokevirtual 174, 3) := by decide +kernel
theorem dX8_jury_63 : decode cX8_jury 63 = .ok (.ireturn, 1) := by decide +kernel
theorem dX8_jury_64 : decode cX8_jury 64 = .ok (.ldc 88, 2) := by decide +kernel
theorem dX8_jury_66 : decode cX8_jury 66 = .ok (.ireturn, 1) := by decide +kernel
theorem dX8_thinks_0 : decode cX8_thinks 0 = .ok (.iconst 0, 1) := by decide +kernel
theorem dX8_thinks_1 : decode cX8_thinks 1 = .ok (.istore_n 1, 1) := by decide +kernel
theorem dX8_thinks_2 : decode cX8_thinks 2 = .ok (.iload_n 1, 1) := by decide +kernel
theorem dX8_thinks_3 : decode cX8_thinks 3 = .ok (.bipush 66, 2) := by decide +kernel
theorem dX8_thinks_5 : decode cX8_thinks 5 = .ok (.if_icmp .ge 21, 3) := by decide +kernel
theorem dX8_thinks_8 : decode cX8_thinks 8 = .ok (.aload_n 0, 1) := by decide +kernel
theorem dX8_thinks_9 : decode cX8_thinks 9 = .ok (.getfield 23, 3) := by decide +kernel
theorem dX8_thinks_12 : decode cX8_thinks 12 = .ok (.iload_n 1, 1) := by decide +kernel
theorem dX8_thinks_13 : decode cX8_thinks 13 = .ok (.aload_n 0, 1) := by decide +kernel
theorem dX8_thinks_14 : decode cX8_thinks 14 = .ok (.getfield 9, 3) := by decide +kernel
theorem dX8_thinks_17 : decode cX8_thinks 17 = .ok (.iload_n 1, 1) := by decide +kernel
theorem dX8_thinks_18 : decode cX8_thinks 18 = .ok (.iaload, 1) := by decide +kernel
theorem dX8_thinks_19 : decode cX8_thinks 19 = .ok (.iastore, 1) := by decide +kernel
theorem dX8_thinks_20 : decode cX8_thinks 20 = .ok (.iinc 1 1, 3) := by decide +kernel
theorem dX8_thinks_23 : decode cX8_thinks 23 = .ok (.goto (-21), 3) := by decide +kernel
theorem dX8_thinks_26 : decode cX8_thinks 26 = .ok (.return_, 1) := by decide +kernel
theorem dX8_putsBack_0 : decode cX8_putsBack 0 = .ok (.iconst 0, 1) := by decide +kernel
theorem dX8_putsBack_1 : decode cX8_putsBack 1 = .ok (.istore_n 1, 1) := by decide +kernel
theorem dX8_putsBack_2 : decode cX8_putsBack 2 = .ok (.iload_n 1, 1) := by decide +kernel
theorem dX8_putsBack_3 : decode cX8_putsBack 3 = .ok (.bipush 66, 2) := by decide +kernel
theorem dX8_putsBack_5 : decode cX8_putsBack 5 = .ok (.if_icmp .ge 21, 3) := by decide +kernel
theorem dX8_putsBack_8 : decode cX8_putsBack 8 = .ok (.aload_n 0, 1) := by decide +kernel
theorem dX8_putsBack_9 : decode cX8_putsBack 9 = .ok (.getfield 9, 3) := by decide +kernel
theorem dX8_putsBack_12 : decode cX8_putsBack 12 = .ok (.iload_n 1, 1) := by decide +kernel
theorem dX8_putsBack_13 : decode cX8_putsBack 13 = .ok (.aload_n 0, 1) := by decide +kernel
theorem dX8_putsBack_14 : decode cX8_putsBack 14 = .ok (.getfield 23, 3) := by decide +kernel
theorem dX8_putsBack_17 : decode cX8_putsBack 17 = .ok (.iload_n 1, 1) := by decide +kernel
theorem dX8_putsBack_18 : decode cX8_putsBack 18 = .ok (.iaload, 1) := by decide +kernel
theorem dX8_putsBack_19 : decode cX8_putsBack 19 = .ok (.iastore, 1) := by decide +kernel
theorem dX8_putsBack_20 : decode cX8_putsBack 20 = .ok (.iinc 1 1, 3) := by decide +kernel
theorem dX8_putsBack_23 : decode cX8_putsBack 23 = .ok (.goto (-21), 3) := by decide +kernel
theorem dX8_putsBack_26 : decode cX8_putsBack 26 = .ok (.aload_n 0, 1) := by decide +kernel
theorem dX8_putsBack_27 : decode cX8_putsBack 27 = .ok (.iconst (-1), 1) := by decide +kernel
theorem dX8_putsBack_28 : decode cX8_putsBack 28 = .ok (.putfield 19, 3) := by decide +kernel
theorem dX8_putsBack_31 : decode cX8_putsBack 31 = .ok (.return_, 1) := by decide +kernel
theorem dX8_behind_0 : decode cX8_behind 0 = .ok (.iload_n 1, 1) := by decide +kernel
theorem dX8_behind_1 : decode cX8_behind 1 = .ok (.iconst 0, 1) := by decide +kernel
theorem dX8_behind_2 : decode cX8_behind 2 = .ok (.bipush 100, 2) := by decide +kernel
theorem dX8_behind_4 : decode cX8_behind 4 = .ok (.invokestatic 80, 3) := by decide +kernel
theorem dX8_behind_7 : decode cX8_behind 7 = .ok (.ifCond .eq 22, 3) := by decide +kernel
theorem dX8_behind_10 : decode cX8_behind 10 = .ok (.iload_n 2, 1) := by decide +kernel
theorem dX8_behind_11 : decode cX8_behind 11 = .ok (.ifCond .lt 18, 3) := by decide +kernel
theorem dX8_behind_14 : decode cX8_behind 14 = .ok (.iload_n 2, 1) := by decide +kernel
theorem dX8_behind_15 : decode cX8_behind 15 = .ok (.iconst 2, 1) := by decide +kernel
theorem dX8_behind_16 : decode cX8_behind 16 = .ok (.if_icmp .le 16, 3) := by decide +kernel
theorem dX8_behind_19 : decode cX8_behind 19 = .ok (.aload_n 0, 1) := by decide +kernel
theorem dX8_behind_20 : decode cX8_behind 20 = .ok (.iload_n 2, 1) := by decide +kernel
theorem dX8_behind_21 : decode cX8_behind 21 = .ok (.iconst 3, 1) := by decide +kernel
theorem dX8_behind_22 : decode cX8_behind 22 = .ok (.isub, 1) := by decide +kernel
theorem dX8_behind_23 : decode cX8_behind 23 = .ok (.invokevirtual 118, 3) := by decide +kernel
theorem dX8_behind_26 : decode cX8_behind 26 = .ok (.ifCond .ne 6, 3) := by decide +kernel
theorem dX8_behind_29 : decode cX8_behind 29 = .ok (.ldc 88, 2) := by decide +kernel
theorem dX8_behind_31 : decode cX8_behind 31 = .ok (.ireturn, 1) := by decide +kernel
theorem dX8_behind_32 : decode cX8_behind 32 = .ok (.aload_n 0, 1) := by decide +kernel
theorem dX8_behind_33 : decode cX8_behind 33 = .ok (.invokevirtual 177, 3) := by decide +kernel
theorem dX8_behind_36 : decode cX8_behind 36 = .ok (.aload_n 0, 1) := by decide +kernel
theorem dX8_behind_37 : decode cX8_behind 37 = .ok (.iload_n 1, 1) := by decide +kernel
theorem dX8_behind_38 : decode cX8_behind 38 = .ok (.invokevirtual 162, 3) := by decide +kernel
theorem dX8_behind_41 : decode cX8_behind 41 = .ok (.istore_n 3, 1) := by decide +kernel
theorem dX8_behind_42 : decode cX8_behind 42 = .ok (.iload_n 2, 1) := by decide +kernel
theorem dX8_behind_43 : decode cX8_behind 43 = .ok (.iconst 2, 1) := by decide +kernel
theorem dX8_behind_44 : decode cX8_behind 44 = .ok (.if_icmp .le 14, 3) := by decide +kernel
theorem dX8_behind_47 : decode cX8_behind 47 = .ok (.aload_n 0, 1) := by decide +kernel
theorem dX8_behind_48 : decode cX8_behind 48 = .ok (.iload_n 2, 1) := by decide +kernel
theorem dX8_behind_49 : decode cX8_behind 49 = .ok (.iconst 3, 1) := by decide +kernel
theorem dX8_behind_50 : decode cX8_behind 50 = .ok (.isub, 1) := by decide +kernel
theorem dX8_behind_51 : decode cX8_behind 51 = .ok (.iconst 2, 1) := by decide +kernel
theorem dX8_behind_52 : decode cX8_behind 52 = .ok (.invokevirtual 94, 3) := by decide +kernel
theorem dX8_behind_55 : decode cX8_behind 55 = .ok (.goto 8, 3) := by decide +kernel
theorem dX8_behind_58 : decode cX8_behind 58 = .ok (.aload_n 0, 1) := by decide +kernel
theorem dX8_behind_59 : decode cX8_behind 59 = .ok (.iload_n 2, 1) := by decide +kernel
theorem dX8_behind_60 : decode cX8_behind 60 = .ok (.invokevirtual 180, 3) := by decide +kernel
theorem dX8_behind_63 : decode cX8_behind 63 = .ok (.istore 4, 2) := by decide +kernel
theorem dX8_behind_65 : decode cX8_behind 65 = .ok (.aload_n 0, 1) := by decide +kernel
theorem dX8_behind_66 : decode cX8_behind 66 = .ok (.invokevirtual 183, 3) := by decide +kernel
theorem dX8_behind_69 : decode cX8_behind 69 = .ok (.iload 4, 2) := by decide +kernel
theorem dX8_behind_71 : decode cX8_behind 71 = .ok (.ireturn, 1) := by decide +kernel
theorem dX8_isKnown_0 : decode cX8_isKnown 0 = .ok (.iload_n 1, 1) := by decide +kernel
theorem dX8_isKnown_1 : decode cX8_isKnown 1 = .ok (.aload_n 0, 1) := by decide +kernel
theorem dX8_isKnown_2 : decode cX8_isKnown 2 = .ok (.invokevirtual 165, 3) := by decide +kernel
theorem dX8_isKnown_5 : decode cX8_isKnown 5 = .ok (.iconst (-1), 1) := by decide +kernel
theorem dX8_isKnown_6 : decode cX8_isKnown 6 = .ok (.ixor, 1) := by decide +kernel
theorem dX8_isKnown_7 : decode cX8_isKnown 7 = .ok (.iand, 1) := by decide +kernel
theorem dX8_isKnown_8 : decode cX8_isKnown 8 = .ok (.ifCond .ne 7, 3) := by decide +kernel
theorem dX8_isKnown_11 : decode cX8_isKnown 11 = .ok (.iconst 1, 1) := by decide +kernel
theorem dX8_isKnown_12 : decode cX8_isKnown 12 = .ok (.goto 4, 3) := by decide +kernel
theorem dX8_isKnown_15 : decode cX8_isKnown 15 = .ok (.iconst 0, 1) := by decide +kernel
theorem dX8_isKnown_16 : decode cX8_isKnown 16 = .ok (.ireturn, 1) := by decide +kernel
theorem dX8_allKnow_0 : decode cX8_allKnow 0 = .ok (.aload_n 0, 1) := by decide +kernel
theorem dX8_allKnow_1 : decode cX8_allKnow 1 = .ok (.invokevirtual 177, 3) := by decide +kernel
theorem dX8_allKnow_4 : decode cX8_allKnow 4 = .ok (.aload_n 0, 1) := by decide +kernel
theorem dX8_allKnow_5 : decode cX8_allKnow 5 = .ok (.invokevirtual 174, 3) := by decide +kernel
theorem dX8_allKnow_8 : decode cX8_allKnow 8 = .ok (.istore_n 1, 1) := by decide +kernel
theorem dX8_allKnow_9 : decode cX8_allKnow 9 = .ok (.iconst 0, 1) := by decide +kernel
theorem dX8_allKnow_10 : decode cX8_allKnow 10 = .ok (.istore_n 2, 1) := by decide +kernel
theorem dX8_allKnow_11 : decode cX8_allKnow 11 = .ok (.iload_n 2, 1) := by decide +kernel
theorem dX8_allKnow_12 : decode cX8_allKnow 12 = .ok (.sipush 200, 3) := by decide +kernel
theorem dX8_allKnow_15 : decode cX8_allKnow 15 = .ok (.if_icmp .gt 22, 3) := by decide +kernel
theorem dX8_allKnow_18 : decode cX8_allKnow 18 = .ok (.aload_n 0, 1) := by decide +kernel
theorem dX8_allKnow_19 : decode cX8_allKnow 19 = .ok (.iload_n 1, 1) := by decide +kernel
theorem dX8_allKnow_20 : decode cX8_allKnow 20 = .ok (.invokevirtual 186, 3) := by decide +kernel
theorem dX8_allKnow_23 : decode cX8_allKnow 23 = .ok (.ifCond .ne 14, 3) := by decide +kernel
theorem dX8_allKnow_26 : decode cX8_allKnow 26 = .ok (.aload_n 0, 1) := by decide +kernel
theorem dX8_allKnow_27 : decode cX8_allKnow 27 = .ok (.invokevirtual 159, 3) := by decide +kernel
theorem dX8_allKnow_30 : decode cX8_allKnow 30 = .ok (.istore_n 3, 1) := by decide +kernel
theorem dX8_allKnow_31 : decode cX8_allKnow 31 = .ok (.iinc 2 1, 3) := by decide +kernel
theorem dX8_allKnow_34 : decode cX8_allKnow 34 = .ok (.goto (-23), 3) := by decide +kernel
theorem dX8_allKnow_37 : decode cX8_allKnow 37 = .ok (.aload_n 0, 1) := by decide +kernel
theorem dX8_allKnow_38 : decode cX8_allKnow 38 = .ok (.invokevirtual 183, 3) := by decide +kernel
theorem dX8_allKnow_41 : decode cX8_allKnow 41 = .ok (.iload_n 2, 1) := by decide +kernel
theorem dX8_allKnow_42 : decode cX8_allKnow 42 = .ok (.sipush 200, 3) := by decide +kernel
theorem dX8_allKnow_45 : decode cX8_allKnow 45 = .ok (.if_icmp .gt 7, 3) := by decide +kernel
theorem dX8_allKnow_48 : decode cX8_allKnow 48 = .ok (.iload_n 2, 1) := by decide +kernel
theorem dX8_allKnow_49 : decode cX8_allKnow 49 = .ok (.goto 5, 3) := by decide +kernel
theorem dX8_allKnow_52 : decode cX8_allKnow 52 = .ok (.ldc 79, 2) := by decide +kernel
theorem dX8_allKnow_54 : decode cX8_allKnow 54 = .ok (.ireturn, 1) := by decide +kernel
theorem dX8_bestTurn_0 : decode cX8_bestTurn 0 = .ok (.iload_n 1, 1) := by decide +kernel
theorem dX8_bestTurn_1 : decode cX8_bestTurn 1 = .ok (.iconst 1, 1) := by decide +kernel
theorem dX8_bestTurn_2 : decode cX8_bestTurn 2 = .ok (.bipush 60, 2) := by decide +kernel
theorem dX8_bestTurn_4 : decode cX8_bestTurn 4 = .ok (.invokestatic 80, 3) := by decide +kernel
theorem dX8_bestTurn_7 : decode cX8_bestTurn 7 = .ok (.ifCond .eq 12, 3) := by decide +kernel
theorem dX8_bestTurn_10 : decode cX8_bestTurn 10 = .ok (.iload_n 2, 1) := by decide +kernel
theorem dX8_bestTurn_11 : decode cX8_bestTurn 11 = .ok (.iconst 0, 1) := by decide +kernel
theorem dX8_bestTurn_12 : decode cX8_bestTurn 12 = .ok (.iconst 1, 1) := by decide +kernel
theorem dX8_bestTurn_13 : decode cX8_bestTurn 13 = .ok (.invokestatic 80, 3) := by decide +kernel
theorem dX8_bestTurn_16 : decode cX8_bestTurn 16 = .ok (.ifCond .ne 6, 3) := by decide +kernel
theorem dX8_bestTurn_19 : decode cX8_bestTurn 19 = .ok (.ldc 88, 2) := by decide +kernel
theorem dX8_bestTurn_21 : decode cX8_bestTurn 21 = .ok (.ireturn, 1) := by decide +kernel
theorem dX8_bestTurn_22 : decode cX8_bestTurn 22 = .ok (.aload_n 0, 1) := by decide +kernel
theorem dX8_bestTurn_23 : decode cX8_bestTurn 23 = .ok (.invokevirtual 177, 3) := by decide +kernel
theorem dX8_bestTurn_26 : decode cX8_bestTurn 26 = .ok (.iconst (-1), 1) := by decide +kernel
theorem dX8_bestTurn_27 : decode cX8_bestTurn 27 = .ok (.istore_n 3, 1) := by decide +kernel
theorem dX8_bestTurn_28 : decode cX8_bestTurn 28 = .ok (.iconst (-1), 1) := by decide +kernel
theorem dX8_bestTurn_29 : decode cX8_bestTurn 29 = .ok (.istore 4, 2) := by decide +kernel
theorem dX8_bestTurn_31 : decode cX8_bestTurn 31 = .ok (.iconst 0, 1) := by decide +kernel
theorem dX8_bestTurn_32 : decode cX8_bestTurn 32 = .ok (.istore 5, 2) := by decide +kernel
theorem dX8_bestTurn_34 : decode cX8_bestTurn 34 = .ok (.iload 5, 2) := by decide +kernel
theorem dX8_bestTurn_36 : decode cX8_bestTurn 36 = .ok (.bipush 10, 2) := by decide +kernel
theorem dX8_bestTurn_38 : decode cX8_bestTurn 38 = .ok (.if_icmp .ge 64, 3) := by decide +kernel
theorem dX8_bestTurn_41 : decode cX8_bestTurn 41 = .ok (.aload_n 0, 1) := by decide +kernel
theorem dX8_bestTurn_42 : decode cX8_bestTurn 42 = .ok (.getfield 9, 3) := by decide +kernel
theorem dX8_bestTurn_45 : decode cX8_bestTurn 45 = .ok (.iconst 5, 1) := by decide +kernel
theorem dX8_bestTurn_46 : decode cX8_bestTurn 46 = .ok (.iload 5, 2) := by decide +kernel
theorem dX8_bestTurn_48 : decode cX8_bestTurn 48 = .ok (.iastore, 1) := by decide +kernel
theorem dX8_bestTurn_49 : decode cX8_bestTurn 49 = .ok (.aload_n 0, 1) := by decide +kernel
theorem dX8_bestTurn_50 : decode cX8_bestTurn 50 = .ok (.iload_n 1, 1) := by decide +kernel
theorem dX8_bestTurn_51 : decode cX8_bestTurn 51 = .ok (.invokevirtual 162, 3) := by decide +kernel
theorem dX8_bestTurn_54 : decode cX8_bestTurn 54 = .ok (.istore 6, 2) := by decide +kernel
theorem dX8_bestTurn_56 : decode cX8_bestTurn 56 = .ok (.aload_n 0, 1) := by decide +kernel
theorem dX8_bestTurn_57 : decode cX8_bestTurn 57 = .ok (.invokevirtual 171, 3) := by decide +kernel
theorem dX8_bestTurn_60 : decode cX8_bestTurn 60 = .ok (.istore 7, 2) := by decide +kernel
theorem dX8_bestTurn_62 : decode cX8_bestTurn 62 = .ok (.aload_n 0, 1) := by decide +kernel
theorem dX8_bestTurn_63 : decode cX8_bestTurn 63 = .ok (.invokevirtual 183, 3) := by decide +kernel
theorem dX8_bestTurn_66 : decode cX8_bestTurn 66 = .ok (.iload 7, 2) := by decide +kernel
theorem dX8_bestTurn_68 : decode cX8_bestTurn 68 = .ok (.iload 4, 2) := by decide +kernel
theorem dX8_bestTurn_70 : decode cX8_bestTurn 70 = .ok (.if_icmp .le 8, 3) := by decide +kernel
theorem dX8_bestTurn_73 : decode cX8_bestTurn 73 = .ok (.iload 5, 2) := by decide +kernel
theorem dX8_bestTurn_75 : decode cX8_bestTurn 75 = .ok (.goto 4, 3) := by decide +kernel
theorem dX8_bestTurn_78 : decode cX8_bestTurn 78 = .ok (.iload_n 3, 1) := by decide +kernel
theorem dX8_bestTurn_79 : decode cX8_bestTurn 79 = .ok (.istore_n 3, 1) := by decide +kernel
theorem dX8_bestTurn_80 : decode cX8_bestTurn 80 = .ok (.iload 7, 2) := by decide +kernel
theorem dX8_bestTurn_82 : decode cX8_bestTurn 82 = .ok (.iload 4, 2) := by decide +kernel
theorem dX8_bestTurn_84 : decode cX8_bestTurn 84 = .ok (.if_icmp .le 8, 3) := by decide +kernel
theorem dX8_bestTurn_87 : decode cX8_bestTurn 87 = .ok (.iload 7, 2) := by decide +kernel
theorem dX8_bestTurn_89 : decode cX8_bestTurn 89 = .ok (.goto 5, 3) := by decide +kernel
theorem dX8_bestTurn_92 : decode cX8_bestTurn 92 = .ok (.iload 4, 2) := by decide +kernel
theorem dX8_bestTurn_94 : decode cX8_bestTurn 94 = .ok (.istore 4, 2) := by decide +kernel
theorem dX8_bestTurn_96 : decode cX8_bestTurn 96 = .ok (.iinc 5 1, 3) := by decide +kernel
theorem dX8_bestTurn_99 : decode cX8_bestTurn 99 = .ok (.goto (-65), 3) := by decide +kernel
theorem dX8_bestTurn_102 : decode cX8_bestTurn 102 = .ok (.iload_n 2, 1) := by decide +kernel
theorem dX8_bestTurn_103 : decode cX8_bestTurn 103 = .ok (.ifCond .ne 7, 3) := by decide +kernel
theorem dX8_bestTurn_106 : decode cX8_bestTurn 106 = .ok (.iload_n 3, 1) := by decide +kernel
theorem dX8_bestTurn_107 : decode cX8_bestTurn 107 = .ok (.goto 5, 3) := by decide +kernel
theorem dX8_bestTurn_110 : decode cX8_bestTurn 110 = .ok (.iload 4, 2) := by decide +kernel
theorem dX8_bestTurn_112 : decode cX8_bestTurn 112 = .ok (.ireturn, 1) := by decide +kernel
theorem dX8_sure_0 : decode cX8_sure 0 = .ok (.iload_n 1, 1) := by decide +kernel
theorem dX8_sure_1 : decode cX8_sure 1 = .ok (.iconst 1, 1) := by decide +kernel
theorem dX8_sure_2 : decode cX8_sure 2 = .ok (.bipush 60, 2) := by decide +kernel
theorem dX8_sure_4 : decode cX8_sure 4 = .ok (.invokestatic 80, 3) := by decide +kernel
theorem dX8_sure_7 : decode cX8_sure 7 = .ok (.ifCond .ne 6, 3) := by decide +kernel
theorem dX8_sure_10 : decode cX8_sure 10 = .ok (.ldc 88, 2) := by decide +kernel
theorem dX8_sure_12 : decode cX8_sure 12 = .ok (.ireturn, 1) := by decide +kernel
theorem dX8_sure_13 : decode cX8_sure 13 = .ok (.aload_n 0, 1) := by decide +kernel
theorem dX8_sure_14 : decode cX8_sure 14 = .ok (.invokevirtual 177, 3) := by decide +kernel
theorem dX8_sure_17 : decode cX8_sure 17 = .ok (.sipush 255, 3) := by decide +kernel
theorem dX8_sure_20 : decode cX8_sure 20 = .ok (.istore_n 2, 1) := by decide +kernel
theorem dX8_sure_21 : decode cX8_sure 21 = .ok (.iconst (-1), 1) := by decide +kernel
theorem dX8_sure_22 : decode cX8_sure 22 = .ok (.istore_n 3, 1) := by decide +kernel
theorem dX8_sure_23 : decode cX8_sure 23 = .ok (.iload_n 3, 1) := by decide +kernel
theorem dX8_sure_24 : decode cX8_sure 24 = .ok (.aload_n 0, 1) := by decide +kernel
theorem dX8_sure_25 : decode cX8_sure 25 = .ok (.getfield 9, 3) := by decide +kernel
theorem dX8_sure_28 : decode cX8_sure 28 = .ok (.iconst 1, 1) := by decide +kernel
theorem dX8_sure_29 : decode cX8_sure 29 = .ok (.iaload, 1) := by decide +kernel
theorem dX8_sure_30 : decode cX8_sure 30 = .ok (.if_icmp .ge 32, 3) := by decide +kernel
theorem dX8_sure_33 : decode cX8_sure 33 = .ok (.aload_n 0, 1) := by decide +kernel
theorem dX8_sure_34 : decode cX8_sure 34 = .ok (.iload_n 3, 1) := by decide +kernel
theorem dX8_sure_35 : decode cX8_sure 35 = .ok (.putfield 19, 3) := by decide +kernel
theorem dX8_sure_38 : decode cX8_sure 38 = .ok (.aload_n 0, 1) := by decide +kernel
theorem dX8_sure_39 : decode cX8_sure 39 = .ok (.iload_n 1, 1) := by decide +kernel
theorem dX8_sure_40 : decode cX8_sure 40 = .ok (.invokevirtual 162, 3) := by decide +kernel
theorem dX8_sure_43 : decode cX8_sure 43 = .ok (.istore 4, 2) := by decide +kernel
theorem dX8_sure_45 : decode cX8_sure 45 = .ok (.iload_n 2, 1) := by decide +kernel
theorem dX8_sure_46 : decode cX8_sure 46 = .ok (.aload_n 0, 1) := by decide +kernel
theorem dX8_sure_47 : decode cX8_sure 47 = .ok (.invokevirtual 165, 3) := by decide +kernel
theorem dX8_sure_50 : decode cX8_sure 50 = .ok (.iand, 1) := by decide +kernel
theorem dX8_sure_51 : decode cX8_sure 51 = .ok (.istore_n 2, 1) := by decide +kernel
theorem dX8_sure_52 : decode cX8_sure 52 = .ok (.aload_n 0, 1) := by decide +kernel
theorem dX8_sure_53 : decode cX8_sure 53 = .ok (.invokevirtual 183, 3) := by decide +kernel
theorem dX8_sure_56 : decode cX8_sure 56 = .ok (.iinc 3 1, 3) := by decide +kernel
theorem dX8_sure_59 : decode cX8_sure 59 = .ok (.goto (-36), 3) := by decide +kernel
theorem dX8_sure_62 : decode cX8_sure 62 = .ok (.iload_n 2, 1) := by decide +kernel
theorem dX8_sure_63 : decode cX8_sure 63 = .ok (.ireturn, 1) := by decide +kernel
theorem dX8_votesBehind_0 : decode cX8_votesBehind 0 = .ok (.aload_n 0, 1) := by decide +kernel
theorem dX8_votesBehind_1 : decode cX8_votesBehind 1 = .ok (.iload_n 1, 1) := by decide +kernel
theorem dX8_votesBehind_2 : decode cX8_votesBehind 2 = .ok (.invokevirtual 162, 3) := by decide +kernel
theorem dX8_votesBehind_5 : decode cX8_votesBehind 5 = .ok (.istore_n 2, 1) := by decide +kernel
theorem dX8_votesBehind_6 : decode cX8_votesBehind 6 = .ok (.aload_n 0, 1) := by decide +kernel
theorem dX8_votesBehind_7 : decode cX8_votesBehind 7 = .ok (.invokevirtual 168, 3) := by decide +kernel
theorem dX8_votesBehind_10 : decode cX8_votesBehind 10 = .ok (.istore_n 3, 1) := by decide +kernel
theorem dX8_votesBehind_11 : decode cX8_votesBehind 11 = .ok (.aload_n 0, 1) := by decide +kernel
theorem dX8_votesBehind_12 : decode cX8_votesBehind 12 = .ok (.invokevirtual 183, 3) := by decide +kernel
theorem dX8_votesBehind_15 : decode cX8_votesBehind 15 = .ok (.iload_n 3, 1) := by decide +kernel
theorem dX8_votesBehind_16 : decode cX8_votesBehind 16 = .ok (.ireturn, 1) := by decide +kernel
theorem dX8_advocate_0 : decode cX8_advocate 0 = .ok (.iload_n 1, 1) := by decide +kernel
theorem dX8_advocate_1 : decode cX8_advocate 1 = .ok (.iconst 0, 1) := by decide +kernel
theorem dX8_advocate_2 : decode cX8_advocate 2 = .ok (.bipush 60, 2) := by decide +kernel
theorem dX8_advocate_4 : decode cX8_advocate 4 = .ok (.invokestatic 80, 3) := by decide +kernel
theorem dX8_advocate_7 : decode cX8_advocate 7 = .ok (.ifCond .eq 12, 3) := by decide +kernel
theorem dX8_advocate_10 : decode cX8_advocate 10 = .ok (.iload_n 2, 1) := by decide +kernel
theorem dX8_advocate_11 : decode cX8_advocate 11 = .ok (.iconst 0, 1) := by decide +kernel
theorem dX8_advocate_12 : decode cX8_advocate 12 = .ok (.iconst 1, 1) := by decide +kernel
theorem dX8_advocate_13 : decode cX8_advocate 13 = .ok (.invokestatic 80, 3) := by decide +kernel
theorem dX8_advocate_16 : decode cX8_advocate 16 = .ok (.ifCond .ne 6, 3) := by decide +kernel
theorem dX8_advocate_19 : decode cX8_advocate 19 = .ok (.ldc 88, 2) := by decide +kernel
theorem dX8_advocate_21 : decode cX8_advocate 21 = .ok (.ireturn, 1) := by decide +kernel
theorem dX8_advocate_22 : decode cX8_advocate 22 = .ok (.aload_n 0, 1) := by decide +kernel
theorem dX8_advocate_23 : decode cX8_advocate 23 = .ok (.invokevirtual 177, 3) := by decide +kernel
theorem dX8_advocate_26 : decode cX8_advocate 26 = .ok (.iconst (-1), 1) := by decide +kernel
theorem dX8_advocate_27 : decode cX8_advocate 27 = .ok (.istore_n 3, 1) := by decide +kernel
theorem dX8_advocate_28 : decode cX8_advocate 28 = .ok (.iconst (-1), 1) := by decide +kernel
theorem dX8_advocate_29 : decode cX8_advocate 29 = .ok (.istore 4, 2) := by decide +kernel
theorem dX8_advocate_31 : decode cX8_advocate 31 = .ok (.iconst 0, 1) := by decide +kernel
theorem dX8_advocate_32 : decode cX8_advocate 32 = .ok (.istore 5, 2) := by decide +kernel
theorem dX8_advocate_34 : decode cX8_advocate 34 = .ok (.iload 5, 2) := by decide +kernel
theorem dX8_advocate_36 : decode cX8_advocate 36 = .ok (.bipush 16, 2) := by decide +kernel
theorem dX8_advocate_38 : decode cX8_advocate 38 = .ok (.if_icmp .ge 60, 3) := by decide +kernel
theorem dX8_advocate_41 : decode cX8_advocate 41 = .ok (.aload_n 0, 1) := by decide +kernel
theorem dX8_advocate_42 : decode cX8_advocate 42 = .ok (.iload 5, 2) := by decide +kernel
theorem dX8_advocate_44 : decode cX8_advocate 44 = .ok (.iconst 2, 1) := by decide +kernel
theorem dX8_advocate_45 : decode cX8_advocate 45 = .ok (.idiv, 1) := by decide +kernel
theorem dX8_advocate_46 : decode cX8_advocate 46 = .ok (.iload 5, 2) := by decide +kernel
theorem dX8_advocate_48 : decode cX8_advocate 48 = .ok (.iconst 2, 1) := by decide +kernel
theorem dX8_advocate_49 : decode cX8_advocate 49 = .ok (.irem, 1) := by decide +kernel
theorem dX8_advocate_50 : decode cX8_advocate 50 = .ok (.invokevirtual 153, 3) := by decide +kernel
theorem dX8_advocate_53 : decode cX8_advocate 53 = .ok (.istore 6, 2) := by decide +kernel
theorem dX8_advocate_55 : decode cX8_advocate 55 = .ok (.aload_n 0, 1) := by decide +kernel
theorem dX8_advocate_56 : decode cX8_advocate 56 = .ok (.iload_n 1, 1) := by decide +kernel
theorem dX8_advocate_57 : decode cX8_advocate 57 = .ok (.invokevirtual 189, 3) := by decide +kernel
theorem dX8_advocate_60 : decode cX8_advocate 60 = .ok (.istore 7, 2) := by decide +kernel
theorem dX8_advocate_62 : decode cX8_advocate 62 = .ok (.iload 7, 2) := by decide +kernel
theorem dX8_advocate_64 : decode cX8_advocate 64 = .ok (.iload 4, 2) := by decide +kernel
theorem dX8_advocate_66 : decode cX8_advocate 66 = .ok (.if_icmp .le 8, 3) := by decide +kernel
theorem dX8_advocate_69 : decode cX8_advocate 69 = .ok (.iload 5, 2) := by decide +kernel
theorem dX8_advocate_71 : decode cX8_advocate 71 = .ok (.goto 4, 3) := by decide +kernel
theorem dX8_advocate_74 : decode cX8_advocate 74 = .ok (.iload_n 3, 1) := by decide +kernel
theorem dX8_advocate_75 : decode cX8_advocate 75 = .ok (.istore_n 3, 1) := by decide +kernel
theorem dX8_advocate_76 : decode cX8_advocate 76 = .ok (.iload 7, 2) := by decide +kernel
theorem dX8_advocate_78 : decode cX8_advocate 78 = .ok (.iload 4, 2) := by decide +kernel
theorem dX8_advocate_80 : decode cX8_advocate 80 = .ok (.if_icmp .le 8, 3) := by decide +kernel
theorem dX8_advocate_83 : decode cX8_advocate 83 = .ok (.iload 7, 2) := by decide +kernel
theorem dX8_advocate_85 : decode cX8_advocate 85 = .ok (.goto 5, 3) := by decide +kernel
theorem dX8_advocate_88 : decode cX8_advocate 88 = .ok (.iload 4, 2) := by decide +kernel
theorem dX8_advocate_90 : decode cX8_advocate 90 = .ok (.istore 4, 2) := by decide +kernel
theorem dX8_advocate_92 : decode cX8_advocate 92 = .ok (.iinc 5 1, 3) := by decide +kernel
theorem dX8_advocate_95 : decode cX8_advocate 95 = .ok (.goto (-61), 3) := by decide +kernel
theorem dX8_advocate_98 : decode cX8_advocate 98 = .ok (.iload_n 2, 1) := by decide +kernel
theorem dX8_advocate_99 : decode cX8_advocate 99 = .ok (.ifCond .ne 7, 3) := by decide +kernel
theorem dX8_advocate_102 : decode cX8_advocate 102 = .ok (.iload_n 3, 1) := by decide +kernel
theorem dX8_advocate_103 : decode cX8_advocate 103 = .ok (.goto 5, 3) := by decide +kernel
theorem dX8_advocate_106 : decode cX8_advocate 106 = .ok (.iload 4, 2) := by decide +kernel
theorem dX8_advocate_108 : decode cX8_advocate 108 = .ok (.ireturn, 1) := by decide +kernel
theorem dX8_tipped_0 : decode cX8_tipped 0 = .ok (.iload_n 1, 1) := by decide +kernel
theorem dX8_tipped_1 : decode cX8_tipped 1 = .ok (.iconst 1, 1) := by decide +kernel
theorem dX8_tipped_2 : decode cX8_tipped 2 = .ok (.bipush 60, 2) := by decide +kernel
theorem dX8_tipped_4 : decode cX8_tipped 4 = .ok (.invokestatic 80, 3) := by decide +kernel
theorem dX8_tipped_7 : decode cX8_tipped 7 = .ok (.ifCond .ne 6, 3) := by decide +kernel
theorem dX8_tipped_10 : decode cX8_tipped 10 = .ok (.ldc 88, 2) := by decide +kernel
theorem dX8_tipped_12 : decode cX8_tipped 12 = .ok (.ireturn, 1) := by decide +kernel
theorem dX8_tipped_13 : decode cX8_tipped 13 = .ok (.aload_n 0, 1) := by decide +kernel
theorem dX8_tipped_14 : decode cX8_tipped 14 = .ok (.invokevirtual 177, 3) := by decide +kernel
theorem dX8_tipped_17 : decode cX8_tipped 17 = .ok (.aload_n 0, 1) := by decide +kernel
theorem dX8_tipped_18 : decode cX8_tipped 18 = .ok (.iload_n 1, 1) := by decide +kernel
theorem dX8_tipped_19 : decode cX8_tipped 19 = .ok (.invokevirtual 189, 3) := by decide +kernel
theorem dX8_tipped_22 : decode cX8_tipped 22 = .ok (.istore_n 2, 1) := by decide +kernel
theorem dX8_tipped_23 : decode cX8_tipped 23 = .ok (.iconst 0, 1) := by decide +kernel
theorem dX8_tipped_24 : decode cX8_tipped 24 = .ok (.istore_n 3, 1) := by decide +kernel
theorem dX8_tipped_25 : decode cX8_tipped 25 = .ok (.iconst 0, 1) := by decide +kernel
theorem dX8_tipped_26 : decode cX8_tipped 26 = .ok (.istore 4, 2) := by decide +kernel
theorem dX8_tipped_28 : decode cX8_tipped 28 = .ok (.iload 4, 2) := by decide +kernel
theorem dX8_tipped_30 : decode cX8_tipped 30 = .ok (.aload_n 0, 1) := by decide +kernel
theorem dX8_tipped_31 : decode cX8_tipped 31 = .ok (.getfield 9, 3) := by decide +kernel
theorem dX8_tipped_34 : decode cX8_tipped 34 = .ok (.iconst 1, 1) := by decide +kernel
theorem dX8_tipped_35 : decode cX8_tipped 35 = .ok (.iaload, 1) := by decide +kernel
theorem dX8_tipped_36 : decode cX8_tipped 36 = .ok (.if_icmp .ge 35, 3) := by decide +kernel
theorem dX8_tipped_39 : decode cX8_tipped 39 = .ok (.aload_n 0, 1) := by decide +kernel
theorem dX8_tipped_40 : decode cX8_tipped 40 = .ok (.iload 4, 2) := by decide +kernel
theorem dX8_tipped_42 : decode cX8_tipped 42 = .ok (.putfield 19, 3) := by decide +kernel
theorem dX8_tipped_45 : decode cX8_tipped 45 = .ok (.iload_n 3, 1) := by decide +kernel
theorem dX8_tipped_46 : decode cX8_tipped 46 = .ok (.aload_n 0, 1) := by decide +kernel
theorem dX8_tipped_47 : decode cX8_tipped 47 = .ok (.iload_n 1, 1) := by decide +kernel
theorem dX8_tipped_48 : decode cX8_tipped 48 = .ok (.invokevirtual 189, 3) := by decide +kernel
theorem dX8_tipped_51 : decode cX8_tipped 51 = .ok (.iload_n 2, 1) := by decide +kernel
theorem dX8_tipped_52 : decode cX8_tipped 52 = .ok (.if_icmp .ne 7, 3) := by decide +kernel
theorem dX8_tipped_55 : decode cX8_tipped 55 = .ok (.iconst 0, 1) := by decide +kernel
theorem dX8_tipped_56 : decode cX8_tipped 56 = .ok (.goto 7, 3) := by decide +kernel
theorem dX8_tipped_59 : decode cX8_tipped 59 = .ok (.iconst 1, 1) := by decide +kernel
theorem dX8_tipped_60 : decode cX8_tipped 60 = .ok (.iload 4, 2) := by decide +kernel
theorem dX8_tipped_62 : decode cX8_tipped 62 = .ok (.ishl, 1) := by decide +kernel
theorem dX8_tipped_63 : decode cX8_tipped 63 = .ok (.ior, 1) := by decide +kernel
theorem dX8_tipped_64 : decode cX8_tipped 64 = .ok (.istore_n 3, 1) := by decide +kernel
theorem dX8_tipped_65 : decode cX8_tipped 65 = .ok (.iinc 4 1, 3) := by decide +kernel
theorem dX8_tipped_68 : decode cX8_tipped 68 = .ok (.goto (-40), 3) := by decide +kernel
theorem dX8_tipped_71 : decode cX8_tipped 71 = .ok (.iload_n 3, 1) := by decide +kernel
theorem dX8_tipped_72 : decode cX8_tipped 72 = .ok (.ireturn, 1) := by decide +kernel
theorem dX8_offBy_0 : decode cX8_offBy 0 = .ok (.aload_n 0, 1) := by decide +kernel
theorem dX8_offBy_1 : decode cX8_offBy 1 = .ok (.bipush 8, 2) := by decide +kernel
theorem dX8_offBy_3 : decode cX8_offBy 3 = .ok (.iload_n 2, 1) := by decide +kernel
theorem dX8_offBy_4 : decode cX8_offBy 4 = .ok (.iadd, 1) := by decide +kernel
theorem dX8_offBy_5 : decode cX8_offBy 5 = .ok (.aload_n 0, 1) := by decide +kernel
theorem dX8_offBy_6 : decode cX8_offBy 6 = .ok (.getfield 9, 3) := by decide +kernel
theorem dX8_offBy_9 : decode cX8_offBy 9 = .ok (.bipush 8, 2) := by decide +kernel
theorem dX8_offBy_11 : decode cX8_offBy 11 = .ok (.iload_n 2, 1) := by decide +kernel
theorem dX8_offBy_12 : decode cX8_offBy 12 = .ok (.iadd, 1) := by decide +kernel
theorem dX8_offBy_13 : decode cX8_offBy 13 = .ok (.iaload, 1) := by decide +kernel
theorem dX8_offBy_14 : decode cX8_offBy 14 = .ok (.bipush 20, 2) := by decide +kernel
theorem dX8_offBy_16 : decode cX8_offBy 16 = .ok (.iadd, 1) := by decide +kernel
theorem dX8_offBy_17 : decode cX8_offBy 17 = .ok (.bipush (-50), 2) := by decide +kernel
theorem dX8_offBy_19 : decode cX8_offBy 19 = .ok (.bipush 50, 2) := by decide +kernel
theorem dX8_offBy_21 : decode cX8_offBy 21 = .ok (.invokestatic 111, 3) := by decide +kernel
theorem dX8_offBy_24 : decode cX8_offBy 24 = .ok (.invokevirtual 142, 3) := by decide +kernel
theorem dX8_offBy_27 : decode cX8_offBy 27 = .ok (.istore_n 3, 1) := by decide +kernel
theorem dX8_offBy_28 : decode cX8_offBy 28 = .ok (.lconst 0, 1) := by decide +kernel
theorem dX8_offBy_29 : decode cX8_offBy 29 = .ok (.lstore 4, 2) := by decide +kernel
theorem dX8_offBy_31 : decode cX8_offBy 31 = .ok (.iconst 0, 1) := by decide +kernel
theorem dX8_offBy_32 : decode cX8_offBy 32 = .ok (.istore 6, 2) := by decide +kernel
theorem dX8_offBy_34 : decode cX8_offBy 34 = .ok (.iload 6, 2) := by decide +kernel
theorem dX8_offBy_36 : decode cX8_offBy 36 = .ok (.aload_n 0, 1) := by decide +kernel
theorem dX8_offBy_37 : decode cX8_offBy 37 = .ok (.getfield 55, 3) := by decide +kernel
theorem dX8_offBy_40 : decode cX8_offBy 40 = .ok (.iload_n 1, 1) := by decide +kernel
theorem dX8_offBy_41 : decode cX8_offBy 41 = .ok (.iaload, 1) := by decide +kernel
theorem dX8_offBy_42 : decode cX8_offBy 42 = .ok (.if_icmp .ge 80, 3) := by decide +kernel
theorem dX8_offBy_45 : decode cX8_offBy 45 = .ok (.aload_n 0, 1) := by decide +kernel
theorem dX8_offBy_46 : decode cX8_offBy 46 = .ok (.getfield 58, 3) := by decide +kernel
theorem dX8_offBy_49 : decode cX8_offBy 49 = .ok (.bipush 24, 2) := by decide +kernel
theorem dX8_offBy_51 : decode cX8_offBy 51 = .ok (.iload_n 1, 1) := by decide +kernel
theorem dX8_offBy_52 : decode cX8_offBy 52 = .ok (.imul, 1) := by decide +kernel
theorem dX8_offBy_53 : decode cX8_offBy 53 = .ok (.iload 6, 2) := by decide +kernel
theorem dX8_offBy_55 : decode cX8_offBy 55 = .ok (.iadd, 1) := by decide +kernel
theorem dX8_offBy_56 : decode cX8_offBy 56 = .ok (.iaload, 1) := by decide +kernel
theorem dX8_offBy_57 : decode cX8_offBy 57 = .ok (.istore 7, 2) := by decide +kernel
theorem dX8_offBy_59 : decode cX8_offBy 59 = .ok (.iload 7, 2) := by decide +kernel
theorem dX8_offBy_61 : decode cX8_offBy 61 = .ok (.i2l, 1) := by decide +kernel
theorem dX8_offBy_62 : decode cX8_offBy 62 = .ok (.aload_n 0, 1) := by decide +kernel
theorem dX8_offBy_63 : decode cX8_offBy 63 = .ok (.iload 6, 2) := by decide +kernel
theorem dX8_offBy_65 : decode cX8_offBy 65 = .ok (.invokevirtual 118, 3) := by decide +kernel
theorem dX8_offBy_68 : decode cX8_offBy 68 = .ok (.ifCond .eq 12, 3) := by decide +kernel
theorem dX8_offBy_71 : decode cX8_offBy 71 = .ok (.aload_n 0, 1) := by decide +kernel
theorem dX8_offBy_72 : decode cX8_offBy 72 = .ok (.iload 6, 2) := by decide +kernel
theorem dX8_offBy_74 : decode cX8_offBy 74 = .ok (.invokevirtual 115, 3) := by decide +kernel
theorem dX8_offBy_77 : decode cX8_offBy 77 = .ok (.goto 4, 3) := by decide +kernel
theorem dX8_offBy_80 : decode cX8_offBy 80 = .ok (.iconst 0, 1) := by decide +kernel
theorem dX8_offBy_81 : decode cX8_offBy 81 = .ok (.i2l, 1) := by decide +kernel
theorem dX8_offBy_82 : decode cX8_offBy 82 = .ok (.lsub, 1) := by decide +kernel
theorem dX8_offBy_83 : decode cX8_offBy 83 = .ok (.lstore 8, 2) := by decide +kernel
theorem dX8_offBy_85 : decode cX8_offBy 85 = .ok (.lload 4, 2) := by decide +kernel
theorem dX8_offBy_87 : decode cX8_offBy 87 = .ok (.iload 7, 2) := by decide +kernel
theorem dX8_offBy_89 : decode cX8_offBy 89 = .ok (.ldc 79, 2) := by decide +kernel
theorem dX8_offBy_91 : decode cX8_offBy 91 = .ok (.if_icmp .ne 7, 3) := by decide +kernel
theorem dX8_offBy_94 : decode cX8_offBy 94 = .ok (.lconst 0, 1) := by decide +kernel
theorem dX8_offBy_95 : decode cX8_offBy 95 = .ok (.goto 18, 3) := by decide +kernel
theorem dX8_offBy_98 : decode cX8_offBy 98 = .ok (.lload 8, 2) := by decide +kernel
theorem dX8_offBy_100 : decode cX8_offBy 100 = .ok (.lconst 0, 1) := by decide +kernel
theorem dX8_offBy_101 : decode cX8_offBy 101 = .ok (.lcmp, 1) := by decide +kernel
theorem dX8_offBy_102 : decode cX8_offBy 102 = .ok (.ifCond .ge 9, 3) := by decide +kernel
theorem dX8_offBy_105 : decode cX8_offBy 105 = .ok (.lload 8, 2) := by decide +kernel
theorem dX8_offBy_107 : decode cX8_offBy 107 = .ok (.lneg, 1) := by decide +kernel
theorem dX8_offBy_108 : decode cX8_offBy 108 = .ok (.goto 5, 3) := by decide +kernel
theorem dX8_offBy_111 : decode cX8_offBy 111 = .ok (.lload 8, 2) := by decide +kernel
theorem dX8_offBy_113 : decode cX8_offBy 113 = .ok (.ladd, 1) := by decide +kernel
theorem dX8_offBy_114 : decode cX8_offBy 114 = .ok (.lstore 4, 2) := by decide +kernel
theorem dX8_offBy_116 : decode cX8_offBy 116 = .ok (.iinc 6 1, 3) := by decide +kernel
theorem dX8_offBy_119 : decode cX8_offBy 119 = .ok (.goto (-85), 3) := by decide +kernel
theorem dX8_offBy_122 : decode cX8_offBy 122 = .ok (.aload_n 0, 1) := by decide +kernel
theorem dX8_offBy_123 : decode cX8_offBy 123 = .ok (.getfield 9, 3) := by decide +kernel
theorem dX8_offBy_126 : decode cX8_offBy 126 = .ok (.bipush 8, 2) := by decide +kernel
theorem dX8_offBy_128 : decode cX8_offBy 128 = .ok (.iload_n 2, 1) := by decide +kernel
theorem dX8_offBy_129 : decode cX8_offBy 129 = .ok (.iadd, 1) := by decide +kernel
theorem dX8_offBy_130 : decode cX8_offBy 130 = .ok (.iload_n 3, 1) := by decide +kernel
theorem dX8_offBy_131 : decode cX8_offBy 131 = .ok (.iastore, 1) := by decide +kernel
theorem dX8_offBy_132 : decode cX8_offBy 132 = .ok (.lload 4, 2) := by decide +kernel
theorem dX8_offBy_134 : decode cX8_offBy 134 = .ok (.lreturn, 1) := by decide +kernel
theorem dX8_weighed_0 : decode cX8_weighed 0 = .ok (.iload_n 1, 1) := by decide +kernel
theorem dX8_weighed_1 : decode cX8_weighed 1 = .ok (.invokestatic 192, 3) := by decide +kernel
theorem dX8_weighed_4 : decode cX8_weighed 4 = .ok (.ifCond .eq 12, 3) := by decide +kernel
theorem dX8_weighed_7 : decode cX8_weighed 7 = .ok (.iload_n 2, 1) := by decide +kernel
theorem dX8_weighed_8 : decode cX8_weighed 8 = .ok (.iconst 0, 1) := by decide +kernel
theorem dX8_weighed_9 : decode cX8_weighed 9 = .ok (.iconst 1, 1) := by decide +kernel
theorem dX8_weighed_10 : decode cX8_weighed 10 = .ok (.invokestatic 80, 3) := by decide +kernel
theorem dX8_weighed_13 : decode cX8_weighed 13 = .ok (.ifCond .ne 6, 3) := by decide +kernel
theorem dX8_weighed_16 : decode cX8_weighed 16 = .ok (.ldc 88, 2) := by decide +kernel
theorem dX8_weighed_18 : decode cX8_weighed 18 = .ok (.ireturn, 1) := by decide +kernel
theorem dX8_weighed_19 : decode cX8_weighed 19 = .ok (.aload_n 0, 1) := by decide +kernel
theorem dX8_weighed_20 : decode cX8_weighed 20 = .ok (.getfield 52, 3) := by decide +kernel
theorem dX8_weighed_23 : decode cX8_weighed 23 = .ok (.iload_n 1, 1) := by decide +kernel
theorem dX8_weighed_24 : decode cX8_weighed 24 = .ok (.iaload, 1) := by decide +kernel
theorem dX8_weighed_25 : decode cX8_weighed 25 = .ok (.ifCond .ge 6, 3) := by decide +kernel
theorem dX8_weighed_28 : decode cX8_weighed 28 = .ok (.ldc 195, 2) := by decide +kernel
theorem dX8_weighed_30 : decode cX8_weighed 30 = .ok (.ireturn, 1) := by decide +kernel
theorem dX8_weighed_31 : decode cX8_weighed 31 = .ok (.iconst 0, 1) := by decide +kernel
theorem dX8_weighed_32 : decode cX8_weighed 32 = .ok (.istore_n 3, 1) := by decide +kernel
theorem dX8_weighed_33 : decode cX8_weighed 33 = .ok (.aload_n 0, 1) := by decide +kernel
theorem dX8_weighed_34 : decode cX8_weighed 34 = .ok (.iload_n 1, 1) := by decide +kernel
theorem dX8_weighed_35 : decode cX8_weighed 35 = .ok (.iconst 0, 1) := by decide +kernel
theorem dX8_weighed_36 : decode cX8_weighed 36 = .ok (.invokevirtual 196, 3) := by decide +kernel
theorem dX8_weighed_39 : decode cX8_weighed 39 = .ok (.lstore 4, 2) := by decide +kernel
theorem dX8_weighed_41 : decode cX8_weighed 41 = .ok (.iconst 1, 1) := by decide +kernel
theorem dX8_weighed_42 : decode cX8_weighed 42 = .ok (.istore 6, 2) := by decide +kernel
theorem dX8_weighed_44 : decode cX8_weighed 44 = .ok (.iload 6, 2) := by decide +kernel
theorem dX8_weighed_46 : decode cX8_weighed 46 = .ok (.bipush 8, 2) := by decide +kernel
theorem dX8_weighed_48 : decode cX8_weighed 48 = .ok (.if_icmp .ge 50, 3) := by decide +kernel
theorem dX8_weighed_51 : decode cX8_weighed 51 = .ok (.aload_n 0, 1) := by decide +kernel
theorem dX8_weighed_52 : decode cX8_weighed 52 = .ok (.iload_n 1, 1) := by decide +kernel
theorem dX8_weighed_53 : decode cX8_weighed 53 = .ok (.iload 6, 2) := by decide +kernel
theorem dX8_weighed_55 : decode cX8_weighed 55 = .ok (.invokevirtual 196, 3) := by decide +kernel
theorem dX8_weighed_58 : decode cX8_weighed 58 = .ok (.lstore 7, 2) := by decide +kernel
theorem dX8_weighed_60 : decode cX8_weighed 60 = .ok (.lload 7, 2) := by decide +kernel
theorem dX8_weighed_62 : decode cX8_weighed 62 = .ok (.lload 4, 2) := by decide +kernel
theorem dX8_weighed_64 : decode cX8_weighed 64 = .ok (.lcmp, 1) := by decide +kernel
theorem dX8_weighed_65 : decode cX8_weighed 65 = .ok (.ifCond .ge 8, 3) := by decide +kernel
theorem dX8_weighed_68 : decode cX8_weighed 68 = .ok (.iload 6, 2) := by decide +kernel
theorem dX8_weighed_70 : decode cX8_weighed 70 = .ok (.goto 4, 3) := by decide +kernel
theorem dX8_weighed_73 : decode cX8_weighed 73 = .ok (.iload_n 3, 1) := by decide +kernel
theorem dX8_weighed_74 : decode cX8_weighed 74 = .ok (.istore_n 3, 1) := by decide +kernel
theorem dX8_weighed_75 : decode cX8_weighed 75 = .ok (.lload 7, 2) := by decide +kernel
theorem dX8_weighed_77 : decode cX8_weighed 77 = .ok (.lload 4, 2) := by decide +kernel
theorem dX8_weighed_79 : decode cX8_weighed 79 = .ok (.lcmp, 1) := by decide +kernel
theorem dX8_weighed_80 : decode cX8_weighed 80 = .ok (.ifCond .ge 8, 3) := by decide +kernel
theorem dX8_weighed_83 : decode cX8_weighed 83 = .ok (.lload 7, 2) := by decide +kernel
theorem dX8_weighed_85 : decode cX8_weighed 85 = .ok (.goto 5, 3) := by decide +kernel
theorem dX8_weighed_88 : decode cX8_weighed 88 = .ok (.lload 4, 2) := by decide +kernel
theorem dX8_weighed_90 : decode cX8_weighed 90 = .ok (.lstore 4, 2) := by decide +kernel
theorem dX8_weighed_92 : decode cX8_weighed 92 = .ok (.iinc 6 1, 3) := by decide +kernel
theorem dX8_weighed_95 : decode cX8_weighed 95 = .ok (.goto (-51), 3) := by decide +kernel
theorem dX8_weighed_98 : decode cX8_weighed 98 = .ok (.iload_n 2, 1) := by decide +kernel
theorem dX8_weighed_99 : decode cX8_weighed 99 = .ok (.ifCond .ne 7, 3) := by decide +kernel
theorem dX8_weighed_102 : decode cX8_weighed 102 = .ok (.iload_n 3, 1) := by decide +kernel
theorem dX8_weighed_103 : decode cX8_weighed 103 = .ok (.goto 6, 3) := by decide +kernel
theorem dX8_weighed_106 : decode cX8_weighed 106 = .ok (.lload 4, 2) := by decide +kernel
theorem dX8_weighed_108 : decode cX8_weighed 108 = .ok (.l2i, 1) := by decide +kernel
theorem dX8_weighed_109 : decode cX8_weighed 109 = .ok (.ireturn, 1) := by decide +kernel
theorem dX8_fee_0 : decode cX8_fee 0 = .ok (.aload_n 0, 1) := by decide +kernel
theorem dX8_fee_1 : decode cX8_fee 1 = .ok (.iconst 1, 1) := by decide +kernel
theorem dX8_fee_2 : decode cX8_fee 2 = .ok (.invokevirtual 102, 3) := by decide +kernel
theorem dX8_fee_5 : decode cX8_fee 5 = .ok (.istore_n 1, 1) := by decide +kernel
theorem dX8_fee_6 : decode cX8_fee 6 = .ok (.aload_n 0, 1) := by decide +kernel
theorem dX8_fee_7 : decode cX8_fee 7 = .ok (.getfield 49, 3) := by decide +kernel
theorem dX8_fee_10 : decode cX8_fee 10 = .ok (.iconst 0, 1) := by decide +kernel
theorem dX8_fee_11 : decode cX8_fee 11 = .ok (.aload_n 0, 1) := by decide +kernel
theorem dX8_fee_12 : decode cX8_fee 12 = .ok (.getfield 9, 3) := by decide +kernel
theorem dX8_fee_15 : decode cX8_fee 15 = .ok (.iconst 2, 1) := by decide +kernel
theorem dX8_fee_16 : decode cX8_fee 16 = .ok (.iaload, 1) := by decide +kernel
theorem dX8_fee_17 : decode cX8_fee 17 = .ok (.iastore, 1) := by decide +kernel
theorem dX8_fee_18 : decode cX8_fee 18 = .ok (.aload_n 0, 1) := by decide +kernel
theorem dX8_fee_19 : decode cX8_fee 19 = .ok (.getfield 49, 3) := by decide +kernel
theorem dX8_fee_22 : decode cX8_fee 22 = .ok (.iconst 1, 1) := by decide +kernel
theorem dX8_fee_23 : decode cX8_fee 23 = .ok (.aload_n 0, 1) := by decide +kernel
theorem dX8_fee_24 : decode cX8_fee 24 = .ok (.getfield 9, 3) := by decide +kernel
theorem dX8_fee_27 : decode cX8_fee 27 = .ok (.bipush 6, 2) := by decide +kernel
theorem dX8_fee_29 : decode cX8_fee 29 = .ok (.iaload, 1) := by decide +kernel
theorem dX8_fee_30 : decode cX8_fee 30 = .ok (.iastore, 1) := by decide +kernel
theorem dX8_fee_31 : decode cX8_fee 31 = .ok (.iload_n 1, 1) := by decide +kernel
theorem dX8_fee_32 : decode cX8_fee 32 = .ok (.ifCond .ge 13, 3) := by decide +kernel
theorem dX8_fee_35 : decode cX8_fee 35 = .ok (.aload_n 0, 1) := by decide +kernel
theorem dX8_fee_36 : decode cX8_fee 36 = .ok (.getfield 9, 3) := by decide +kernel
theorem dX8_fee_39 : decode cX8_fee 39 = .ok (.bipush 6, 2) := by decide +kernel
theorem dX8_fee_41 : decode cX8_fee 41 = .ok (.iaload, 1) := by decide +kernel
theorem dX8_fee_42 : decode cX8_fee 42 = .ok (.goto 8, 3) := by decide +kernel
theorem dX8_fee_45 : decode cX8_fee 45 = .ok (.aload_n 0, 1) := by decide +kernel
theorem dX8_fee_46 : decode cX8_fee 46 = .ok (.iload_n 1, 1) := by decide +kernel
theorem dX8_fee_47 : decode cX8_fee 47 = .ok (.invokevirtual 108, 3) := by decide +kernel
theorem dX8_fee_50 : decode cX8_fee 50 = .ok (.ireturn, 1) := by decide +kernel
theorem dX8_fine_0 : decode cX8_fine 0 = .ok (.aload_n 0, 1) := by decide +kernel
theorem dX8_fine_1 : decode cX8_fine 1 = .ok (.iload_n 1, 1) := by decide +kernel
theorem dX8_fine_2 : decode cX8_fine 2 = .ok (.invokevirtual 118, 3) := by decide +kernel
theorem dX8_fine_5 : decode cX8_fine 5 = .ok (.ifCond .ne 6, 3) := by decide +kernel
theorem dX8_fine_8 : decode cX8_fine 8 = .ok (.ldc 88, 2) := by decide +kernel
theorem dX8_fine_10 : decode cX8_fine 10 = .ok (.ireturn, 1) := by decide +kernel
theorem dX8_fine_11 : decode cX8_fine 11 = .ok (.aload_n 0, 1) := by decide +kernel
theorem dX8_fine_12 : decode cX8_fine 12 = .ok (.iconst 2, 1) := by decide +kernel
theorem dX8_fine_13 : decode cX8_fine 13 = .ok (.invokevirtual 102, 3) := by decide +kernel
theorem dX8_fine_16 : decode cX8_fine 16 = .ok (.istore_n 2, 1) := by decide +kernel
theorem dX8_fine_17 : decode cX8_fine 17 = .ok (.aload_n 0, 1) := by decide +kernel
theorem dX8_fine_18 : decode cX8_fine 18 = .ok (.getfield 49, 3) := by decide +kernel
theorem dX8_fine_21 : decode cX8_fine 21 = .ok (.iconst 0, 1) := by decide +kernel
theorem dX8_fine_22 : decode cX8_fine 22 = .ok (.aload_n 0, 1) := by decide +kernel
theorem dX8_fine_23 : decode cX8_fine 23 = .ok (.iload_n 1, 1) := by decide +kernel
theorem dX8_fine_24 : decode cX8_fine 24 = .ok (.iconst 4, 1) := by decide +kernel
theorem dX8_fine_25 : decode cX8_fine 25 = .ok (.invokevirtual 94, 3) := by decide +kernel
theorem dX8_fine_28 : decode cX8_fine 28 = .ok (.iastore, 1) := by decide +kernel
theorem dX8_fine_29 : decode cX8_fine 29 = .ok (.aload_n 0, 1) := by decide +kernel
theorem dX8_fine_30 : decode cX8_fine 30 = .ok (.getfield 49, 3) := by decide +kernel
theorem dX8_fine_33 : decode cX8_fine 33 = .ok (.iconst 1, 1) := by decide +kernel
theorem dX8_fine_34 : decode cX8_fine 34 = .ok (.aload_n 0, 1) := by decide +kernel
theorem dX8_fine_35 : decode cX8_fine 35 = .ok (.iload_n 1, 1) := by decide +kernel
theorem dX8_fine_36 : decode cX8_fine 36 = .ok (.iconst 3, 1) := by decide +kernel
theorem dX8_fine_37 : decode cX8_fine 37 = .ok (.invokevirtual 94, 3) := by decide +kernel
theorem dX8_fine_40 : decode cX8_fine 40 = .ok (.iastore, 1) := by decide +kernel
theorem dX8_fine_41 : decode cX8_fine 41 = .ok (.iload_n 2, 1) := by decide +kernel
theorem dX8_fine_42 : decode cX8_fine 42 = .ok (.ifCond .ge 12, 3) := by decide +kernel
theorem dX8_fine_45 : decode cX8_fine 45 = .ok (.aload_n 0, 1) := by decide +kernel
theorem dX8_fine_46 : decode cX8_fine 46 = .ok (.iload_n 1, 1) := by decide +kernel
theorem dX8_fine_47 : decode cX8_fine 47 = .ok (.iconst 4, 1) := by decide +kernel
theorem dX8_fine_48 : decode cX8_fine 48 = .ok (.invokevirtual 94, 3) := by decide +kernel
theorem dX8_fine_51 : decode cX8_fine 51 = .ok (.goto 8, 3) := by decide +kernel
theorem dX8_fine_54 : decode cX8_fine 54 = .ok (.aload_n 0, 1) := by decide +kernel
theorem dX8_fine_55 : decode cX8_fine 55 = .ok (.iload_n 2, 1) := by decide +kernel
theorem dX8_fine_56 : decode cX8_fine 56 = .ok (.invokevirtual 108, 3) := by decide +kernel
theorem dX8_fine_59 : decode cX8_fine 59 = .ok (.ireturn, 1) := by decide +kernel
theorem dX8_feed_0 : decode cX8_feed 0 = .ok (.aload_n 0, 1) := by decide +kernel
theorem dX8_feed_1 : decode cX8_feed 1 = .ok (.getfield 200, 3) := by decide +kernel
theorem dX8_feed_4 : decode cX8_feed 4 = .ok (.bipush 12, 2) := by decide +kernel
theorem dX8_feed_6 : decode cX8_feed 6 = .ok (.iadd, 1) := by decide +kernel
theorem dX8_feed_7 : decode cX8_feed 7 = .ok (.bipush 96, 2) := by decide +kernel
theorem dX8_feed_9 : decode cX8_feed 9 = .ok (.if_icmp .le 6, 3) := by decide +kernel
theorem dX8_feed_12 : decode cX8_feed 12 = .ok (.ldc 89, 2) := by decide +kernel
theorem dX8_feed_14 : decode cX8_feed 14 = .ok (.ireturn, 1) := by decide +kernel
theorem dX8_feed_15 : decode cX8_feed 15 = .ok (.iconst 0, 1) := by decide +kernel
theorem dX8_feed_16 : decode cX8_feed 16 = .ok (.istore 4, 2) := by decide +kernel
theorem dX8_feed_18 : decode cX8_feed 18 = .ok (.iload 4, 2) := by decide +kernel
theorem dX8_feed_20 : decode cX8_feed 20 = .ok (.bipush 12, 2) := by decide +kernel
theorem dX8_feed_22 : decode cX8_feed 22 = .ok (.if_icmp .ge 62, 3) := by decide +kernel
theorem dX8_feed_25 : decode cX8_feed 25 = .ok (.iload 4, 2) := by decide +kernel
theorem dX8_feed_27 : decode cX8_feed 27 = .ok (.iconst 4, 1) := by decide +kernel
theorem dX8_feed_28 : decode cX8_feed 28 = .ok (.if_icmp .ge 7, 3) := by decide +kernel
theorem dX8_feed_31 : decode cX8_feed 31 = .ok (.iload_n 1, 1) := by decide +kernel
theorem dX8_feed_32 : decode cX8_feed 32 = .ok (.goto 15, 3) := by decide +kernel
theorem dX8_feed_35 : decode cX8_feed 35 = .ok (.iload 4, 2) := by decide +kernel
theorem dX8_feed_37 : decode cX8_feed 37 = .ok (.bipush 8, 2) := by decide +kernel
theorem dX8_feed_39 : decode cX8_feed 39 = .ok (.if_icmp .ge 7, 3) := by decide +kernel
theorem dX8_feed_42 : decode cX8_feed 42 = .ok (.iload_n 2, 1) := by decide +kernel
theorem dX8_feed_43 : decode cX8_feed 43 = .ok (.goto 4, 3) := by decide +kernel
theorem dX8_feed_46 : decode cX8_feed 46 = .ok (.iload_n 3, 1) := by decide +kernel
theorem dX8_feed_47 : decode cX8_feed 47 = .ok (.istore 5, 2) := by decide +kernel
theorem dX8_feed_49 : decode cX8_feed 49 = .ok (.aload_n 0, 1) := by decide +kernel
theorem dX8_feed_50 : decode cX8_feed 50 = .ok (.getfield 26, 3) := by decide +kernel
theorem dX8_feed_53 : decode cX8_feed 53 = .ok (.aload_n 0, 1) := by decide +kernel
theorem dX8_feed_54 : decode cX8_feed 54 = .ok (.getfield 200, 3) := by decide +kernel
theorem dX8_feed_57 : decode cX8_feed 57 = .ok (.iload 4, 2) := by decide +kernel
theorem dX8_feed_59 : decode cX8_feed 59 = .ok (.iadd, 1) := by decide +kernel
theorem dX8_feed_60 : decode cX8_feed 60 = .ok (.iload 5, 2) := by decide +kernel
theorem dX8_feed_62 : decode cX8_feed 62 = .ok (.bipush 24, 2) := by decide +kernel
theorem dX8_feed_64 : decode cX8_feed 64 = .ok (.bipush 8, 2) := by decide +kernel
theorem dX8_feed_66 : decode cX8_feed 66 = .ok (.iload 4, 2) := by decide +kernel
theorem dX8_feed_68 : decode cX8_feed 68 = .ok (.iconst 4, 1) := by decide +kernel
theorem dX8_feed_69 : decode cX8_feed 69 = .ok (.irem, 1) := by decide +kernel
theorem dX8_feed_70 : decode cX8_feed 70 = .ok (.imul, 1) := by decide +kernel
theorem dX8_feed_71 : decode cX8_feed 71 = .ok (.isub, 1) := by decide +kernel
theorem dX8_feed_72 : decode cX8_feed 72 = .ok (.ishr, 1) := by decide +kernel
theorem dX8_feed_73 : decode cX8_feed 73 = .ok (.sipush 255, 3) := by decide +kernel
theorem dX8_feed_76 : decode cX8_feed 76 = .ok (.iand, 1) := by decide +kernel
theorem dX8_feed_77 : decode cX8_feed 77 = .ok (.iastore, 1) := by decide +kernel
theorem dX8_feed_78 : decode cX8_feed 78 = .ok (.iinc 4 1, 3) := by decide +kernel
theorem dX8_feed_81 : decode cX8_feed 81 = .ok (.goto (-63), 3) := by decide +kernel
theorem dX8_feed_84 : decode cX8_feed 84 = .ok (.aload_n 0, 1) := by decide +kernel
theorem dX8_feed_85 : decode cX8_feed 85 = .ok (.dup, 1) := by decide +kernel
theorem dX8_feed_86 : decode cX8_feed 86 = .ok (.getfield 200, 3) := by decide +kernel
theorem dX8_feed_89 : decode cX8_feed 89 = .ok (.bipush 12, 2) := by decide +kernel
theorem dX8_feed_91 : decode cX8_feed 91 = .ok (.iadd, 1) := by decide +kernel
theorem dX8_feed_92 : decode cX8_feed 92 = .ok (.putfield 200, 3) := by decide +kernel
theorem dX8_feed_95 : decode cX8_feed 95 = .ok (.aload_n 0, 1) := by decide +kernel
theorem dX8_feed_96 : decode cX8_feed 96 = .ok (.getfield 200, 3) := by decide +kernel
theorem dX8_feed_99 : decode cX8_feed 99 = .ok (.ireturn, 1) := by decide +kernel
theorem dX8_trim_0 : decode cX8_trim 0 = .ok (.iload_n 1, 1) := by decide +kernel
theorem dX8_trim_1 : decode cX8_trim 1 = .ok (.iconst 0, 1) := by decide +kernel
theorem dX8_trim_2 : decode cX8_trim 2 = .ok (.aload_n 0, 1) := by decide +kernel
theorem dX8_trim_3 : decode cX8_trim 3 = .ok (.getfield 200, 3) := by decide +kernel
theorem dX8_trim_6 : decode cX8_trim 6 = .ok (.invokestatic 80, 3) := by decide +kernel
theorem dX8_trim_9 : decode cX8_trim 9 = .ok (.ifCond .ne 6, 3) := by decide +kernel
theorem dX8_trim_12 : decode cX8_trim 12 = .ok (.ldc 88, 2) := by decide +kernel
theorem dX8_trim_14 : decode cX8_trim 14 = .ok (.ireturn, 1) := by decide +kernel
theorem dX8_trim_15 : decode cX8_trim 15 = .ok (.aload_n 0, 1) := by decide +kernel
theorem dX8_trim_16 : decode cX8_trim 16 = .ok (.iload_n 1, 1) := by decide +kernel
theorem dX8_trim_17 : decode cX8_trim 17 = .ok (.putfield 200, 3) := by decide +kernel
theorem dX8_trim_20 : decode cX8_trim 20 = .ok (.iload_n 1, 1) := by decide +kernel
theorem dX8_trim_21 : decode cX8_trim 21 = .ok (.ireturn, 1) := by decide +kernel
theorem dX8_isLetter_0 : decode cX8_isLetter 0 = .ok (.iload_n 1, 1) := by decide +kernel
theorem dX8_isLetter_1 : decode cX8_isLetter 1 = .ok (.aload_n 0, 1) := by decide +kernel
theorem dX8_isLetter_2 : decode cX8_isLetter 2 = .ok (.getfield 200, 3) := by decide +kernel
theorem dX8_isLetter_5 : decode cX8_isLetter 5 = .ok (.if_icmp .ge 29, 3) := by decide +kernel
theorem dX8_isLetter_8 : decode cX8_isLetter 8 = .ok (.aload_n 0, 1) := by decide +kernel
theorem dX8_isLetter_9 : decode cX8_isLetter 9 = .ok (.getfield 26, 3) := by decide +kernel
theorem dX8_isLetter_12 : decode cX8_isLetter 12 = .ok (.iload_n 1, 1) := by decide +kernel
theorem dX8_isLetter_13 : decode cX8_isLetter 13 = .ok (.iaload, 1) := by decide +kernel
theorem dX8_isLetter_14 : decode cX8_isLetter 14 = .ok (.bipush 97, 2) := by decide +kernel
theorem dX8_isLetter_16 : decode cX8_isLetter 16 = .ok (.if_icmp .lt 18, 3) := by decide +kernel
theorem dX8_isLetter_19 : decode cX8_isLetter 19 = .ok (.aload_n 0, 1) := by decide +kernel
theorem dX8_isLetter_20 : decode cX8_isLetter 20 = .ok (.getfield 26, 3) := by decide +kernel
theorem dX8_isLetter_23 : decode cX8_isLetter 23 = .ok (.iload_n 1, 1) := by decide +kernel
theorem dX8_isLetter_24 : decode cX8_isLetter 24 = .ok (.iaload, 1) := by decide +kernel
theorem dX8_isLetter_25 : decode cX8_isLetter 25 = .ok (.bipush 122, 2) := by decide +kernel
theorem dX8_isLetter_27 : decode cX8_isLetter 27 = .ok (.if_icmp .gt 7, 3) := by decide +kernel
theorem dX8_isLetter_30 : decode cX8_isLetter 30 = .ok (.iconst 1, 1) := by decide +kernel
theorem dX8_isLetter_31 : decode cX8_isLetter 31 = .ok (.goto 4, 3) := by decide +kernel
theorem dX8_isLetter_34 : decode cX8_isLetter 34 = .ok (.iconst 0, 1) := by decide +kernel
theorem dX8_isLetter_35 : decode cX8_isLetter 35 = .ok (.ireturn, 1) := by decide +kernel
theorem dX8_isFigure_0 : decode cX8_isFigure 0 = .ok (.iload_n 1, 1) := by decide +kernel
theorem dX8_isFigure_1 : decode cX8_isFigure 1 = .ok (.aload_n 0, 1) := by decide +kernel
theorem dX8_isFigure_2 : decode cX8_isFigure 2 = .ok (.getfield 200, 3) := by decide +kernel
theorem dX8_isFigure_5 : decode cX8_isFigure 5 = .ok (.if_icmp .ge 29, 3) := by decide +kernel
theorem dX8_isFigure_8 : decode cX8_isFigure 8 = .ok (.aload_n 0, 1) := by decide +kernel
theorem dX8_isFigure_9 : decode cX8_isFigure 9 = .ok (.getfield 26, 3) := by decide +kernel
theorem dX8_isFigure_12 : decode cX8_isFigure 12 = .ok (.iload_n 1, 1) := by decide +kernel
theorem dX8_isFigure_13 : decode cX8_isFigure 13 = .ok (.iaload, 1) := by decide +kernel
theorem dX8_isFigure_14 : decode cX8_isFigure 14 = .ok (.bipush 48, 2) := by decide +kernel
theorem dX8_isFigure_16 : decode cX8_isFigure 16 = .ok (.if_icmp .lt 18, 3) := by decide +kernel
theorem dX8_isFigure_19 : decode cX8_isFigure 19 = .ok (.aload_n 0, 1) := by decide +kernel
theorem dX8_isFigure_20 : decode cX8_isFigure 20 = .ok (.getfield 26, 3) := by decide +kernel
theorem dX8_isFigure_23 : decode cX8_isFigure 23 = .ok (.iload_n 1, 1) := by decide +kernel
theorem dX8_isFigure_24 : decode cX8_isFigure 24 = .ok (.iaload, 1) := by decide +kernel
theorem dX8_isFigure_25 : decode cX8_isFigure 25 = .ok (.bipush 57, 2) := by decide +kernel
theorem dX8_isFigure_27 : decode cX8_isFigure 27 = .ok (.if_icmp .gt 7, 3) := by decide +kernel
theorem dX8_isFigure_30 : decode cX8_isFigure 30 = .ok (.iconst 1, 1) := by decide +kernel
theorem dX8_isFigure_31 : decode cX8_isFigure 31 = .ok (.goto 4, 3) := by decide +kernel
theorem dX8_isFigure_34 : decode cX8_isFigure 34 = .ok (.iconst 0, 1) := by decide +kernel
theorem dX8_isFigure_35 : decode cX8_isFigure 35 = .ok (.ireturn, 1) := by decide +kernel
theorem dX8_go_0 : decode cX8_go 0 = .ok (.aload_n 0, 1) := by decide +kernel
theorem dX8_go_1 : decode cX8_go 1 = .ok (.getfield 203, 3) := by decide +kernel
theorem dX8_go_4 : decode cX8_go 4 = .ok (.aload_n 0, 1) := by decide +kernel
theorem dX8_go_5 : decode cX8_go 5 = .ok (.getfield 200, 3) := by decide +kernel
theorem dX8_go_8 : decode cX8_go 8 = .ok (.if_icmp .ge 30, 3) := by decide +kernel
theorem dX8_go_11 : decode cX8_go 11 = .ok (.aload_n 0, 1) := by decide +kernel
theorem dX8_go_12 : decode cX8_go 12 = .ok (.getfield 26, 3) := by decide +kernel
theorem dX8_go_15 : decode cX8_go 15 = .ok (.aload_n 0, 1) := by decide +kernel
theorem dX8_go_16 : decode cX8_go 16 = .ok (.getfield 203, 3) := by decide +kernel
theorem dX8_go_19 : decode cX8_go 19 = .ok (.iaload, 1) := by decide +kernel
theorem dX8_go_20 : decode cX8_go 20 = .ok (.bipush 32, 2) := by decide +kernel
theorem dX8_go_22 : decode cX8_go 22 = .ok (.if_icmp .ne 16, 3) := by decide +kernel
theorem dX8_go_25 : decode cX8_go 25 = .ok (.aload_n 0, 1) := by decide +kernel
theorem dX8_go_26 : decode cX8_go 26 = .ok (.dup, 1) := by decide +kernel
theorem dX8_go_27 : decode cX8_go 27 = .ok (.getfield 203, 3) := by decide +kernel
theorem dX8_go_30 : decode cX8_go 30 = .ok (.iconst 1, 1) := by decide +kernel
theorem dX8_go_31 : decode cX8_go 31 = .ok (.iadd, 1) := by decide +kernel
theorem dX8_go_32 : decode cX8_go 32 = .ok (.putfield 203, 3) := by decide +kernel
theorem dX8_go_35 : decode cX8_go 35 = .ok (.goto (-35), 3) := by decide +kernel
theorem dX8_go_38 : decode cX8_go 38 = .ok (.aload_n 0, 1) := by decide +kernel
theorem dX8_go_39 : decode cX8_go 39 = .ok (.aload_n 0, 1) := by decide +kernel
theorem dX8_go_40 : decode cX8_go 40 = .ok (.getfield 203, 3) := by decide +kernel
theorem dX8_go_43 : decode cX8_go 43 = .ok (.putfield 206, 3) := by decide +kernel
theorem dX8_go_46 : decode cX8_go 46 = .ok (.aload_n 0, 1) := by decide +kernel
theorem dX8_go_47 : decode cX8_go 47 = .ok (.getfield 206, 3) := by decide +kernel
theorem dX8_go_50 : decode cX8_go 50 = .ok (.aload_n 0, 1) := by decide +kernel
theorem dX8_go_51 : decode cX8_go 51 = .ok (.getfield 209, 3) := by decide +kernel
theorem dX8_go_54 : decode cX8_go 54 = .ok (.if_icmp .ne 7, 3) := by decide +kernel
theorem dX8_go_57 : decode cX8_go 57 = .ok (.iconst 1, 1) := by decide +kernel
theorem dX8_go_58 : decode cX8_go 58 = .ok (.goto 4, 3) := by decide +kernel
theorem dX8_go_61 : decode cX8_go 61 = .ok (.iconst 0, 1) := by decide +kernel
theorem dX8_go_62 : decode cX8_go 62 = .ok (.istore_n 1, 1) := by decide +kernel
theorem dX8_go_63 : decode cX8_go 63 = .ok (.aload_n 0, 1) := by decide +kernel
theorem dX8_go_64 : decode cX8_go 64 = .ok (.getfield 206, 3) := by decide +kernel
theorem dX8_go_67 : decode cX8_go 67 = .ok (.aload_n 0, 1) := by decide +kernel
theorem dX8_go_68 : decode cX8_go 68 = .ok (.getfield 200, 3) := by decide +kernel
theorem dX8_go_71 : decode cX8_go 71 = .ok (.if_icmp .ne 11, 3) := by decide +kernel
theorem dX8_go_74 : decode cX8_go 74 = .ok (.aload_n 0, 1) := by decide +kernel
theorem dX8_go_75 : decode cX8_go 75 = .ok (.iconst 0, 1) := by decide +kernel
theorem dX8_go_76 : decode cX8_go 76 = .ok (.putfield 212, 3) := by decide +kernel
theorem dX8_go_79 : decode cX8_go 79 = .ok (.goto 224, 3) := by decide +kernel
theorem dX8_go_82 : decode cX8_go 82 = .ok (.aload_n 0, 1) := by decide +kernel
theorem dX8_go_83 : decode cX8_go 83 = .ok (.aload_n 0, 1) := by decide +kernel
theorem dX8_go_84 : decode cX8_go 84 = .ok (.getfield 206, 3) := by decide +kernel
theorem dX8_go_87 : decode cX8_go 87 = .ok (.invokevirtual 215, 3) := by decide +kernel
theorem dX8_go_90 : decode cX8_go 90 = .ok (.ifCond .eq 64, 3) := by decide +kernel
theorem dX8_go_93 : decode cX8_go 93 = .ok (.aload_n 0, 1) := by decide +kernel
theorem dX8_go_94 : decode cX8_go 94 = .ok (.aload_n 0, 1) := by decide +kernel
theorem dX8_go_95 : decode cX8_go 95 = .ok (.getfield 203, 3) := by decide +kernel
theorem dX8_go_98 : decode cX8_go 98 = .ok (.invokevirtual 215, 3) := by decide +kernel
theorem dX8_go_101 : decode cX8_go 101 = .ok (.ifCond .eq 16, 3) := by decide +kernel
theorem dX8_go_104 : decode cX8_go 104 = .ok (.aload_n 0, 1) := by decide +kernel
theorem dX8_go_105 : decode cX8_go 105 = .ok (.dup, 1) := by decide +kernel
theorem dX8_go_106 : decode cX8_go 106 = .ok (.getfield 203, 3) := by decide +kernel
theorem dX8_go_109 : decode cX8_go 109 = .ok (.iconst 1, 1) := by decide +kernel
theorem dX8_go_110 : decode cX8_go 110 = .ok (.iadd, 1) := by decide +kernel
theorem dX8_go_111 : decode cX8_go 111 = .ok (.putfield 203, 3) := by decide +kernel
theorem dX8_go_114 : decode cX8_go 114 = .ok (.goto (-21), 3) := by decide +kernel
theorem dX8_go_117 : decode cX8_go 117 = .ok (.aload_n 0, 1) := by decide +kernel
theorem dX8_go_118 : decode cX8_go 118 = .ok (.iload_n 1, 1) := by decide +kernel
theorem dX8_go_119 : decode cX8_go 119 = .ok (.ifCond .eq 7, 3) := by decide +kernel
theorem dX8_go_122 : decode cX8_go 122 = .ok (.iconst 4, 1) := by decide +kernel
theorem dX8_go_123 : decode cX8_go 123 = .ok (.goto 4, 3) := by decide +kernel
theorem dX8_go_126 : decode cX8_go 126 = .ok (.iconst 1, 1) := by decide +kernel
theorem dX8_go_127 : decode cX8_go 127 = .ok (.putfield 212, 3) := by decide +kernel
theorem dX8_go_130 : decode cX8_go 130 = .ok (.aload_n 0, 1) := by decide +kernel
theorem dX8_go_131 : decode cX8_go 131 = .ok (.aload_n 0, 1) := by decide +kernel
theorem dX8_go_132 : decode cX8_go 132 = .ok (.getfield 26, 3) := by decide +kernel
theorem dX8_go_135 : decode cX8_go 135 = .ok (.aload_n 0, 1) := by decide +kernel
theorem dX8_go_136 : decode cX8_go 136 = .ok (.getfield 206, 3) := by decide +kernel
theorem dX8_go_139 : decode cX8_go 139 = .ok (.iaload, 1) := by decide +kernel
theorem dX8_go_140 : decode cX8_go 140 = .ok (.putfield 218, 3) := by decide +kernel
theorem dX8_go_143 : decode cX8_go 143 = .ok (.aload_n 0, 1) := by decide +kernel
theorem dX8_go_144 : decode cX8_go 144 = .ok (.aload_n 0, 1) := by decide +kernel
theorem dX8_go_145 : decode cX8_go 145 = .ok (.getfield 203, 3) := by decide +kernel
theorem dX8_go_148 : decode cX8_go 148 = .ok (.putfield 209, 3) := by decide +kernel
theorem dX8_go_151 : decode cX8_go 151 = .ok (.goto 152, 3) := by decide +kernel
theorem dX8_go_154 : decode cX8_go 154 = .ok (.aload_n 0, 1) := by decide +kernel
theorem dX8_go_155 : decode cX8_go 155 = .ok (.aload_n 0, 1) := by decide +kernel
theorem dX8_go_156 : decode cX8_go 156 = .ok (.getfield 206, 3) := by decide +kernel
theorem dX8_go_159 : decode cX8_go 159 = .ok (.invokevirtual 221, 3) := by decide +kernel
theorem dX8_go_162 : decode cX8_go 162 = .ok (.ifCond .eq 113, 3) := by decide +kernel
theorem dX8_go_165 : decode cX8_go 165 = .ok (.aload_n 0, 1) := by decide +kernel
theorem dX8_go_166 : decode cX8_go 166 = .ok (.iconst 0, 1) := by decide +kernel
theorem dX8_go_167 : decode cX8_go 167 = .ok (.putfield 218, 3) := by decide +kernel
theorem dX8_go_170 : decode cX8_go 170 = .ok (.aload_n 0, 1) := by decide +kernel
theorem dX8_go_171 : decode cX8_go 171 = .ok (.aload_n 0, 1) := by decide +kernel
theorem dX8_go_172 : decode cX8_go 172 = .ok (.getfield 203, 3) := by decide +kernel
theorem dX8_go_175 : decode cX8_go 175 = .ok (.invokevirtual 221, 3) := by decide +kernel
theorem dX8_go_178 : decode cX8_go 178 = .ok (.ifCond .eq 60, 3) := by decide +kernel
theorem dX8_go_181 : decode cX8_go 181 = .ok (.aload_n 0, 1) := by decide +kernel
theorem dX8_go_182 : decode cX8_go 182 = .ok (.aload_n 0, 1) := by decide +kernel
theorem dX8_go_183 : decode cX8_go 183 = .ok (.getfield 203, 3) := by decide +kernel
theorem dX8_go_186 : decode cX8_go 186 = .ok (.aload_n 0, 1) := by decide +kernel
theorem dX8_go_187 : decode cX8_go 187 = .ok (.getfield 206, 3) := by decide +kernel
theorem dX8_go_190 : decode cX8_go 190 = .ok (.isub, 1) := by decide +kernel
theorem dX8_go_191 : decode cX8_go 191 = .ok (.iconst 4, 1) := by decide +kernel
theorem dX8_go_192 : decode cX8_go 192 = .ok (.if_icmp .ge 26, 3) := by decide +kernel
theorem dX8_go_195 : decode cX8_go 195 = .ok (.bipush 10, 2) := by decide +kernel
theorem dX8_go_197 : decode cX8_go 197 = .ok (.aload_n 0, 1) := by decide +kernel
theorem dX8_go_198 : decode cX8_go 198 = .ok (.getfield 218, 3) := by decide +kernel
theorem dX8_go_201 : decode cX8_go 201 = .ok (.imul, 1) := by decide +kernel
theorem dX8_go_202 : decode cX8_go 202 = .ok (.aload_n 0, 1) := by decide +kernel
theorem dX8_go_203 : decode cX8_go 203 = .ok (.getfield 26, 3) := by decide +kernel
theorem dX8_go_206 : decode cX8_go 206 = .ok (.aload_n 0, 1) := by decide +kernel
theorem dX8_go_207 : decode cX8_go 207 = .ok (.getfield 203, 3) := by decide +kernel
theorem dX8_go_210 : decode cX8_go 210 = .ok (.iaload, 1) := by decide +kernel
theorem dX8_go_211 : decode cX8_go 211 = .ok (.iadd, 1) := by decide +kernel
theorem dX8_go_212 : decode cX8_go 212 = .ok (.bipush 48, 2) := by decide +kernel
theorem dX8_go_214 : decode cX8_go 214 = .ok (.isub, 1) := by decide +kernel
theorem dX8_go_215 : decode cX8_go 215 = .ok (.goto 7, 3) := by decide +kernel
theorem dX8_go_218 : decode cX8_go 218 = .ok (.aload_n 0, 1) := by decide +kernel
theorem dX8_go_219 : decode cX8_go 219 = .ok (.getfield 218, 3) := by decide +kernel
theorem dX8_go_222 : decode cX8_go 222 = .ok (.putfield 218, 3) := by decide +kernel
theorem dX8_go_225 : decode cX8_go 225 = .ok (.aload_n 0, 1) := by decide +kernel
theorem dX8_go_226 : decode cX8_go 226 = .ok (.dup, 1) := by decide +kernel
theorem dX8_go_227 : decode cX8_go 227 = .ok (.getfield 203, 3) := by decide +kernel
theorem dX8_go_230 : decode cX8_go 230 = .ok (.iconst 1, 1) := by decide +kernel
theorem dX8_go_231 : decode cX8_go 231 = .ok (.iadd, 1) := by decide +kernel
theorem dX8_go_232 : decode cX8_go 232 = .ok (.putfield 203, 3) := by decide +kernel
theorem dX8_go_235 : decode cX8_go 235 = .ok (.goto (-65), 3) := by decide +kernel
theorem dX8_go_238 : decode cX8_go 238 = .ok (.aload_n 0, 1) := by decide +kernel
theorem dX8_go_239 : decode cX8_go 239 = .ok (.iload_n 1, 1) := by decide +kernel
theorem dX8_go_240 : decode cX8_go 240 = .ok (.ifCond .ne 16, 3) := by decide +kernel
theorem dX8_go_243 : decode cX8_go 243 = .ok (.aload_n 0, 1) := by decide +kernel
theorem dX8_go_244 : decode cX8_go 244 = .ok (.getfield 203, 3) := by decide +kernel
theorem dX8_go_247 : decode cX8_go 247 = .ok (.aload_n 0, 1) := by decide +kernel
theorem dX8_go_248 : decode cX8_go 248 = .ok (.getfield 206, 3) := by decide +kernel
theorem dX8_go_251 : decode cX8_go 251 = .ok (.isub, 1) := by decide +kernel
theorem dX8_go_252 : decode cX8_go 252 = .ok (.iconst 4, 1) := by decide +kernel
theorem dX8_go_253 : decode cX8_go 253 = .ok (.if_icmp .le 7, 3) := by decide +kernel
theorem dX8_go_256 : decode cX8_go 256 = .ok (.iconst 4, 1) := by decide +kernel
theorem dX8_go_257 : decode cX8_go 257 = .ok (.goto 4, 3) := by decide +kernel
theorem dX8_go_260 : decode cX8_go 260 = .ok (.iconst 2, 1) := by decide +kernel
theorem dX8_go_261 : decode cX8_go 261 = .ok (.putfield 212, 3) := by decide +kernel
theorem dX8_go_264 : decode cX8_go 264 = .ok (.aload_n 0, 1) := by decide +kernel
theorem dX8_go_265 : decode cX8_go 265 = .ok (.aload_n 0, 1) := by decide +kernel
theorem dX8_go_266 : decode cX8_go 266 = .ok (.getfield 203, 3) := by decide +kernel
theorem dX8_go_269 : decode cX8_go 269 = .ok (.putfield 209, 3) := by decide +kernel
theorem dX8_go_272 : decode cX8_go 272 = .ok (.goto 31, 3) := by decide +kernel
theorem dX8_go_275 : decode cX8_go 275 = .ok (.aload_n 0, 1) := by decide +kernel
theorem dX8_go_276 : decode cX8_go 276 = .ok (.iconst 3, 1) := by decide +kernel
theorem dX8_go_277 : decode cX8_go 277 = .ok (.putfield 212, 3) := by decide +kernel
theorem dX8_go_280 : decode cX8_go 280 = .ok (.aload_n 0, 1) := by decide +kernel
theorem dX8_go_281 : decode cX8_go 281 = .ok (.aload_n 0, 1) := by decide +kernel
theorem dX8_go_282 : decode cX8_go 282 = .ok (.getfield 26, 3) := by decide +kernel
theorem dX8_go_285 : decode cX8_go 285 = .ok (.aload_n 0, 1) := by decide +kernel
theorem dX8_go_286 : decode cX8_go 286 = .ok (.getfield 206, 3) := by decide +kernel
theorem dX8_go_289 : decode cX8_go 289 = .ok (.iaload, 1) := by decide +kernel
theorem dX8_go_290 : decode cX8_go 290 = .ok (.putfield 218, 3) := by decide +kernel
theorem dX8_go_293 : decode cX8_go 293 = .ok (.aload_n 0, 1) := by decide +kernel
theorem dX8_go_294 : decode cX8_go 294 = .ok (.dup, 1) := by decide +kernel
theorem dX8_go_295 : decode cX8_go 295 = .ok (.getfield 203, 3) := by decide +kernel
theorem dX8_go_298 : decode cX8_go 298 = .ok (.iconst 1, 1) := by decide +kernel
theorem dX8_go_299 : decode cX8_go 299 = .ok (.iadd, 1) := by decide +kernel
theorem dX8_go_300 : decode cX8_go 300 = .ok (.putfield 203, 3) := by decide +kernel
theorem dX8_go_303 : decode cX8_go 303 = .ok (.return_, 1) := by decide +kernel
theorem dX8_takesKey_0 : decode cX8_takesKey 0 = .ok (.aload_n 0, 1) := by decide +kernel
theorem dX8_takesKey_1 : decode cX8_takesKey 1 = .ok (.getfield 212, 3) := by decide +kernel
theorem dX8_takesKey_4 : decode cX8_takesKey 4 = .ok (.iconst 1, 1) := by decide +kernel
theorem dX8_takesKey_5 : decode cX8_takesKey 5 = .ok (.if_icmp .eq 5, 3) := by decide +kernel
theorem dX8_takesKey_8 : decode cX8_takesKey 8 = .ok (.iconst 0, 1) := by decide +kernel
theorem dX8_takesKey_9 : decode cX8_takesKey 9 = .ok (.ireturn, 1) := by decide +kernel
theorem dX8_takesKey_10 : decode cX8_takesKey 10 = .ok (.iconst 0, 1) := by decide +kernel
theorem dX8_takesKey_11 : decode cX8_takesKey 11 = .ok (.istore_n 1, 1) := by decide +kernel
theorem dX8_takesKey_12 : decode cX8_takesKey 12 = .ok (.iload_n 1, 1) := by decide +kernel
theorem dX8_takesKey_13 : decode cX8_takesKey 13 = .ok (.iconst 3, 1) := by decide +kernel
theorem dX8_takesKey_14 : decode cX8_takesKey 14 = .ok (.if_icmp .ge 113, 3) := by decide +kernel
theorem dX8_takesKey_17 : decode cX8_takesKey 17 = .ok (.aload_n 0, 1) := by decide +kernel
theorem dX8_takesKey_18 : decode cX8_takesKey 18 = .ok (.getfield 33, 3) := by decide +kernel
theorem dX8_takesKey_21 : decode cX8_takesKey 21 = .ok (.iload_n 1, 1) := by decide +kernel
theorem dX8_takesKey_22 : decode cX8_takesKey 22 = .ok (.iconst 1, 1) := by decide +kernel
theorem dX8_takesKey_23 : decode cX8_takesKey 23 = .ok (.iadd, 1) := by decide +kernel
theorem dX8_takesKey_24 : decode cX8_takesKey 24 = .ok (.iaload, 1) := by decide +kernel
theorem dX8_takesKey_25 : decode cX8_takesKey 25 = .ok (.aload_n 0, 1) := by decide +kernel
theorem dX8_takesKey_26 : decode cX8_takesKey 26 = .ok (.getfield 33, 3) := by decide +kernel
theorem dX8_takesKey_29 : decode cX8_takesKey 29 = .ok (.iload_n 1, 1) := by decide +kernel
theorem dX8_takesKey_30 : decode cX8_takesKey 30 = .ok (.iaload, 1) := by decide +kernel
theorem dX8_takesKey_31 : decode cX8_takesKey 31 = .ok (.isub, 1) := by decide +kernel
theorem dX8_takesKey_32 : decode cX8_takesKey 32 = .ok (.istore_n 2, 1) := by decide +kernel
theorem dX8_takesKey_33 : decode cX8_takesKey 33 = .ok (.iload_n 2, 1) := by decide +kernel
theorem dX8_takesKey_34 : decode cX8_takesKey 34 = .ok (.aload_n 0, 1) := by decide +kernel
theorem dX8_takesKey_35 : decode cX8_takesKey 35 = .ok (.getfield 203, 3) := by decide +kernel
theorem dX8_takesKey_38 : decode cX8_takesKey 38 = .ok (.aload_n 0, 1) := by decide +kernel
theorem dX8_takesKey_39 : decode cX8_takesKey 39 = .ok (.getfield 206, 3) := by decide +kernel
theorem dX8_takesKey_42 : decode cX8_takesKey 42 = .ok (.isub, 1) := by decide +kernel
theorem dX8_takesKey_43 : decode cX8_takesKey 43 = .ok (.if_icmp .ne 7, 3) := by decide +kernel
theorem dX8_takesKey_46 : decode cX8_takesKey 46 = .ok (.iconst 1, 1) := by decide +kernel
theorem dX8_takesKey_47 : decode cX8_takesKey 47 = .ok (.goto 4, 3) := by decide +kernel
theorem dX8_takesKey_50 : decode cX8_takesKey 50 = .ok (.iconst 0, 1) := by decide +kernel
theorem dX8_takesKey_51 : decode cX8_takesKey 51 = .ok (.istore_n 3, 1) := by decide +kernel
theorem dX8_takesKey_52 : decode cX8_takesKey 52 = .ok (.iconst 0, 1) := by decide +kernel
theorem dX8_takesKey_53 : decode cX8_takesKey 53 = .ok (.istore 4, 2) := by decide +kernel
theorem dX8_takesKey_55 : decode cX8_takesKey 55 = .ok (.iload 4, 2) := by decide +kernel
theorem dX8_takesKey_57 : decode cX8_takesKey 57 = .ok (.iload_n 2, 1) := by decide +kernel
theorem dX8_takesKey_58 : decode cX8_takesKey 58 = .ok (.if_icmp .ge 48, 3) := by decide +kernel
theorem dX8_takesKey_61 : decode cX8_takesKey 61 = .ok (.iload_n 3, 1) := by decide +kernel
theorem dX8_takesKey_62 : decode cX8_takesKey 62 = .ok (.ifCond .eq 44, 3) := by decide +kernel
theorem dX8_takesKey_65 : decode cX8_takesKey 65 = .ok (.aload_n 0, 1) := by decide +kernel
theorem dX8_takesKey_66 : decode cX8_takesKey 66 = .ok (.getfield 26, 3) := by decide +kernel
theorem dX8_takesKey_69 : decode cX8_takesKey 69 = .ok (.aload_n 0, 1) := by decide +kernel
theorem dX8_takesKey_70 : decode cX8_takesKey 70 = .ok (.getfield 206, 3) := by decide +kernel
theorem dX8_takesKey_73 : decode cX8_takesKey 73 = .ok (.iload 4, 2) := by decide +kernel
theorem dX8_takesKey_75 : decode cX8_takesKey 75 = .ok (.iadd, 1) := by decide +kernel
theorem dX8_takesKey_76 : decode cX8_takesKey 76 = .ok (.iaload, 1) := by decide +kernel
theorem dX8_takesKey_77 : decode cX8_takesKey 77 = .ok (.aload_n 0, 1) := by decide +kernel
theorem dX8_takesKey_78 : decode cX8_takesKey 78 = .ok (.getfield 29, 3) := by decide +kernel
theorem dX8_takesKey_81 : decode cX8_takesKey 81 = .ok (.aload_n 0, 1) := by decide +kernel
theorem dX8_takesKey_82 : decode cX8_takesKey 82 = .ok (.getfield 33, 3) := by decide +kernel
theorem dX8_takesKey_85 : decode cX8_takesKey 85 = .ok (.iload_n 1, 1) := by decide +kernel
theorem dX8_takesKey_86 : decode cX8_takesKey 86 = .ok (.iaload, 1) := by decide +kernel
theorem dX8_takesKey_87 : decode cX8_takesKey 87 = .ok (.iload 4, 2) := by decide +kernel
theorem dX8_takesKey_89 : decode cX8_takesKey 89 = .ok (.iadd, 1) := by decide +kernel
theorem dX8_takesKey_90 : decode cX8_takesKey 90 = .ok (.caload, 1) := by decide +kernel
theorem dX8_takesKey_91 : decode cX8_takesKey 91 = .ok (.if_icmp .ne 7, 3) := by decide +kernel
theorem dX8_takesKey_94 : decode cX8_takesKey 94 = .ok (.iconst 1, 1) := by decide +kernel
theorem dX8_takesKey_95 : decode cX8_takesKey 95 = .ok (.goto 4, 3) := by decide +kernel
theorem dX8_takesKey_98 : decode cX8_takesKey 98 = .ok (.iconst 0, 1) := by decide +kernel
theorem dX8_takesKey_99 : decode cX8_takesKey 99 = .ok (.istore_n 3, 1) := by decide +kernel
theorem dX8_takesKey_100 : decode cX8_takesKey 100 = .ok (.iinc 4 1, 3) := by decide +kernel
theorem dX8_takesKey_103 : decode cX8_takesKey 103 = .ok (.goto (-48), 3) := by decide +kernel
theorem dX8_takesKey_106 : decode cX8_takesKey 106 = .ok (.iload_n 3, 1) := by decide +kernel
theorem dX8_takesKey_107 : decode cX8_takesKey 107 = .ok (.ifCond .eq 14, 3) := by decide +kernel
theorem dX8_takesKey_110 : decode cX8_takesKey 110 = .ok (.aload_n 0, 1) := by decide +kernel
theorem dX8_takesKey_111 : decode cX8_takesKey 111 = .ok (.iload_n 1, 1) := by decide +kernel
theorem dX8_takesKey_112 : decode cX8_takesKey 112 = .ok (.putfield 224, 3) := by decide +kernel
theorem dX8_takesKey_115 : decode cX8_takesKey 115 = .ok (.aload_n 0, 1) := by decide +kernel
theorem dX8_takesKey_116 : decode cX8_takesKey 116 = .ok (.invokevirtual 227, 3) := by decide +kernel
theorem dX8_takesKey_119 : decode cX8_takesKey 119 = .ok (.iconst 1, 1) := by decide +kernel
theorem dX8_takesKey_120 : decode cX8_takesKey 120 = .ok (.ireturn, 1) := by decide +kernel
theorem dX8_takesKey_121 : decode cX8_takesKey 121 = .ok (.iinc 1 1, 3) := by decide +kernel
theorem dX8_takesKey_124 : decode cX8_takesKey 124 = .ok (.goto (-112), 3) := by decide +kernel
theorem dX8_takesKey_127 : decode cX8_takesKey 127 = .ok (.iconst 0, 1) := by decide +kernel
theorem dX8_takesKey_128 : decode cX8_takesKey 128 = .ok (.ireturn, 1) := by decide +kernel
theorem dX8_nameOf_0 : decode cX8_nameOf 0 = .ok (.aload_n 0, 1) := by decide +kernel
theorem dX8_nameOf_1 : decode cX8_nameOf 1 = .ok (.getfield 224, 3) := by decide +kernel
theorem dX8_nameOf_4 : decode cX8_nameOf 4 = .ok (.lookupswitch 82 #[(0, 28), (1, 60)], 28) := by decide +kernel
theorem dX8_nameOf_32 : decode cX8_nameOf 32 = .ok (.iload_n 1, 1) := by decide +kernel
theorem dX8_nameOf_33 : decode cX8_nameOf 33 = .ok (.bipush 107, 2) := by decide +kernel
theorem dX8_nameOf_35 : decode cX8_nameOf 35 = .ok (.if_icmp .ne 7, 3) := by decide +kernel
theorem dX8_nameOf_38 : decode cX8_nameOf 38 = .ok (.iconst 0, 1) := by decide +kernel
theorem dX8_nameOf_39 : decode cX8_nameOf 39 = .ok (.goto 24, 3) := by decide +kernel
theorem dX8_nameOf_42 : decode cX8_nameOf 42 = .ok (.iload_n 1, 1) := by decide +kernel
theorem dX8_nameOf_43 : decode cX8_nameOf 43 = .ok (.bipush 119, 2) := by decide +kernel
theorem dX8_nameOf_45 : decode cX8_nameOf 45 = .ok (.if_icmp .ne 7, 3) := by decide +kernel
theorem dX8_nameOf_48 : decode cX8_nameOf 48 = .ok (.iconst 1, 1) := by decide +kernel
theorem dX8_nameOf_49 : decode cX8_nameOf 49 = .ok (.goto 14, 3) := by decide +kernel
theorem dX8_nameOf_52 : decode cX8_nameOf 52 = .ok (.iload_n 1, 1) := by decide +kernel
theorem dX8_nameOf_53 : decode cX8_nameOf 53 = .ok (.bipush 100, 2) := by decide +kernel
theorem dX8_nameOf_55 : decode cX8_nameOf 55 = .ok (.if_icmp .ne 7, 3) := by decide +kernel
theorem dX8_nameOf_58 : decode cX8_nameOf 58 = .ok (.iconst 2, 1) := by decide +kernel
theorem dX8_nameOf_59 : decode cX8_nameOf 59 = .ok (.goto 4, 3) := by decide +kernel
theorem dX8_nameOf_62 : decode cX8_nameOf 62 = .ok (.iconst (-1), 1) := by decide +kernel
theorem dX8_nameOf_63 : decode cX8_nameOf 63 = .ok (.ireturn, 1) := by decide +kernel
theorem dX8_nameOf_64 : decode cX8_nameOf 64 = .ok (.iload_n 1, 1) := by decide +kernel
theorem dX8_nameOf_65 : decode cX8_nameOf 65 = .ok (.bipush 104, 2) := by decide +kernel
theorem dX8_nameOf_67 : decode cX8_nameOf 67 = .ok (.if_icmp .ne 7, 3) := by decide +kernel
theorem dX8_nameOf_70 : decode cX8_nameOf 70 = .ok (.iconst 0, 1) := by decide +kernel
end
section
theorem dX8_nameOf_71 : decode cX8_nameOf 71 = .ok (.goto 14, 3) := by decide +kernel
theorem dX8_nameOf_74 : decode cX8_nameOf 74 = .ok (.iload_n 1, 1) := by decide +kernel
theorem dX8_nameOf_75 : decode cX8_nameOf 75 = .ok (.bipush 115, 2) := by decide +kernel
theorem dX8_nameOf_77 : decode cX8_nameOf 77 = .ok (.if_icmp .ne 7, 3) := by decide +kernel
theorem dX8_nameOf_80 : decode cX8_nameOf 80 = .ok (.iconst 1, 1) := by decide +kernel
theorem dX8_nameOf_81 : decode cX8_nameOf 81 = .ok (.goto 4, 3) := by decide +kernel
theorem dX8_nameOf_84 : decode cX8_nameOf 84 = .ok (.iconst (-1), 1) := by decide +kernel
theorem dX8_nameOf_85 : decode cX8_nameOf 85 = .ok (.ireturn, 1) := by decide +kernel
theorem dX8_nameOf_86 : decode cX8_nameOf 86 = .ok (.iload_n 1, 1) := by decide +kernel
theorem dX8_nameOf_87 : decode cX8_nameOf 87 = .ok (.bipush 112, 2) := by decide +kernel
theorem dX8_nameOf_89 : decode cX8_nameOf 89 = .ok (.if_icmp .ne 7, 3) := by decide +kernel
theorem dX8_nameOf_92 : decode cX8_nameOf 92 = .ok (.iconst 0, 1) := by decide +kernel
theorem dX8_nameOf_93 : decode cX8_nameOf 93 = .ok (.goto 14, 3) := by decide +kernel
theorem dX8_nameOf_96 : decode cX8_nameOf 96 = .ok (.iload_n 1, 1) := by decide +kernel
theorem dX8_nameOf_97 : decode cX8_nameOf 97 = .ok (.bipush 98, 2) := by decide +kernel
theorem dX8_nameOf_99 : decode cX8_nameOf 99 = .ok (.if_icmp .ne 7, 3) := by decide +kernel
theorem dX8_nameOf_102 : decode cX8_nameOf 102 = .ok (.iconst 1, 1) := by decide +kernel
theorem dX8_nameOf_103 : decode cX8_nameOf 103 = .ok (.goto 4, 3) := by decide +kernel
theorem dX8_nameOf_106 : decode cX8_nameOf 106 = .ok (.iconst (-1), 1) := by decide +kernel
theorem dX8_nameOf_107 : decode cX8_nameOf 107 = .ok (.ireturn, 1) := by decide +kernel
theorem dX8_rank_0 : decode cX8_rank 0 = .ok (.iload_n 0, 1) := by decide +kernel
theorem dX8_rank_1 : decode cX8_rank 1 = .ok (.iconst (-1), 1) := by decide +kernel
theorem dX8_rank_2 : decode cX8_rank 2 = .ok (.if_icmp .ne 7, 3) := by decide +kernel
theorem dX8_rank_5 : decode cX8_rank 5 = .ok (.iconst 1, 1) := by decide +kernel
theorem dX8_rank_6 : decode cX8_rank 6 = .ok (.goto 45, 3) := by decide +kernel
theorem dX8_rank_9 : decode cX8_rank 9 = .ok (.iload_n 0, 1) := by decide +kernel
theorem dX8_rank_10 : decode cX8_rank 10 = .ok (.bipush (-2), 2) := by decide +kernel
theorem dX8_rank_12 : decode cX8_rank 12 = .ok (.if_icmp .ne 7, 3) := by decide +kernel
theorem dX8_rank_15 : decode cX8_rank 15 = .ok (.iconst 2, 1) := by decide +kernel
theorem dX8_rank_16 : decode cX8_rank 16 = .ok (.goto 35, 3) := by decide +kernel
theorem dX8_rank_19 : decode cX8_rank 19 = .ok (.iload_n 0, 1) := by decide +kernel
theorem dX8_rank_20 : decode cX8_rank 20 = .ok (.bipush (-5), 2) := by decide +kernel
theorem dX8_rank_22 : decode cX8_rank 22 = .ok (.if_icmp .lt 7, 3) := by decide +kernel
theorem dX8_rank_25 : decode cX8_rank 25 = .ok (.iconst 3, 1) := by decide +kernel
theorem dX8_rank_26 : decode cX8_rank 26 = .ok (.goto 25, 3) := by decide +kernel
theorem dX8_rank_29 : decode cX8_rank 29 = .ok (.iload_n 0, 1) := by decide +kernel
theorem dX8_rank_30 : decode cX8_rank 30 = .ok (.bipush (-7), 2) := by decide +kernel
theorem dX8_rank_32 : decode cX8_rank 32 = .ok (.if_icmp .lt 7, 3) := by decide +kernel
theorem dX8_rank_35 : decode cX8_rank 35 = .ok (.iconst 4, 1) := by decide +kernel
theorem dX8_rank_36 : decode cX8_rank 36 = .ok (.goto 15, 3) := by decide +kernel
theorem dX8_rank_39 : decode cX8_rank 39 = .ok (.iload_n 0, 1) := by decide +kernel
theorem dX8_rank_40 : decode cX8_rank 40 = .ok (.bipush (-9), 2) := by decide +kernel
theorem dX8_rank_42 : decode cX8_rank 42 = .ok (.if_icmp .lt 7, 3) := by decide +kernel
theorem dX8_rank_45 : decode cX8_rank 45 = .ok (.iconst 5, 1) := by decide +kernel
theorem dX8_rank_46 : decode cX8_rank 46 = .ok (.goto 5, 3) := by decide +kernel
theorem dX8_rank_49 : decode cX8_rank 49 = .ok (.bipush 6, 2) := by decide +kernel
theorem dX8_rank_51 : decode cX8_rank 51 = .ok (.ireturn, 1) := by decide +kernel
theorem dX8_settle_0 : decode cX8_settle 0 = .ok (.aload_n 0, 1) := by decide +kernel
theorem dX8_settle_1 : decode cX8_settle 1 = .ok (.getfield 230, 3) := by decide +kernel
theorem dX8_settle_4 : decode cX8_settle 4 = .ok (.ifCond .le 78, 3) := by decide +kernel
theorem dX8_settle_7 : decode cX8_settle 7 = .ok (.aload_n 0, 1) := by decide +kernel
theorem dX8_settle_8 : decode cX8_settle 8 = .ok (.getfield 39, 3) := by decide +kernel
theorem dX8_settle_11 : decode cX8_settle 11 = .ok (.aload_n 0, 1) := by decide +kernel
theorem dX8_settle_12 : decode cX8_settle 12 = .ok (.getfield 230, 3) := by decide +kernel
theorem dX8_settle_15 : decode cX8_settle 15 = .ok (.iconst 1, 1) := by decide +kernel
theorem dX8_settle_16 : decode cX8_settle 16 = .ok (.isub, 1) := by decide +kernel
theorem dX8_settle_17 : decode cX8_settle 17 = .ok (.iaload, 1) := by decide +kernel
theorem dX8_settle_18 : decode cX8_settle 18 = .ok (.bipush (-11), 2) := by decide +kernel
theorem dX8_settle_20 : decode cX8_settle 20 = .ok (.if_icmp .eq 62, 3) := by decide +kernel
theorem dX8_settle_23 : decode cX8_settle 23 = .ok (.aload_n 0, 1) := by decide +kernel
theorem dX8_settle_24 : decode cX8_settle 24 = .ok (.getfield 39, 3) := by decide +kernel
theorem dX8_settle_27 : decode cX8_settle 27 = .ok (.aload_n 0, 1) := by decide +kernel
theorem dX8_settle_28 : decode cX8_settle 28 = .ok (.getfield 230, 3) := by decide +kernel
theorem dX8_settle_31 : decode cX8_settle 31 = .ok (.iconst 1, 1) := by decide +kernel
theorem dX8_settle_32 : decode cX8_settle 32 = .ok (.isub, 1) := by decide +kernel
theorem dX8_settle_33 : decode cX8_settle 33 = .ok (.iaload, 1) := by decide +kernel
theorem dX8_settle_34 : decode cX8_settle 34 = .ok (.invokestatic 233, 3) := by decide +kernel
theorem dX8_settle_37 : decode cX8_settle 37 = .ok (.iload_n 1, 1) := by decide +kernel
theorem dX8_settle_38 : decode cX8_settle 38 = .ok (.if_icmp .lt 44, 3) := by decide +kernel
theorem dX8_settle_41 : decode cX8_settle 41 = .ok (.aload_n 0, 1) := by decide +kernel
theorem dX8_settle_42 : decode cX8_settle 42 = .ok (.dup, 1) := by decide +kernel
theorem dX8_settle_43 : decode cX8_settle 43 = .ok (.getfield 230, 3) := by decide +kernel
theorem dX8_settle_46 : decode cX8_settle 46 = .ok (.iconst 1, 1) := by decide +kernel
theorem dX8_settle_47 : decode cX8_settle 47 = .ok (.isub, 1) := by decide +kernel
theorem dX8_settle_48 : decode cX8_settle 48 = .ok (.putfield 230, 3) := by decide +kernel
theorem dX8_settle_51 : decode cX8_settle 51 = .ok (.aload_n 0, 1) := by decide +kernel
theorem dX8_settle_52 : decode cX8_settle 52 = .ok (.getfield 36, 3) := by decide +kernel
theorem dX8_settle_55 : decode cX8_settle 55 = .ok (.aload_n 0, 1) := by decide +kernel
theorem dX8_settle_56 : decode cX8_settle 56 = .ok (.getfield 236, 3) := by decide +kernel
theorem dX8_settle_59 : decode cX8_settle 59 = .ok (.aload_n 0, 1) := by decide +kernel
theorem dX8_settle_60 : decode cX8_settle 60 = .ok (.getfield 39, 3) := by decide +kernel
theorem dX8_settle_63 : decode cX8_settle 63 = .ok (.aload_n 0, 1) := by decide +kernel
theorem dX8_settle_64 : decode cX8_settle 64 = .ok (.getfield 230, 3) := by decide +kernel
theorem dX8_settle_67 : decode cX8_settle 67 = .ok (.iaload, 1) := by decide +kernel
theorem dX8_settle_68 : decode cX8_settle 68 = .ok (.iastore, 1) := by decide +kernel
theorem dX8_settle_69 : decode cX8_settle 69 = .ok (.aload_n 0, 1) := by decide +kernel
theorem dX8_settle_70 : decode cX8_settle 70 = .ok (.dup, 1) := by decide +kernel
theorem dX8_settle_71 : decode cX8_settle 71 = .ok (.getfield 236, 3) := by decide +kernel
theorem dX8_settle_74 : decode cX8_settle 74 = .ok (.iconst 1, 1) := by decide +kernel
theorem dX8_settle_75 : decode cX8_settle 75 = .ok (.iadd, 1) := by decide +kernel
theorem dX8_settle_76 : decode cX8_settle 76 = .ok (.putfield 236, 3) := by decide +kernel
theorem dX8_settle_79 : decode cX8_settle 79 = .ok (.goto (-79), 3) := by decide +kernel
theorem dX8_settle_82 : decode cX8_settle 82 = .ok (.return_, 1) := by decide +kernel
theorem dX8_signHere_0 : decode cX8_signHere 0 = .ok (.aload_n 0, 1) := by decide +kernel
theorem dX8_signHere_1 : decode cX8_signHere 1 = .ok (.getfield 212, 3) := by decide +kernel
theorem dX8_signHere_4 : decode cX8_signHere 4 = .ok (.iconst 3, 1) := by decide +kernel
theorem dX8_signHere_5 : decode cX8_signHere 5 = .ok (.if_icmp .eq 5, 3) := by decide +kernel
theorem dX8_signHere_8 : decode cX8_signHere 8 = .ok (.iconst 0, 1) := by decide +kernel
theorem dX8_signHere_9 : decode cX8_signHere 9 = .ok (.ireturn, 1) := by decide +kernel
theorem dX8_signHere_10 : decode cX8_signHere 10 = .ok (.aload_n 0, 1) := by decide +kernel
theorem dX8_signHere_11 : decode cX8_signHere 11 = .ok (.getfield 218, 3) := by decide +kernel
theorem dX8_signHere_14 : decode cX8_signHere 14 = .ok (.lookupswitch 108 #[(38, 84), (42, 102), (43, 96), (45, 99), (47, 105), (60, 87), (61, 90), (62, 93), (124, 82)], 82) := by decide +kernel
theorem dX8_signHere_96 : decode cX8_signHere 96 = .ok (.iconst (-1), 1) := by decide +kernel
theorem dX8_signHere_97 : decode cX8_signHere 97 = .ok (.ireturn, 1) := by decide +kernel
theorem dX8_signHere_98 : decode cX8_signHere 98 = .ok (.bipush (-2), 2) := by decide +kernel
theorem dX8_signHere_100 : decode cX8_signHere 100 = .ok (.ireturn, 1) := by decide +kernel
theorem dX8_signHere_101 : decode cX8_signHere 101 = .ok (.bipush (-3), 2) := by decide +kernel
theorem dX8_signHere_103 : decode cX8_signHere 103 = .ok (.ireturn, 1) := by decide +kernel
theorem dX8_signHere_104 : decode cX8_signHere 104 = .ok (.bipush (-4), 2) := by decide +kernel
theorem dX8_signHere_106 : decode cX8_signHere 106 = .ok (.ireturn, 1) := by decide +kernel
theorem dX8_signHere_107 : decode cX8_signHere 107 = .ok (.bipush (-5), 2) := by decide +kernel
theorem dX8_signHere_109 : decode cX8_signHere 109 = .ok (.ireturn, 1) := by decide +kernel
theorem dX8_signHere_110 : decode cX8_signHere 110 = .ok (.bipush (-6), 2) := by decide +kernel
theorem dX8_signHere_112 : decode cX8_signHere 112 = .ok (.ireturn, 1) := by decide +kernel
theorem dX8_signHere_113 : decode cX8_signHere 113 = .ok (.bipush (-7), 2) := by decide +kernel
theorem dX8_signHere_115 : decode cX8_signHere 115 = .ok (.ireturn, 1) := by decide +kernel
theorem dX8_signHere_116 : decode cX8_signHere 116 = .ok (.bipush (-8), 2) := by decide +kernel
theorem dX8_signHere_118 : decode cX8_signHere 118 = .ok (.ireturn, 1) := by decide +kernel
theorem dX8_signHere_119 : decode cX8_signHere 119 = .ok (.bipush (-9), 2) := by decide +kernel
theorem dX8_signHere_121 : decode cX8_signHere 121 = .ok (.ireturn, 1) := by decide +kernel
theorem dX8_signHere_122 : decode cX8_signHere 122 = .ok (.iconst 0, 1) := by decide +kernel
theorem dX8_signHere_123 : decode cX8_signHere 123 = .ok (.ireturn, 1) := by decide +kernel
theorem dX8_takesPart_0 : decode cX8_takesPart 0 = .ok (.aload_n 0, 1) := by decide +kernel
theorem dX8_takesPart_1 : decode cX8_takesPart 1 = .ok (.getfield 212, 3) := by decide +kernel
theorem dX8_takesPart_4 : decode cX8_takesPart 4 = .ok (.iconst 1, 1) := by decide +kernel
theorem dX8_takesPart_5 : decode cX8_takesPart 5 = .ok (.if_icmp .ne 31, 3) := by decide +kernel
theorem dX8_takesPart_8 : decode cX8_takesPart 8 = .ok (.aload_n 0, 1) := by decide +kernel
theorem dX8_takesPart_9 : decode cX8_takesPart 9 = .ok (.getfield 203, 3) := by decide +kernel
theorem dX8_takesPart_12 : decode cX8_takesPart 12 = .ok (.aload_n 0, 1) := by decide +kernel
theorem dX8_takesPart_13 : decode cX8_takesPart 13 = .ok (.getfield 206, 3) := by decide +kernel
theorem dX8_takesPart_16 : decode cX8_takesPart 16 = .ok (.isub, 1) := by decide +kernel
theorem dX8_takesPart_17 : decode cX8_takesPart 17 = .ok (.iconst 1, 1) := by decide +kernel
theorem dX8_takesPart_18 : decode cX8_takesPart 18 = .ok (.if_icmp .ne 18, 3) := by decide +kernel
theorem dX8_takesPart_21 : decode cX8_takesPart 21 = .ok (.aload_n 0, 1) := by decide +kernel
theorem dX8_takesPart_22 : decode cX8_takesPart 22 = .ok (.aload_n 0, 1) := by decide +kernel
theorem dX8_takesPart_23 : decode cX8_takesPart 23 = .ok (.getfield 218, 3) := by decide +kernel
theorem dX8_takesPart_26 : decode cX8_takesPart 26 = .ok (.invokevirtual 239, 3) := by decide +kernel
theorem dX8_takesPart_29 : decode cX8_takesPart 29 = .ok (.ifCond .lt 7, 3) := by decide +kernel
theorem dX8_takesPart_32 : decode cX8_takesPart 32 = .ok (.iconst 1, 1) := by decide +kernel
theorem dX8_takesPart_33 : decode cX8_takesPart 33 = .ok (.goto 4, 3) := by decide +kernel
theorem dX8_takesPart_36 : decode cX8_takesPart 36 = .ok (.iconst 0, 1) := by decide +kernel
theorem dX8_takesPart_37 : decode cX8_takesPart 37 = .ok (.istore_n 1, 1) := by decide +kernel
theorem dX8_takesPart_38 : decode cX8_takesPart 38 = .ok (.aload_n 0, 1) := by decide +kernel
theorem dX8_takesPart_39 : decode cX8_takesPart 39 = .ok (.getfield 212, 3) := by decide +kernel
theorem dX8_takesPart_42 : decode cX8_takesPart 42 = .ok (.iconst 2, 1) := by decide +kernel
theorem dX8_takesPart_43 : decode cX8_takesPart 43 = .ok (.if_icmp .eq 9, 3) := by decide +kernel
theorem dX8_takesPart_46 : decode cX8_takesPart 46 = .ok (.iload_n 1, 1) := by decide +kernel
theorem dX8_takesPart_47 : decode cX8_takesPart 47 = .ok (.ifCond .ne 5, 3) := by decide +kernel
theorem dX8_takesPart_50 : decode cX8_takesPart 50 = .ok (.iconst 0, 1) := by decide +kernel
theorem dX8_takesPart_51 : decode cX8_takesPart 51 = .ok (.ireturn, 1) := by decide +kernel
theorem dX8_takesPart_52 : decode cX8_takesPart 52 = .ok (.aload_n 0, 1) := by decide +kernel
theorem dX8_takesPart_53 : decode cX8_takesPart 53 = .ok (.getfield 36, 3) := by decide +kernel
theorem dX8_takesPart_56 : decode cX8_takesPart 56 = .ok (.aload_n 0, 1) := by decide +kernel
theorem dX8_takesPart_57 : decode cX8_takesPart 57 = .ok (.getfield 236, 3) := by decide +kernel
theorem dX8_takesPart_60 : decode cX8_takesPart 60 = .ok (.aload_n 0, 1) := by decide +kernel
theorem dX8_takesPart_61 : decode cX8_takesPart 61 = .ok (.getfield 212, 3) := by decide +kernel
theorem dX8_takesPart_64 : decode cX8_takesPart 64 = .ok (.iconst 2, 1) := by decide +kernel
theorem dX8_takesPart_65 : decode cX8_takesPart 65 = .ok (.if_icmp .ne 10, 3) := by decide +kernel
theorem dX8_takesPart_68 : decode cX8_takesPart 68 = .ok (.aload_n 0, 1) := by decide +kernel
theorem dX8_takesPart_69 : decode cX8_takesPart 69 = .ok (.getfield 218, 3) := by decide +kernel
theorem dX8_takesPart_72 : decode cX8_takesPart 72 = .ok (.goto 15, 3) := by decide +kernel
theorem dX8_takesPart_75 : decode cX8_takesPart 75 = .ok (.sipush 10000, 3) := by decide +kernel
theorem dX8_takesPart_78 : decode cX8_takesPart 78 = .ok (.aload_n 0, 1) := by decide +kernel
theorem dX8_takesPart_79 : decode cX8_takesPart 79 = .ok (.aload_n 0, 1) := by decide +kernel
theorem dX8_takesPart_80 : decode cX8_takesPart 80 = .ok (.getfield 218, 3) := by decide +kernel
theorem dX8_takesPart_83 : decode cX8_takesPart 83 = .ok (.invokevirtual 239, 3) := by decide +kernel
theorem dX8_takesPart_86 : decode cX8_takesPart 86 = .ok (.iadd, 1) := by decide +kernel
theorem dX8_takesPart_87 : decode cX8_takesPart 87 = .ok (.iastore, 1) := by decide +kernel
theorem dX8_takesPart_88 : decode cX8_takesPart 88 = .ok (.aload_n 0, 1) := by decide +kernel
theorem dX8_takesPart_89 : decode cX8_takesPart 89 = .ok (.dup, 1) := by decide +kernel
theorem dX8_takesPart_90 : decode cX8_takesPart 90 = .ok (.getfield 236, 3) := by decide +kernel
theorem dX8_takesPart_93 : decode cX8_takesPart 93 = .ok (.iconst 1, 1) := by decide +kernel
theorem dX8_takesPart_94 : decode cX8_takesPart 94 = .ok (.iadd, 1) := by decide +kernel
theorem dX8_takesPart_95 : decode cX8_takesPart 95 = .ok (.putfield 236, 3) := by decide +kernel
theorem dX8_takesPart_98 : decode cX8_takesPart 98 = .ok (.aload_n 0, 1) := by decide +kernel
theorem dX8_takesPart_99 : decode cX8_takesPart 99 = .ok (.dup, 1) := by decide +kernel
theorem dX8_takesPart_100 : decode cX8_takesPart 100 = .ok (.getfield 242, 3) := by decide +kernel
theorem dX8_takesPart_103 : decode cX8_takesPart 103 = .ok (.iconst 1, 1) := by decide +kernel
theorem dX8_takesPart_104 : decode cX8_takesPart 104 = .ok (.iadd, 1) := by decide +kernel
theorem dX8_takesPart_105 : decode cX8_takesPart 105 = .ok (.putfield 242, 3) := by decide +kernel
theorem dX8_takesPart_108 : decode cX8_takesPart 108 = .ok (.aload_n 0, 1) := by decide +kernel
theorem dX8_takesPart_109 : decode cX8_takesPart 109 = .ok (.bipush 6, 2) := by decide +kernel
theorem dX8_takesPart_111 : decode cX8_takesPart 111 = .ok (.invokevirtual 245, 3) := by decide +kernel
theorem dX8_takesPart_114 : decode cX8_takesPart 114 = .ok (.aload_n 0, 1) := by decide +kernel
theorem dX8_takesPart_115 : decode cX8_takesPart 115 = .ok (.invokevirtual 227, 3) := by decide +kernel
theorem dX8_takesPart_118 : decode cX8_takesPart 118 = .ok (.iconst 1, 1) := by decide +kernel
theorem dX8_takesPart_119 : decode cX8_takesPart 119 = .ok (.ireturn, 1) := by decide +kernel
theorem dX8_takesE_0 : decode cX8_takesE 0 = .ok (.iconst 0, 1) := by decide +kernel
theorem dX8_takesE_1 : decode cX8_takesE 1 = .ok (.istore_n 1, 1) := by decide +kernel
theorem dX8_takesE_2 : decode cX8_takesE 2 = .ok (.iconst 0, 1) := by decide +kernel
theorem dX8_takesE_3 : decode cX8_takesE 3 = .ok (.istore_n 2, 1) := by decide +kernel
theorem dX8_takesE_4 : decode cX8_takesE 4 = .ok (.iconst 1, 1) := by decide +kernel
theorem dX8_takesE_5 : decode cX8_takesE 5 = .ok (.istore_n 3, 1) := by decide +kernel
theorem dX8_takesE_6 : decode cX8_takesE 6 = .ok (.aload_n 0, 1) := by decide +kernel
theorem dX8_takesE_7 : decode cX8_takesE 7 = .ok (.iconst 0, 1) := by decide +kernel
theorem dX8_takesE_8 : decode cX8_takesE 8 = .ok (.putfield 236, 3) := by decide +kernel
theorem dX8_takesE_11 : decode cX8_takesE 11 = .ok (.aload_n 0, 1) := by decide +kernel
theorem dX8_takesE_12 : decode cX8_takesE 12 = .ok (.iconst 0, 1) := by decide +kernel
theorem dX8_takesE_13 : decode cX8_takesE 13 = .ok (.putfield 242, 3) := by decide +kernel
theorem dX8_takesE_16 : decode cX8_takesE 16 = .ok (.aload_n 0, 1) := by decide +kernel
theorem dX8_takesE_17 : decode cX8_takesE 17 = .ok (.iconst 0, 1) := by decide +kernel
theorem dX8_takesE_18 : decode cX8_takesE 18 = .ok (.putfield 230, 3) := by decide +kernel
theorem dX8_takesE_21 : decode cX8_takesE 21 = .ok (.aload_n 0, 1) := by decide +kernel
theorem dX8_takesE_22 : decode cX8_takesE 22 = .ok (.getfield 42, 3) := by decide +kernel
theorem dX8_takesE_25 : decode cX8_takesE 25 = .ok (.iconst 0, 1) := by decide +kernel
theorem dX8_takesE_26 : decode cX8_takesE 26 = .ok (.iconst 0, 1) := by decide +kernel
theorem dX8_takesE_27 : decode cX8_takesE 27 = .ok (.bastore, 1) := by decide +kernel
theorem dX8_takesE_28 : decode cX8_takesE 28 = .ok (.iload_n 3, 1) := by decide +kernel
theorem dX8_takesE_29 : decode cX8_takesE 29 = .ok (.ifCond .ne 10, 3) := by decide +kernel
theorem dX8_takesE_32 : decode cX8_takesE 32 = .ok (.aload_n 0, 1) := by decide +kernel
theorem dX8_takesE_33 : decode cX8_takesE 33 = .ok (.getfield 212, 3) := by decide +kernel
theorem dX8_takesE_36 : decode cX8_takesE 36 = .ok (.ifCond .eq 309, 3) := by decide +kernel
theorem dX8_takesE_39 : decode cX8_takesE 39 = .ok (.iload_n 3, 1) := by decide +kernel
theorem dX8_takesE_40 : decode cX8_takesE 40 = .ok (.ifCond .eq 140, 3) := by decide +kernel
theorem dX8_takesE_43 : decode cX8_takesE 43 = .ok (.aload_n 0, 1) := by decide +kernel
theorem dX8_takesE_44 : decode cX8_takesE 44 = .ok (.getfield 212, 3) := by decide +kernel
theorem dX8_takesE_47 : decode cX8_takesE 47 = .ok (.iconst 3, 1) := by decide +kernel
theorem dX8_takesE_48 : decode cX8_takesE 48 = .ok (.if_icmp .ne 49, 3) := by decide +kernel
theorem dX8_takesE_51 : decode cX8_takesE 51 = .ok (.aload_n 0, 1) := by decide +kernel
theorem dX8_takesE_52 : decode cX8_takesE 52 = .ok (.getfield 218, 3) := by decide +kernel
theorem dX8_takesE_55 : decode cX8_takesE 55 = .ok (.bipush 33, 2) := by decide +kernel
theorem dX8_takesE_57 : decode cX8_takesE 57 = .ok (.if_icmp .ne 40, 3) := by decide +kernel
theorem dX8_takesE_60 : decode cX8_takesE 60 = .ok (.iload_n 2, 1) := by decide +kernel
theorem dX8_takesE_61 : decode cX8_takesE 61 = .ok (.bipush 8, 2) := by decide +kernel
theorem dX8_takesE_63 : decode cX8_takesE 63 = .ok (.if_icmp .ge 34, 3) := by decide +kernel
theorem dX8_takesE_66 : decode cX8_takesE 66 = .ok (.aload_n 0, 1) := by decide +kernel
theorem dX8_takesE_67 : decode cX8_takesE 67 = .ok (.getfield 39, 3) := by decide +kernel
theorem dX8_takesE_70 : decode cX8_takesE 70 = .ok (.aload_n 0, 1) := by decide +kernel
theorem dX8_takesE_71 : decode cX8_takesE 71 = .ok (.getfield 230, 3) := by decide +kernel
theorem dX8_takesE_74 : decode cX8_takesE 74 = .ok (.bipush (-10), 2) := by decide +kernel
theorem dX8_takesE_76 : decode cX8_takesE 76 = .ok (.iastore, 1) := by decide +kernel
theorem dX8_takesE_77 : decode cX8_takesE 77 = .ok (.aload_n 0, 1) := by decide +kernel
theorem dX8_takesE_78 : decode cX8_takesE 78 = .ok (.dup, 1) := by decide +kernel
theorem dX8_takesE_79 : decode cX8_takesE 79 = .ok (.getfield 230, 3) := by decide +kernel
theorem dX8_takesE_82 : decode cX8_takesE 82 = .ok (.iconst 1, 1) := by decide +kernel
theorem dX8_takesE_83 : decode cX8_takesE 83 = .ok (.iadd, 1) := by decide +kernel
theorem dX8_takesE_84 : decode cX8_takesE 84 = .ok (.putfield 230, 3) := by decide +kernel
theorem dX8_takesE_87 : decode cX8_takesE 87 = .ok (.iinc 2 1, 3) := by decide +kernel
theorem dX8_takesE_90 : decode cX8_takesE 90 = .ok (.aload_n 0, 1) := by decide +kernel
theorem dX8_takesE_91 : decode cX8_takesE 91 = .ok (.invokevirtual 227, 3) := by decide +kernel
theorem dX8_takesE_94 : decode cX8_takesE 94 = .ok (.goto 78, 3) := by decide +kernel
theorem dX8_takesE_97 : decode cX8_takesE 97 = .ok (.aload_n 0, 1) := by decide +kernel
theorem dX8_takesE_98 : decode cX8_takesE 98 = .ok (.getfield 212, 3) := by decide +kernel
theorem dX8_takesE_101 : decode cX8_takesE 101 = .ok (.iconst 3, 1) := by decide +kernel
theorem dX8_takesE_102 : decode cX8_takesE 102 = .ok (.if_icmp .ne 56, 3) := by decide +kernel
theorem dX8_takesE_105 : decode cX8_takesE 105 = .ok (.aload_n 0, 1) := by decide +kernel
theorem dX8_takesE_106 : decode cX8_takesE 106 = .ok (.getfield 218, 3) := by decide +kernel
theorem dX8_takesE_109 : decode cX8_takesE 109 = .ok (.bipush 40, 2) := by decide +kernel
theorem dX8_takesE_111 : decode cX8_takesE 111 = .ok (.if_icmp .ne 47, 3) := by decide +kernel
theorem dX8_takesE_114 : decode cX8_takesE 114 = .ok (.iload_n 1, 1) := by decide +kernel
theorem dX8_takesE_115 : decode cX8_takesE 115 = .ok (.bipush 8, 2) := by decide +kernel
theorem dX8_takesE_117 : decode cX8_takesE 117 = .ok (.if_icmp .ge 41, 3) := by decide +kernel
theorem dX8_takesE_120 : decode cX8_takesE 120 = .ok (.aload_n 0, 1) := by decide +kernel
theorem dX8_takesE_121 : decode cX8_takesE 121 = .ok (.getfield 39, 3) := by decide +kernel
theorem dX8_takesE_124 : decode cX8_takesE 124 = .ok (.aload_n 0, 1) := by decide +kernel
theorem dX8_takesE_125 : decode cX8_takesE 125 = .ok (.getfield 230, 3) := by decide +kernel
theorem dX8_takesE_128 : decode cX8_takesE 128 = .ok (.bipush (-11), 2) := by decide +kernel
theorem dX8_takesE_130 : decode cX8_takesE 130 = .ok (.iastore, 1) := by decide +kernel
theorem dX8_takesE_131 : decode cX8_takesE 131 = .ok (.aload_n 0, 1) := by decide +kernel
theorem dX8_takesE_132 : decode cX8_takesE 132 = .ok (.dup, 1) := by decide +kernel
theorem dX8_takesE_133 : decode cX8_takesE 133 = .ok (.getfield 230, 3) := by decide +kernel
theorem dX8_takesE_136 : decode cX8_takesE 136 = .ok (.iconst 1, 1) := by decide +kernel
theorem dX8_takesE_137 : decode cX8_takesE 137 = .ok (.iadd, 1) := by decide +kernel
theorem dX8_takesE_138 : decode cX8_takesE 138 = .ok (.putfield 230, 3) := by decide +kernel
theorem dX8_takesE_141 : decode cX8_takesE 141 = .ok (.iinc 1 1, 3) := by decide +kernel
theorem dX8_takesE_144 : decode cX8_takesE 144 = .ok (.aload_n 0, 1) := by decide +kernel
theorem dX8_takesE_145 : decode cX8_takesE 145 = .ok (.getfield 42, 3) := by decide +kernel
theorem dX8_takesE_148 : decode cX8_takesE 148 = .ok (.iload_n 1, 1) := by decide +kernel
theorem dX8_takesE_149 : decode cX8_takesE 149 = .ok (.iconst 0, 1) := by decide +kernel
theorem dX8_takesE_150 : decode cX8_takesE 150 = .ok (.bastore, 1) := by decide +kernel
theorem dX8_takesE_151 : decode cX8_takesE 151 = .ok (.aload_n 0, 1) := by decide +kernel
theorem dX8_takesE_152 : decode cX8_takesE 152 = .ok (.invokevirtual 227, 3) := by decide +kernel
theorem dX8_takesE_155 : decode cX8_takesE 155 = .ok (.goto 17, 3) := by decide +kernel
theorem dX8_takesE_158 : decode cX8_takesE 158 = .ok (.aload_n 0, 1) := by decide +kernel
theorem dX8_takesE_159 : decode cX8_takesE 159 = .ok (.invokevirtual 249, 3) := by decide +kernel
theorem dX8_takesE_162 : decode cX8_takesE 162 = .ok (.ifCond .eq 8, 3) := by decide +kernel
theorem dX8_takesE_165 : decode cX8_takesE 165 = .ok (.iconst 0, 1) := by decide +kernel
theorem dX8_takesE_166 : decode cX8_takesE 166 = .ok (.istore_n 3, 1) := by decide +kernel
theorem dX8_takesE_167 : decode cX8_takesE 167 = .ok (.goto 5, 3) := by decide +kernel
theorem dX8_takesE_170 : decode cX8_takesE 170 = .ok (.iconst 0, 1) := by decide +kernel
theorem dX8_takesE_171 : decode cX8_takesE 171 = .ok (.ireturn, 1) := by decide +kernel
theorem dX8_takesE_172 : decode cX8_takesE 172 = .ok (.aload_n 0, 1) := by decide +kernel
theorem dX8_takesE_173 : decode cX8_takesE 173 = .ok (.invokevirtual 253, 3) := by decide +kernel
theorem dX8_takesE_176 : decode cX8_takesE 176 = .ok (.istore_n 2, 1) := by decide +kernel
theorem dX8_takesE_177 : decode cX8_takesE 177 = .ok (.goto (-149), 3) := by decide +kernel
theorem dX8_takesE_180 : decode cX8_takesE 180 = .ok (.aload_n 0, 1) := by decide +kernel
theorem dX8_takesE_181 : decode cX8_takesE 181 = .ok (.getfield 212, 3) := by decide +kernel
theorem dX8_takesE_184 : decode cX8_takesE 184 = .ok (.iconst 3, 1) := by decide +kernel
theorem dX8_takesE_185 : decode cX8_takesE 185 = .ok (.if_icmp .ne 52, 3) := by decide +kernel
theorem dX8_takesE_188 : decode cX8_takesE 188 = .ok (.aload_n 0, 1) := by decide +kernel
theorem dX8_takesE_189 : decode cX8_takesE 189 = .ok (.getfield 218, 3) := by decide +kernel
theorem dX8_takesE_192 : decode cX8_takesE 192 = .ok (.bipush 41, 2) := by decide +kernel
theorem dX8_takesE_194 : decode cX8_takesE 194 = .ok (.if_icmp .ne 43, 3) := by decide +kernel
theorem dX8_takesE_197 : decode cX8_takesE 197 = .ok (.iload_n 1, 1) := by decide +kernel
theorem dX8_takesE_198 : decode cX8_takesE 198 = .ok (.ifCond .le 39, 3) := by decide +kernel
theorem dX8_takesE_201 : decode cX8_takesE 201 = .ok (.aload_n 0, 1) := by decide +kernel
theorem dX8_takesE_202 : decode cX8_takesE 202 = .ok (.iconst 0, 1) := by decide +kernel
theorem dX8_takesE_203 : decode cX8_takesE 203 = .ok (.invokevirtual 245, 3) := by decide +kernel
theorem dX8_takesE_206 : decode cX8_takesE 206 = .ok (.aload_n 0, 1) := by decide +kernel
theorem dX8_takesE_207 : decode cX8_takesE 207 = .ok (.dup, 1) := by decide +kernel
theorem dX8_takesE_208 : decode cX8_takesE 208 = .ok (.getfield 230, 3) := by decide +kernel
theorem dX8_takesE_211 : decode cX8_takesE 211 = .ok (.iconst 1, 1) := by decide +kernel
theorem dX8_takesE_212 : decode cX8_takesE 212 = .ok (.isub, 1) := by decide +kernel
theorem dX8_takesE_213 : decode cX8_takesE 213 = .ok (.putfield 230, 3) := by decide +kernel
theorem dX8_takesE_216 : decode cX8_takesE 216 = .ok (.iinc 1 (-1), 3) := by decide +kernel
theorem dX8_takesE_219 : decode cX8_takesE 219 = .ok (.aload_n 0, 1) := by decide +kernel
theorem dX8_takesE_220 : decode cX8_takesE 220 = .ok (.bipush 6, 2) := by decide +kernel
theorem dX8_takesE_222 : decode cX8_takesE 222 = .ok (.invokevirtual 245, 3) := by decide +kernel
theorem dX8_takesE_225 : decode cX8_takesE 225 = .ok (.aload_n 0, 1) := by decide +kernel
theorem dX8_takesE_226 : decode cX8_takesE 226 = .ok (.invokevirtual 253, 3) := by decide +kernel
theorem dX8_takesE_229 : decode cX8_takesE 229 = .ok (.istore_n 2, 1) := by decide +kernel
theorem dX8_takesE_230 : decode cX8_takesE 230 = .ok (.aload_n 0, 1) := by decide +kernel
theorem dX8_takesE_231 : decode cX8_takesE 231 = .ok (.invokevirtual 227, 3) := by decide +kernel
theorem dX8_takesE_234 : decode cX8_takesE 234 = .ok (.goto (-206), 3) := by decide +kernel
theorem dX8_takesE_237 : decode cX8_takesE 237 = .ok (.aload_n 0, 1) := by decide +kernel
theorem dX8_takesE_238 : decode cX8_takesE 238 = .ok (.invokevirtual 256, 3) := by decide +kernel
theorem dX8_takesE_241 : decode cX8_takesE 241 = .ok (.istore 4, 2) := by decide +kernel
theorem dX8_takesE_243 : decode cX8_takesE 243 = .ok (.iload 4, 2) := by decide +kernel
theorem dX8_takesE_245 : decode cX8_takesE 245 = .ok (.ifCond .eq 21, 3) := by decide +kernel
theorem dX8_takesE_248 : decode cX8_takesE 248 = .ok (.iload 4, 2) := by decide +kernel
theorem dX8_takesE_250 : decode cX8_takesE 250 = .ok (.invokestatic 233, 3) := by decide +kernel
theorem dX8_takesE_253 : decode cX8_takesE 253 = .ok (.iconst 3, 1) := by decide +kernel
theorem dX8_takesE_254 : decode cX8_takesE 254 = .ok (.if_icmp .ne 14, 3) := by decide +kernel
theorem dX8_takesE_257 : decode cX8_takesE 257 = .ok (.aload_n 0, 1) := by decide +kernel
theorem dX8_takesE_258 : decode cX8_takesE 258 = .ok (.getfield 42, 3) := by decide +kernel
theorem dX8_takesE_261 : decode cX8_takesE 261 = .ok (.iload_n 1, 1) := by decide +kernel
theorem dX8_takesE_262 : decode cX8_takesE 262 = .ok (.baload, 1) := by decide +kernel
theorem dX8_takesE_263 : decode cX8_takesE 263 = .ok (.ifCond .eq 5, 3) := by decide +kernel
theorem dX8_takesE_266 : decode cX8_takesE 266 = .ok (.iconst 0, 1) := by decide +kernel
theorem dX8_takesE_267 : decode cX8_takesE 267 = .ok (.ireturn, 1) := by decide +kernel
theorem dX8_takesE_268 : decode cX8_takesE 268 = .ok (.aload_n 0, 1) := by decide +kernel
theorem dX8_takesE_269 : decode cX8_takesE 269 = .ok (.getfield 42, 3) := by decide +kernel
theorem dX8_takesE_272 : decode cX8_takesE 272 = .ok (.iload_n 1, 1) := by decide +kernel
theorem dX8_takesE_273 : decode cX8_takesE 273 = .ok (.iload 4, 2) := by decide +kernel
theorem dX8_takesE_275 : decode cX8_takesE 275 = .ok (.invokestatic 233, 3) := by decide +kernel
theorem dX8_takesE_278 : decode cX8_takesE 278 = .ok (.iconst 3, 1) := by decide +kernel
theorem dX8_takesE_279 : decode cX8_takesE 279 = .ok (.if_icmp .eq 21, 3) := by decide +kernel
theorem dX8_takesE_282 : decode cX8_takesE 282 = .ok (.iload 4, 2) := by decide +kernel
theorem dX8_takesE_284 : decode cX8_takesE 284 = .ok (.invokestatic 233, 3) := by decide +kernel
theorem dX8_takesE_287 : decode cX8_takesE 287 = .ok (.iconst 3, 1) := by decide +kernel
theorem dX8_takesE_288 : decode cX8_takesE 288 = .ok (.if_icmp .le 16, 3) := by decide +kernel
theorem dX8_takesE_291 : decode cX8_takesE 291 = .ok (.aload_n 0, 1) := by decide +kernel
theorem dX8_takesE_292 : decode cX8_takesE 292 = .ok (.getfield 42, 3) := by decide +kernel
theorem dX8_takesE_295 : decode cX8_takesE 295 = .ok (.iload_n 1, 1) := by decide +kernel
theorem dX8_takesE_296 : decode cX8_takesE 296 = .ok (.baload, 1) := by decide +kernel
theorem dX8_takesE_297 : decode cX8_takesE 297 = .ok (.ifCond .eq 7, 3) := by decide +kernel
theorem dX8_takesE_300 : decode cX8_takesE 300 = .ok (.iconst 1, 1) := by decide +kernel
theorem dX8_takesE_301 : decode cX8_takesE 301 = .ok (.goto 4, 3) := by decide +kernel
theorem dX8_takesE_304 : decode cX8_takesE 304 = .ok (.iconst 0, 1) := by decide +kernel
theorem dX8_takesE_305 : decode cX8_takesE 305 = .ok (.bastore, 1) := by decide +kernel
theorem dX8_takesE_306 : decode cX8_takesE 306 = .ok (.aload_n 0, 1) := by decide +kernel
theorem dX8_takesE_307 : decode cX8_takesE 307 = .ok (.iload 4, 2) := by decide +kernel
theorem dX8_takesE_309 : decode cX8_takesE 309 = .ok (.invokestatic 233, 3) := by decide +kernel
theorem dX8_takesE_312 : decode cX8_takesE 312 = .ok (.invokevirtual 245, 3) := by decide +kernel
theorem dX8_takesE_315 : decode cX8_takesE 315 = .ok (.aload_n 0, 1) := by decide +kernel
theorem dX8_takesE_316 : decode cX8_takesE 316 = .ok (.getfield 39, 3) := by decide +kernel
theorem dX8_takesE_319 : decode cX8_takesE 319 = .ok (.aload_n 0, 1) := by decide +kernel
theorem dX8_takesE_320 : decode cX8_takesE 320 = .ok (.getfield 230, 3) := by decide +kernel
theorem dX8_takesE_323 : decode cX8_takesE 323 = .ok (.iload 4, 2) := by decide +kernel
theorem dX8_takesE_325 : decode cX8_takesE 325 = .ok (.iastore, 1) := by decide +kernel
theorem dX8_takesE_326 : decode cX8_takesE 326 = .ok (.aload_n 0, 1) := by decide +kernel
theorem dX8_takesE_327 : decode cX8_takesE 327 = .ok (.dup, 1) := by decide +kernel
theorem dX8_takesE_328 : decode cX8_takesE 328 = .ok (.getfield 230, 3) := by decide +kernel
theorem dX8_takesE_331 : decode cX8_takesE 331 = .ok (.iconst 1, 1) := by decide +kernel
theorem dX8_takesE_332 : decode cX8_takesE 332 = .ok (.iadd, 1) := by decide +kernel
theorem dX8_takesE_333 : decode cX8_takesE 333 = .ok (.putfield 230, 3) := by decide +kernel
theorem dX8_takesE_336 : decode cX8_takesE 336 = .ok (.iconst 1, 1) := by decide +kernel
theorem dX8_takesE_337 : decode cX8_takesE 337 = .ok (.istore_n 3, 1) := by decide +kernel
theorem dX8_takesE_338 : decode cX8_takesE 338 = .ok (.aload_n 0, 1) := by decide +kernel
theorem dX8_takesE_339 : decode cX8_takesE 339 = .ok (.invokevirtual 227, 3) := by decide +kernel
theorem dX8_takesE_342 : decode cX8_takesE 342 = .ok (.goto (-314), 3) := by decide +kernel
theorem dX8_takesE_345 : decode cX8_takesE 345 = .ok (.aload_n 0, 1) := by decide +kernel
theorem dX8_takesE_346 : decode cX8_takesE 346 = .ok (.iconst 0, 1) := by decide +kernel
theorem dX8_takesE_347 : decode cX8_takesE 347 = .ok (.invokevirtual 245, 3) := by decide +kernel
theorem dX8_takesE_350 : decode cX8_takesE 350 = .ok (.iload_n 1, 1) := by decide +kernel
theorem dX8_takesE_351 : decode cX8_takesE 351 = .ok (.ifCond .ne 7, 3) := by decide +kernel
theorem dX8_takesE_354 : decode cX8_takesE 354 = .ok (.iconst 1, 1) := by decide +kernel
theorem dX8_takesE_355 : decode cX8_takesE 355 = .ok (.goto 4, 3) := by decide +kernel
theorem dX8_takesE_358 : decode cX8_takesE 358 = .ok (.iconst 0, 1) := by decide +kernel
theorem dX8_takesE_359 : decode cX8_takesE 359 = .ok (.ireturn, 1) := by decide +kernel
theorem dX8_notsOpen_0 : decode cX8_notsOpen 0 = .ok (.iconst 0, 1) := by decide +kernel
theorem dX8_notsOpen_1 : decode cX8_notsOpen 1 = .ok (.istore_n 1, 1) := by decide +kernel
theorem dX8_notsOpen_2 : decode cX8_notsOpen 2 = .ok (.iconst 0, 1) := by decide +kernel
theorem dX8_notsOpen_3 : decode cX8_notsOpen 3 = .ok (.istore_n 2, 1) := by decide +kernel
theorem dX8_notsOpen_4 : decode cX8_notsOpen 4 = .ok (.iload_n 2, 1) := by decide +kernel
theorem dX8_notsOpen_5 : decode cX8_notsOpen 5 = .ok (.aload_n 0, 1) := by decide +kernel
theorem dX8_notsOpen_6 : decode cX8_notsOpen 6 = .ok (.getfield 230, 3) := by decide +kernel
theorem dX8_notsOpen_9 : decode cX8_notsOpen 9 = .ok (.if_icmp .ge 28, 3) := by decide +kernel
theorem dX8_notsOpen_12 : decode cX8_notsOpen 12 = .ok (.iload_n 1, 1) := by decide +kernel
theorem dX8_notsOpen_13 : decode cX8_notsOpen 13 = .ok (.aload_n 0, 1) := by decide +kernel
theorem dX8_notsOpen_14 : decode cX8_notsOpen 14 = .ok (.getfield 39, 3) := by decide +kernel
theorem dX8_notsOpen_17 : decode cX8_notsOpen 17 = .ok (.iload_n 2, 1) := by decide +kernel
theorem dX8_notsOpen_18 : decode cX8_notsOpen 18 = .ok (.iaload, 1) := by decide +kernel
theorem dX8_notsOpen_19 : decode cX8_notsOpen 19 = .ok (.bipush (-10), 2) := by decide +kernel
theorem dX8_notsOpen_21 : decode cX8_notsOpen 21 = .ok (.if_icmp .ne 7, 3) := by decide +kernel
theorem dX8_notsOpen_24 : decode cX8_notsOpen 24 = .ok (.iconst 1, 1) := by decide +kernel
theorem dX8_notsOpen_25 : decode cX8_notsOpen 25 = .ok (.goto 4, 3) := by decide +kernel
theorem dX8_notsOpen_28 : decode cX8_notsOpen 28 = .ok (.iconst 0, 1) := by decide +kernel
theorem dX8_notsOpen_29 : decode cX8_notsOpen 29 = .ok (.iadd, 1) := by decide +kernel
theorem dX8_notsOpen_30 : decode cX8_notsOpen 30 = .ok (.istore_n 1, 1) := by decide +kernel
theorem dX8_notsOpen_31 : decode cX8_notsOpen 31 = .ok (.iinc 2 1, 3) := by decide +kernel
theorem dX8_notsOpen_34 : decode cX8_notsOpen 34 = .ok (.goto (-30), 3) := by decide +kernel
theorem dX8_notsOpen_37 : decode cX8_notsOpen 37 = .ok (.iload_n 1, 1) := by decide +kernel
theorem dX8_notsOpen_38 : decode cX8_notsOpen 38 = .ok (.ireturn, 1) := by decide +kernel
theorem dX8_text_0 : decode cX8_text 0 = .ok (.aload_n 0, 1) := by decide +kernel
theorem dX8_text_1 : decode cX8_text 1 = .ok (.iconst 0, 1) := by decide +kernel
theorem dX8_text_2 : decode cX8_text 2 = .ok (.putfield 203, 3) := by decide +kernel
theorem dX8_text_5 : decode cX8_text 5 = .ok (.aload_n 0, 1) := by decide +kernel
theorem dX8_text_6 : decode cX8_text 6 = .ok (.iconst (-1), 1) := by decide +kernel
theorem dX8_text_7 : decode cX8_text 7 = .ok (.putfield 209, 3) := by decide +kernel
theorem dX8_text_10 : decode cX8_text 10 = .ok (.aload_n 0, 1) := by decide +kernel
theorem dX8_text_11 : decode cX8_text 11 = .ok (.invokevirtual 227, 3) := by decide +kernel
theorem dX8_text_14 : decode cX8_text 14 = .ok (.aload_n 0, 1) := by decide +kernel
theorem dX8_text_15 : decode cX8_text 15 = .ok (.invokevirtual 259, 3) := by decide +kernel
theorem dX8_text_18 : decode cX8_text 18 = .ok (.ifCond .eq 14, 3) := by decide +kernel
theorem dX8_text_21 : decode cX8_text 21 = .ok (.aload_n 0, 1) := by decide +kernel
theorem dX8_text_22 : decode cX8_text 22 = .ok (.invokevirtual 262, 3) := by decide +kernel
theorem dX8_text_25 : decode cX8_text 25 = .ok (.ifCond .eq 7, 3) := by decide +kernel
theorem dX8_text_28 : decode cX8_text 28 = .ok (.iconst 1, 1) := by decide +kernel
theorem dX8_text_29 : decode cX8_text 29 = .ok (.goto 4, 3) := by decide +kernel
theorem dX8_text_32 : decode cX8_text 32 = .ok (.iconst 0, 1) := by decide +kernel
theorem dX8_text_33 : decode cX8_text 33 = .ok (.istore_n 1, 1) := by decide +kernel
theorem dX8_text_34 : decode cX8_text 34 = .ok (.aload_n 0, 1) := by decide +kernel
theorem dX8_text_35 : decode cX8_text 35 = .ok (.iconst 0, 1) := by decide +kernel
theorem dX8_text_36 : decode cX8_text 36 = .ok (.putfield 200, 3) := by decide +kernel
theorem dX8_text_39 : decode cX8_text 39 = .ok (.iload_n 1, 1) := by decide +kernel
theorem dX8_text_40 : decode cX8_text 40 = .ok (.ifCond .ne 11, 3) := by decide +kernel
theorem dX8_text_43 : decode cX8_text 43 = .ok (.bipush (-100), 2) := by decide +kernel
theorem dX8_text_45 : decode cX8_text 45 = .ok (.aload_n 0, 1) := by decide +kernel
theorem dX8_text_46 : decode cX8_text 46 = .ok (.getfield 206, 3) := by decide +kernel
theorem dX8_text_49 : decode cX8_text 49 = .ok (.isub, 1) := by decide +kernel
theorem dX8_text_50 : decode cX8_text 50 = .ok (.ireturn, 1) := by decide +kernel
theorem dX8_text_51 : decode cX8_text 51 = .ok (.aload_n 0, 1) := by decide +kernel
theorem dX8_text_52 : decode cX8_text 52 = .ok (.getfield 9, 3) := by decide +kernel
theorem dX8_text_55 : decode cX8_text 55 = .ok (.bipush 7, 2) := by decide +kernel
theorem dX8_text_57 : decode cX8_text 57 = .ok (.iaload, 1) := by decide +kernel
theorem dX8_text_58 : decode cX8_text 58 = .ok (.bipush 14, 2) := by decide +kernel
theorem dX8_text_60 : decode cX8_text 60 = .ok (.if_icmp .ne 6, 3) := by decide +kernel
theorem dX8_text_63 : decode cX8_text 63 = .ok (.ldc 89, 2) := by decide +kernel
theorem dX8_text_65 : decode cX8_text 65 = .ok (.ireturn, 1) := by decide +kernel
theorem dX8_text_66 : decode cX8_text 66 = .ok (.aload_n 0, 1) := by decide +kernel
theorem dX8_text_67 : decode cX8_text 67 = .ok (.getfield 9, 3) := by decide +kernel
theorem dX8_text_70 : decode cX8_text 70 = .ok (.bipush 7, 2) := by decide +kernel
theorem dX8_text_72 : decode cX8_text 72 = .ok (.iaload, 1) := by decide +kernel
theorem dX8_text_73 : decode cX8_text 73 = .ok (.istore_n 2, 1) := by decide +kernel
theorem dX8_text_74 : decode cX8_text 74 = .ok (.aload_n 0, 1) := by decide +kernel
theorem dX8_text_75 : decode cX8_text 75 = .ok (.getfield 9, 3) := by decide +kernel
theorem dX8_text_78 : decode cX8_text 78 = .ok (.bipush 66, 2) := by decide +kernel
theorem dX8_text_80 : decode cX8_text 80 = .ok (.iconst 2, 1) := by decide +kernel
theorem dX8_text_81 : decode cX8_text 81 = .ok (.iload_n 2, 1) := by decide +kernel
theorem dX8_text_82 : decode cX8_text 82 = .ok (.imul, 1) := by decide +kernel
theorem dX8_text_83 : decode cX8_text 83 = .ok (.iadd, 1) := by decide +kernel
theorem dX8_text_84 : decode cX8_text 84 = .ok (.sipush 1000, 3) := by decide +kernel
theorem dX8_text_87 : decode cX8_text 87 = .ok (.aload_n 0, 1) := by decide +kernel
theorem dX8_text_88 : decode cX8_text 88 = .ok (.getfield 224, 3) := by decide +kernel
theorem dX8_text_91 : decode cX8_text 91 = .ok (.imul, 1) := by decide +kernel
theorem dX8_text_92 : decode cX8_text 92 = .ok (.aload_n 0, 1) := by decide +kernel
theorem dX8_text_93 : decode cX8_text 93 = .ok (.getfield 236, 3) := by decide +kernel
theorem dX8_text_96 : decode cX8_text 96 = .ok (.iadd, 1) := by decide +kernel
theorem dX8_text_97 : decode cX8_text 97 = .ok (.iastore, 1) := by decide +kernel
theorem dX8_text_98 : decode cX8_text 98 = .ok (.aload_n 0, 1) := by decide +kernel
theorem dX8_text_99 : decode cX8_text 99 = .ok (.getfield 9, 3) := by decide +kernel
theorem dX8_text_102 : decode cX8_text 102 = .ok (.bipush 66, 2) := by decide +kernel
theorem dX8_text_104 : decode cX8_text 104 = .ok (.iconst 2, 1) := by decide +kernel
theorem dX8_text_105 : decode cX8_text 105 = .ok (.iload_n 2, 1) := by decide +kernel
theorem dX8_text_106 : decode cX8_text 106 = .ok (.imul, 1) := by decide +kernel
theorem dX8_text_107 : decode cX8_text 107 = .ok (.iadd, 1) := by decide +kernel
theorem dX8_text_108 : decode cX8_text 108 = .ok (.iconst 1, 1) := by decide +kernel
theorem dX8_text_109 : decode cX8_text 109 = .ok (.iadd, 1) := by decide +kernel
theorem dX8_text_110 : decode cX8_text 110 = .ok (.aload_n 0, 1) := by decide +kernel
theorem dX8_text_111 : decode cX8_text 111 = .ok (.getfield 242, 3) := by decide +kernel
theorem dX8_text_114 : decode cX8_text 114 = .ok (.iastore, 1) := by decide +kernel
theorem dX8_text_115 : decode cX8_text 115 = .ok (.iconst 0, 1) := by decide +kernel
theorem dX8_text_116 : decode cX8_text 116 = .ok (.istore_n 3, 1) := by decide +kernel
theorem dX8_text_117 : decode cX8_text 117 = .ok (.iload_n 3, 1) := by decide +kernel
theorem dX8_text_118 : decode cX8_text 118 = .ok (.aload_n 0, 1) := by decide +kernel
theorem dX8_text_119 : decode cX8_text 119 = .ok (.getfield 236, 3) := by decide +kernel
theorem dX8_text_122 : decode cX8_text 122 = .ok (.if_icmp .ge 29, 3) := by decide +kernel
theorem dX8_text_125 : decode cX8_text 125 = .ok (.aload_n 0, 1) := by decide +kernel
theorem dX8_text_126 : decode cX8_text 126 = .ok (.getfield 9, 3) := by decide +kernel
theorem dX8_text_129 : decode cX8_text 129 = .ok (.bipush 94, 2) := by decide +kernel
theorem dX8_text_131 : decode cX8_text 131 = .ok (.bipush 96, 2) := by decide +kernel
theorem dX8_text_133 : decode cX8_text 133 = .ok (.iload_n 2, 1) := by decide +kernel
theorem dX8_text_134 : decode cX8_text 134 = .ok (.imul, 1) := by decide +kernel
theorem dX8_text_135 : decode cX8_text 135 = .ok (.iadd, 1) := by decide +kernel
theorem dX8_text_136 : decode cX8_text 136 = .ok (.iload_n 3, 1) := by decide +kernel
theorem dX8_text_137 : decode cX8_text 137 = .ok (.iadd, 1) := by decide +kernel
theorem dX8_text_138 : decode cX8_text 138 = .ok (.aload_n 0, 1) := by decide +kernel
theorem dX8_text_139 : decode cX8_text 139 = .ok (.getfield 36, 3) := by decide +kernel
theorem dX8_text_142 : decode cX8_text 142 = .ok (.iload_n 3, 1) := by decide +kernel
theorem dX8_text_143 : decode cX8_text 143 = .ok (.iaload, 1) := by decide +kernel
theorem dX8_text_144 : decode cX8_text 144 = .ok (.iastore, 1) := by decide +kernel
theorem dX8_text_145 : decode cX8_text 145 = .ok (.iinc 3 1, 3) := by decide +kernel
theorem dX8_text_148 : decode cX8_text 148 = .ok (.goto (-31), 3) := by decide +kernel
theorem dX8_text_151 : decode cX8_text 151 = .ok (.aload_n 0, 1) := by decide +kernel
theorem dX8_text_152 : decode cX8_text 152 = .ok (.getfield 9, 3) := by decide +kernel
theorem dX8_text_155 : decode cX8_text 155 = .ok (.bipush 7, 2) := by decide +kernel
theorem dX8_text_157 : decode cX8_text 157 = .ok (.dup2, 1) := by decide +kernel
theorem dX8_text_158 : decode cX8_text 158 = .ok (.iaload, 1) := by decide +kernel
theorem dX8_text_159 : decode cX8_text 159 = .ok (.iconst 1, 1) := by decide +kernel
theorem dX8_text_160 : decode cX8_text 160 = .ok (.iadd, 1) := by decide +kernel
theorem dX8_text_161 : decode cX8_text 161 = .ok (.iastore, 1) := by decide +kernel
theorem dX8_text_162 : decode cX8_text 162 = .ok (.iload_n 2, 1) := by decide +kernel
theorem dX8_text_163 : decode cX8_text 163 = .ok (.ireturn, 1) := by decide +kernel
theorem dX8_textTold_0 : decode cX8_textTold 0 = .ok (.iload_n 1, 1) := by decide +kernel
theorem dX8_textTold_1 : decode cX8_textTold 1 = .ok (.iconst 0, 1) := by decide +kernel
theorem dX8_textTold_2 : decode cX8_textTold 2 = .ok (.aload_n 0, 1) := by decide +kernel
theorem dX8_textTold_3 : decode cX8_textTold 3 = .ok (.getfield 9, 3) := by decide +kernel
theorem dX8_textTold_6 : decode cX8_textTold 6 = .ok (.bipush 7, 2) := by decide +kernel
theorem dX8_textTold_8 : decode cX8_textTold 8 = .ok (.iaload, 1) := by decide +kernel
theorem dX8_textTold_9 : decode cX8_textTold 9 = .ok (.iconst 1, 1) := by decide +kernel
theorem dX8_textTold_10 : decode cX8_textTold 10 = .ok (.isub, 1) := by decide +kernel
theorem dX8_textTold_11 : decode cX8_textTold 11 = .ok (.invokestatic 80, 3) := by decide +kernel
theorem dX8_textTold_14 : decode cX8_textTold 14 = .ok (.ifCond .eq 12, 3) := by decide +kernel
theorem dX8_textTold_17 : decode cX8_textTold 17 = .ok (.iload_n 2, 1) := by decide +kernel
theorem dX8_textTold_18 : decode cX8_textTold 18 = .ok (.iconst 0, 1) := by decide +kernel
theorem dX8_textTold_19 : decode cX8_textTold 19 = .ok (.iconst 1, 1) := by decide +kernel
theorem dX8_textTold_20 : decode cX8_textTold 20 = .ok (.invokestatic 80, 3) := by decide +kernel
theorem dX8_textTold_23 : decode cX8_textTold 23 = .ok (.ifCond .ne 6, 3) := by decide +kernel
theorem dX8_textTold_26 : decode cX8_textTold 26 = .ok (.ldc 88, 2) := by decide +kernel
theorem dX8_textTold_28 : decode cX8_textTold 28 = .ok (.ireturn, 1) := by decide +kernel
theorem dX8_textTold_29 : decode cX8_textTold 29 = .ok (.iload_n 2, 1) := by decide +kernel
theorem dX8_textTold_30 : decode cX8_textTold 30 = .ok (.ifCond .ne 21, 3) := by decide +kernel
theorem dX8_textTold_33 : decode cX8_textTold 33 = .ok (.aload_n 0, 1) := by decide +kernel
theorem dX8_textTold_34 : decode cX8_textTold 34 = .ok (.getfield 9, 3) := by decide +kernel
theorem dX8_textTold_37 : decode cX8_textTold 37 = .ok (.bipush 66, 2) := by decide +kernel
theorem dX8_textTold_39 : decode cX8_textTold 39 = .ok (.iconst 2, 1) := by decide +kernel
theorem dX8_textTold_40 : decode cX8_textTold 40 = .ok (.iload_n 1, 1) := by decide +kernel
theorem dX8_textTold_41 : decode cX8_textTold 41 = .ok (.imul, 1) := by decide +kernel
theorem dX8_textTold_42 : decode cX8_textTold 42 = .ok (.iadd, 1) := by decide +kernel
theorem dX8_textTold_43 : decode cX8_textTold 43 = .ok (.iaload, 1) := by decide +kernel
theorem dX8_textTold_44 : decode cX8_textTold 44 = .ok (.sipush 1000, 3) := by decide +kernel
theorem dX8_textTold_47 : decode cX8_textTold 47 = .ok (.idiv, 1) := by decide +kernel
theorem dX8_textTold_48 : decode cX8_textTold 48 = .ok (.goto 16, 3) := by decide +kernel
theorem dX8_textTold_51 : decode cX8_textTold 51 = .ok (.aload_n 0, 1) := by decide +kernel
theorem dX8_textTold_52 : decode cX8_textTold 52 = .ok (.getfield 9, 3) := by decide +kernel
theorem dX8_textTold_55 : decode cX8_textTold 55 = .ok (.bipush 66, 2) := by decide +kernel
theorem dX8_textTold_57 : decode cX8_textTold 57 = .ok (.iconst 2, 1) := by decide +kernel
theorem dX8_textTold_58 : decode cX8_textTold 58 = .ok (.iload_n 1, 1) := by decide +kernel
theorem dX8_textTold_59 : decode cX8_textTold 59 = .ok (.imul, 1) := by decide +kernel
theorem dX8_textTold_60 : decode cX8_textTold 60 = .ok (.iadd, 1) := by decide +kernel
theorem dX8_textTold_61 : decode cX8_textTold 61 = .ok (.iconst 1, 1) := by decide +kernel
theorem dX8_textTold_62 : decode cX8_textTold 62 = .ok (.iadd, 1) := by decide +kernel
theorem dX8_textTold_63 : decode cX8_textTold 63 = .ok (.iaload, 1) := by decide +kernel
theorem dX8_textTold_64 : decode cX8_textTold 64 = .ok (.ireturn, 1) := by decide +kernel
theorem dX8_counts_0 : decode cX8_counts 0 = .ok (.aload_n 0, 1) := by decide +kernel
theorem dX8_counts_1 : decode cX8_counts 1 = .ok (.getfield 9, 3) := by decide +kernel
theorem dX8_counts_4 : decode cX8_counts 4 = .ok (.bipush 7, 2) := by decide +kernel
theorem dX8_counts_6 : decode cX8_counts 6 = .ok (.iaload, 1) := by decide +kernel
theorem dX8_counts_7 : decode cX8_counts 7 = .ok (.iconst 1, 1) := by decide +kernel
theorem dX8_counts_8 : decode cX8_counts 8 = .ok (.isub, 1) := by decide +kernel
theorem dX8_counts_9 : decode cX8_counts 9 = .ok (.istore_n 2, 1) := by decide +kernel
theorem dX8_counts_10 : decode cX8_counts 10 = .ok (.iload_n 2, 1) := by decide +kernel
theorem dX8_counts_11 : decode cX8_counts 11 = .ok (.ifCond .lt 30, 3) := by decide +kernel
theorem dX8_counts_14 : decode cX8_counts 14 = .ok (.aload_n 0, 1) := by decide +kernel
theorem dX8_counts_15 : decode cX8_counts 15 = .ok (.getfield 9, 3) := by decide +kernel
theorem dX8_counts_18 : decode cX8_counts 18 = .ok (.bipush 66, 2) := by decide +kernel
theorem dX8_counts_20 : decode cX8_counts 20 = .ok (.iconst 2, 1) := by decide +kernel
theorem dX8_counts_21 : decode cX8_counts 21 = .ok (.iload_n 2, 1) := by decide +kernel
theorem dX8_counts_22 : decode cX8_counts 22 = .ok (.imul, 1) := by decide +kernel
theorem dX8_counts_23 : decode cX8_counts 23 = .ok (.iadd, 1) := by decide +kernel
theorem dX8_counts_24 : decode cX8_counts 24 = .ok (.iaload, 1) := by decide +kernel
theorem dX8_counts_25 : decode cX8_counts 25 = .ok (.sipush 1000, 3) := by decide +kernel
theorem dX8_counts_28 : decode cX8_counts 28 = .ok (.idiv, 1) := by decide +kernel
theorem dX8_counts_29 : decode cX8_counts 29 = .ok (.iload_n 1, 1) := by decide +kernel
theorem dX8_counts_30 : decode cX8_counts 30 = .ok (.if_icmp .ne 5, 3) := by decide +kernel
theorem dX8_counts_33 : decode cX8_counts 33 = .ok (.iload_n 2, 1) := by decide +kernel
theorem dX8_counts_34 : decode cX8_counts 34 = .ok (.ireturn, 1) := by decide +kernel
theorem dX8_counts_35 : decode cX8_counts 35 = .ok (.iinc 2 (-1), 3) := by decide +kernel
theorem dX8_counts_38 : decode cX8_counts 38 = .ok (.goto (-28), 3) := by decide +kernel
theorem dX8_counts_41 : decode cX8_counts 41 = .ok (.iconst (-1), 1) := by decide +kernel
theorem dX8_counts_42 : decode cX8_counts 42 = .ok (.ireturn, 1) := by decide +kernel
theorem dX8_why_0 : decode cX8_why 0 = .ok (.iload_n 1, 1) := by decide +kernel
theorem dX8_why_1 : decode cX8_why 1 = .ok (.iconst 0, 1) := by decide +kernel
theorem dX8_why_2 : decode cX8_why 2 = .ok (.iconst 2, 1) := by decide +kernel
theorem dX8_why_3 : decode cX8_why 3 = .ok (.invokestatic 80, 3) := by decide +kernel
theorem dX8_why_6 : decode cX8_why 6 = .ok (.ifCond .ne 6, 3) := by decide +kernel
theorem dX8_why_9 : decode cX8_why 9 = .ok (.ldc 88, 2) := by decide +kernel
theorem dX8_why_11 : decode cX8_why 11 = .ok (.ireturn, 1) := by decide +kernel
theorem dX8_why_12 : decode cX8_why 12 = .ok (.aload_n 0, 1) := by decide +kernel
theorem dX8_why_13 : decode cX8_why 13 = .ok (.iload_n 1, 1) := by decide +kernel
theorem dX8_why_14 : decode cX8_why 14 = .ok (.invokevirtual 102, 3) := by decide +kernel
theorem dX8_why_17 : decode cX8_why 17 = .ok (.istore_n 2, 1) := by decide +kernel
theorem dX8_why_18 : decode cX8_why 18 = .ok (.iload_n 2, 1) := by decide +kernel
theorem dX8_why_19 : decode cX8_why 19 = .ok (.ifCond .ge 8, 3) := by decide +kernel
theorem dX8_why_22 : decode cX8_why 22 = .ok (.ldc 79, 2) := by decide +kernel
theorem dX8_why_24 : decode cX8_why 24 = .ok (.goto 4, 3) := by decide +kernel
theorem dX8_why_27 : decode cX8_why 27 = .ok (.iload_n 2, 1) := by decide +kernel
theorem dX8_why_28 : decode cX8_why 28 = .ok (.ireturn, 1) := by decide +kernel
theorem dX8_two_0 : decode cX8_two 0 = .ok (.iload_n 0, 1) := by decide +kernel
theorem dX8_two_1 : decode cX8_two 1 = .ok (.tableswitch 120 (-8) (-1) #[116, 112, 108, 97, 86, 75, 61, 47], 47) := by decide +kernel
theorem dX8_two_48 : decode cX8_two 48 = .ok (.iload_n 1, 1) := by decide +kernel
theorem dX8_two_49 : decode cX8_two 49 = .ok (.ifCond .ne 7, 3) := by decide +kernel
theorem dX8_two_52 : decode cX8_two 52 = .ok (.iload_n 2, 1) := by decide +kernel
theorem dX8_two_53 : decode cX8_two 53 = .ok (.ifCond .eq 7, 3) := by decide +kernel
theorem dX8_two_56 : decode cX8_two 56 = .ok (.iconst 1, 1) := by decide +kernel
theorem dX8_two_57 : decode cX8_two 57 = .ok (.goto 4, 3) := by decide +kernel
theorem dX8_two_60 : decode cX8_two 60 = .ok (.iconst 0, 1) := by decide +kernel
theorem dX8_two_61 : decode cX8_two 61 = .ok (.ireturn, 1) := by decide +kernel
theorem dX8_two_62 : decode cX8_two 62 = .ok (.iload_n 1, 1) := by decide +kernel
theorem dX8_two_63 : decode cX8_two 63 = .ok (.ifCond .eq 11, 3) := by decide +kernel
theorem dX8_two_66 : decode cX8_two 66 = .ok (.iload_n 2, 1) := by decide +kernel
theorem dX8_two_67 : decode cX8_two 67 = .ok (.ifCond .eq 7, 3) := by decide +kernel
theorem dX8_two_70 : decode cX8_two 70 = .ok (.iconst 1, 1) := by decide +kernel
theorem dX8_two_71 : decode cX8_two 71 = .ok (.goto 4, 3) := by decide +kernel
theorem dX8_two_74 : decode cX8_two 74 = .ok (.iconst 0, 1) := by decide +kernel
theorem dX8_two_75 : decode cX8_two 75 = .ok (.ireturn, 1) := by decide +kernel
theorem dX8_two_76 : decode cX8_two 76 = .ok (.iload_n 1, 1) := by decide +kernel
theorem dX8_two_77 : decode cX8_two 77 = .ok (.iload_n 2, 1) := by decide +kernel
theorem dX8_two_78 : decode cX8_two 78 = .ok (.if_icmp .ge 7, 3) := by decide +kernel
theorem dX8_two_81 : decode cX8_two 81 = .ok (.iconst 1, 1) := by decide +kernel
theorem dX8_two_82 : decode cX8_two 82 = .ok (.goto 4, 3) := by decide +kernel
theorem dX8_two_85 : decode cX8_two 85 = .ok (.iconst 0, 1) := by decide +kernel
theorem dX8_two_86 : decode cX8_two 86 = .ok (.ireturn, 1) := by decide +kernel
theorem dX8_two_87 : decode cX8_two 87 = .ok (.iload_n 1, 1) := by decide +kernel
theorem dX8_two_88 : decode cX8_two 88 = .ok (.iload_n 2, 1) := by decide +kernel
theorem dX8_two_89 : decode cX8_two 89 = .ok (.if_icmp .ne 7, 3) := by decide +kernel
theorem dX8_two_92 : decode cX8_two 92 = .ok (.iconst 1, 1) := by decide +kernel
theorem dX8_two_93 : decode cX8_two 93 = .ok (.goto 4, 3) := by decide +kernel
theorem dX8_two_96 : decode cX8_two 96 = .ok (.iconst 0, 1) := by decide +kernel
theorem dX8_two_97 : decode cX8_two 97 = .ok (.ireturn, 1) := by decide +kernel
theorem dX8_two_98 : decode cX8_two 98 = .ok (.iload_n 1, 1) := by decide +kernel
theorem dX8_two_99 : decode cX8_two 99 = .ok (.iload_n 2, 1) := by decide +kernel
theorem dX8_two_100 : decode cX8_two 100 = .ok (.if_icmp .le 7, 3) := by decide +kernel
theorem dX8_two_103 : decode cX8_two 103 = .ok (.iconst 1, 1) := by decide +kernel
theorem dX8_two_104 : decode cX8_two 104 = .ok (.goto 4, 3) := by decide +kernel
theorem dX8_two_107 : decode cX8_two 107 = .ok (.iconst 0, 1) := by decide +kernel
theorem dX8_two_108 : decode cX8_two 108 = .ok (.ireturn, 1) := by decide +kernel
theorem dX8_two_109 : decode cX8_two 109 = .ok (.iload_n 1, 1) := by decide +kernel
theorem dX8_two_110 : decode cX8_two 110 = .ok (.iload_n 2, 1) := by decide +kernel
theorem dX8_two_111 : decode cX8_two 111 = .ok (.iadd, 1) := by decide +kernel
theorem dX8_two_112 : decode cX8_two 112 = .ok (.ireturn, 1) := by decide +kernel
theorem dX8_two_113 : decode cX8_two 113 = .ok (.iload_n 1, 1) := by decide +kernel
theorem dX8_two_114 : decode cX8_two 114 = .ok (.iload_n 2, 1) := by decide +kernel
theorem dX8_two_115 : decode cX8_two 115 = .ok (.isub, 1) := by decide +kernel
theorem dX8_two_116 : decode cX8_two 116 = .ok (.ireturn, 1) := by decide +kernel
theorem dX8_two_117 : decode cX8_two 117 = .ok (.iload_n 1, 1) := by decide +kernel
theorem dX8_two_118 : decode cX8_two 118 = .ok (.iload_n 2, 1) := by decide +kernel
theorem dX8_two_119 : decode cX8_two 119 = .ok (.imul, 1) := by decide +kernel
theorem dX8_two_120 : decode cX8_two 120 = .ok (.ireturn, 1) := by decide +kernel
theorem dX8_two_121 : decode cX8_two 121 = .ok (.iload_n 2, 1) := by decide +kernel
theorem dX8_two_122 : decode cX8_two 122 = .ok (.ifCond .ne 7, 3) := by decide +kernel
theorem dX8_two_125 : decode cX8_two 125 = .ok (.iconst 0, 1) := by decide +kernel
theorem dX8_two_126 : decode cX8_two 126 = .ok (.goto 6, 3) := by decide +kernel
theorem dX8_two_129 : decode cX8_two 129 = .ok (.iload_n 1, 1) := by decide +kernel
theorem dX8_two_130 : decode cX8_two 130 = .ok (.iload_n 2, 1) := by decide +kernel
theorem dX8_two_131 : decode cX8_two 131 = .ok (.idiv, 1) := by decide +kernel
theorem dX8_two_132 : decode cX8_two 132 = .ok (.ireturn, 1) := by decide +kernel
theorem dX8_worksOut_0 : decode cX8_worksOut 0 = .ok (.iconst 0, 1) := by decide +kernel
theorem dX8_worksOut_1 : decode cX8_worksOut 1 = .ok (.istore_n 2, 1) := by decide +kernel
theorem dX8_worksOut_2 : decode cX8_worksOut 2 = .ok (.aload_n 0, 1) := by decide +kernel
theorem dX8_worksOut_3 : decode cX8_worksOut 3 = .ok (.getfield 9, 3) := by decide +kernel
theorem dX8_worksOut_6 : decode cX8_worksOut 6 = .ok (.bipush 66, 2) := by decide +kernel
theorem dX8_worksOut_8 : decode cX8_worksOut 8 = .ok (.iconst 2, 1) := by decide +kernel
theorem dX8_worksOut_9 : decode cX8_worksOut 9 = .ok (.iload_n 1, 1) := by decide +kernel
theorem dX8_worksOut_10 : decode cX8_worksOut 10 = .ok (.imul, 1) := by decide +kernel
theorem dX8_worksOut_11 : decode cX8_worksOut 11 = .ok (.iadd, 1) := by decide +kernel
theorem dX8_worksOut_12 : decode cX8_worksOut 12 = .ok (.iaload, 1) := by decide +kernel
theorem dX8_worksOut_13 : decode cX8_worksOut 13 = .ok (.sipush 1000, 3) := by decide +kernel
theorem dX8_worksOut_16 : decode cX8_worksOut 16 = .ok (.irem, 1) := by decide +kernel
theorem dX8_worksOut_17 : decode cX8_worksOut 17 = .ok (.istore_n 3, 1) := by decide +kernel
theorem dX8_worksOut_18 : decode cX8_worksOut 18 = .ok (.iconst 0, 1) := by decide +kernel
theorem dX8_worksOut_19 : decode cX8_worksOut 19 = .ok (.istore 4, 2) := by decide +kernel
theorem dX8_worksOut_21 : decode cX8_worksOut 21 = .ok (.iload 4, 2) := by decide +kernel
theorem dX8_worksOut_23 : decode cX8_worksOut 23 = .ok (.iload_n 3, 1) := by decide +kernel
theorem dX8_worksOut_24 : decode cX8_worksOut 24 = .ok (.if_icmp .ge 131, 3) := by decide +kernel
theorem dX8_worksOut_27 : decode cX8_worksOut 27 = .ok (.aload_n 0, 1) := by decide +kernel
theorem dX8_worksOut_28 : decode cX8_worksOut 28 = .ok (.getfield 9, 3) := by decide +kernel
theorem dX8_worksOut_31 : decode cX8_worksOut 31 = .ok (.bipush 94, 2) := by decide +kernel
theorem dX8_worksOut_33 : decode cX8_worksOut 33 = .ok (.bipush 96, 2) := by decide +kernel
theorem dX8_worksOut_35 : decode cX8_worksOut 35 = .ok (.iload_n 1, 1) := by decide +kernel
theorem dX8_worksOut_36 : decode cX8_worksOut 36 = .ok (.imul, 1) := by decide +kernel
theorem dX8_worksOut_37 : decode cX8_worksOut 37 = .ok (.iadd, 1) := by decide +kernel
theorem dX8_worksOut_38 : decode cX8_worksOut 38 = .ok (.iload 4, 2) := by decide +kernel
theorem dX8_worksOut_40 : decode cX8_worksOut 40 = .ok (.iadd, 1) := by decide +kernel
theorem dX8_worksOut_41 : decode cX8_worksOut 41 = .ok (.iaload, 1) := by decide +kernel
theorem dX8_worksOut_42 : decode cX8_worksOut 42 = .ok (.istore 5, 2) := by decide +kernel
theorem dX8_worksOut_44 : decode cX8_worksOut 44 = .ok (.iload 5, 2) := by decide +kernel
theorem dX8_worksOut_46 : decode cX8_worksOut 46 = .ok (.ifCond .lt 39, 3) := by decide +kernel
theorem dX8_worksOut_49 : decode cX8_worksOut 49 = .ok (.aload_n 0, 1) := by decide +kernel
theorem dX8_worksOut_50 : decode cX8_worksOut 50 = .ok (.getfield 46, 3) := by decide +kernel
theorem dX8_worksOut_53 : decode cX8_worksOut 53 = .ok (.iload_n 2, 1) := by decide +kernel
theorem dX8_worksOut_54 : decode cX8_worksOut 54 = .ok (.iload 5, 2) := by decide +kernel
theorem dX8_worksOut_56 : decode cX8_worksOut 56 = .ok (.sipush 10000, 3) := by decide +kernel
theorem dX8_worksOut_59 : decode cX8_worksOut 59 = .ok (.if_icmp .ge 8, 3) := by decide +kernel
theorem dX8_worksOut_62 : decode cX8_worksOut 62 = .ok (.iload 5, 2) := by decide +kernel
theorem dX8_worksOut_64 : decode cX8_worksOut 64 = .ok (.goto 14, 3) := by decide +kernel
theorem dX8_worksOut_67 : decode cX8_worksOut 67 = .ok (.aload_n 0, 1) := by decide +kernel
theorem dX8_worksOut_68 : decode cX8_worksOut 68 = .ok (.getfield 49, 3) := by decide +kernel
theorem dX8_worksOut_71 : decode cX8_worksOut 71 = .ok (.iload 5, 2) := by decide +kernel
theorem dX8_worksOut_73 : decode cX8_worksOut 73 = .ok (.sipush 10000, 3) := by decide +kernel
theorem dX8_worksOut_76 : decode cX8_worksOut 76 = .ok (.isub, 1) := by decide +kernel
theorem dX8_worksOut_77 : decode cX8_worksOut 77 = .ok (.iaload, 1) := by decide +kernel
theorem dX8_worksOut_78 : decode cX8_worksOut 78 = .ok (.iastore, 1) := by decide +kernel
theorem dX8_worksOut_79 : decode cX8_worksOut 79 = .ok (.iinc 2 1, 3) := by decide +kernel
theorem dX8_worksOut_82 : decode cX8_worksOut 82 = .ok (.goto 67, 3) := by decide +kernel
theorem dX8_worksOut_85 : decode cX8_worksOut 85 = .ok (.iload 5, 2) := by decide +kernel
theorem dX8_worksOut_87 : decode cX8_worksOut 87 = .ok (.bipush (-10), 2) := by decide +kernel
theorem dX8_worksOut_89 : decode cX8_worksOut 89 = .ok (.if_icmp .ne 30, 3) := by decide +kernel
theorem dX8_worksOut_92 : decode cX8_worksOut 92 = .ok (.aload_n 0, 1) := by decide +kernel
theorem dX8_worksOut_93 : decode cX8_worksOut 93 = .ok (.getfield 46, 3) := by decide +kernel
theorem dX8_worksOut_96 : decode cX8_worksOut 96 = .ok (.iload_n 2, 1) := by decide +kernel
theorem dX8_worksOut_97 : decode cX8_worksOut 97 = .ok (.iconst 1, 1) := by decide +kernel
theorem dX8_worksOut_98 : decode cX8_worksOut 98 = .ok (.isub, 1) := by decide +kernel
theorem dX8_worksOut_99 : decode cX8_worksOut 99 = .ok (.aload_n 0, 1) := by decide +kernel
theorem dX8_worksOut_100 : decode cX8_worksOut 100 = .ok (.getfield 46, 3) := by decide +kernel
theorem dX8_worksOut_103 : decode cX8_worksOut 103 = .ok (.iload_n 2, 1) := by decide +kernel
theorem dX8_worksOut_104 : decode cX8_worksOut 104 = .ok (.iconst 1, 1) := by decide +kernel
theorem dX8_worksOut_105 : decode cX8_worksOut 105 = .ok (.isub, 1) := by decide +kernel
theorem dX8_worksOut_106 : decode cX8_worksOut 106 = .ok (.iaload, 1) := by decide +kernel
theorem dX8_worksOut_107 : decode cX8_worksOut 107 = .ok (.ifCond .ne 7, 3) := by decide +kernel
theorem dX8_worksOut_110 : decode cX8_worksOut 110 = .ok (.iconst 1, 1) := by decide +kernel
theorem dX8_worksOut_111 : decode cX8_worksOut 111 = .ok (.goto 4, 3) := by decide +kernel
theorem dX8_worksOut_114 : decode cX8_worksOut 114 = .ok (.iconst 0, 1) := by decide +kernel
theorem dX8_worksOut_115 : decode cX8_worksOut 115 = .ok (.iastore, 1) := by decide +kernel
theorem dX8_worksOut_116 : decode cX8_worksOut 116 = .ok (.goto 33, 3) := by decide +kernel
theorem dX8_worksOut_119 : decode cX8_worksOut 119 = .ok (.iinc 2 (-1), 3) := by decide +kernel
theorem dX8_worksOut_122 : decode cX8_worksOut 122 = .ok (.aload_n 0, 1) := by decide +kernel
theorem dX8_worksOut_123 : decode cX8_worksOut 123 = .ok (.getfield 46, 3) := by decide +kernel
theorem dX8_worksOut_126 : decode cX8_worksOut 126 = .ok (.iload_n 2, 1) := by decide +kernel
theorem dX8_worksOut_127 : decode cX8_worksOut 127 = .ok (.iconst 1, 1) := by decide +kernel
theorem dX8_worksOut_128 : decode cX8_worksOut 128 = .ok (.isub, 1) := by decide +kernel
theorem dX8_worksOut_129 : decode cX8_worksOut 129 = .ok (.iload 5, 2) := by decide +kernel
theorem dX8_worksOut_131 : decode cX8_worksOut 131 = .ok (.aload_n 0, 1) := by decide +kernel
theorem dX8_worksOut_132 : decode cX8_worksOut 132 = .ok (.getfield 46, 3) := by decide +kernel
theorem dX8_worksOut_135 : decode cX8_worksOut 135 = .ok (.iload_n 2, 1) := by decide +kernel
theorem dX8_worksOut_136 : decode cX8_worksOut 136 = .ok (.iconst 1, 1) := by decide +kernel
theorem dX8_worksOut_137 : decode cX8_worksOut 137 = .ok (.isub, 1) := by decide +kernel
theorem dX8_worksOut_138 : decode cX8_worksOut 138 = .ok (.iaload, 1) := by decide +kernel
theorem dX8_worksOut_139 : decode cX8_worksOut 139 = .ok (.aload_n 0, 1) := by decide +kernel
theorem dX8_worksOut_140 : decode cX8_worksOut 140 = .ok (.getfield 46, 3) := by decide +kernel
theorem dX8_worksOut_143 : decode cX8_worksOut 143 = .ok (.iload_n 2, 1) := by decide +kernel
theorem dX8_worksOut_144 : decode cX8_worksOut 144 = .ok (.iaload, 1) := by decide +kernel
theorem dX8_worksOut_145 : decode cX8_worksOut 145 = .ok (.invokestatic 265, 3) := by decide +kernel
theorem dX8_worksOut_148 : decode cX8_worksOut 148 = .ok (.iastore, 1) := by decide +kernel
theorem dX8_worksOut_149 : decode cX8_worksOut 149 = .ok (.iinc 4 1, 3) := by decide +kernel
theorem dX8_worksOut_152 : decode cX8_worksOut 152 = .ok (.goto (-131), 3) := by decide +kernel
theorem dX8_worksOut_155 : decode cX8_worksOut 155 = .ok (.aload_n 0, 1) := by decide +kernel
theorem dX8_worksOut_156 : decode cX8_worksOut 156 = .ok (.getfield 46, 3) := by decide +kernel
theorem dX8_worksOut_159 : decode cX8_worksOut 159 = .ok (.iconst 0, 1) := by decide +kernel
theorem dX8_worksOut_160 : decode cX8_worksOut 160 = .ok (.iaload, 1) := by decide +kernel
theorem dX8_worksOut_161 : decode cX8_worksOut 161 = .ok (.ireturn, 1) := by decide +kernel
theorem dX8_isSheet_0 : decode cX8_isSheet 0 = .ok (.iload_n 0, 1) := by decide +kernel
theorem dX8_isSheet_1 : decode cX8_isSheet 1 = .ok (.iconst 0, 1) := by decide +kernel
theorem dX8_isSheet_2 : decode cX8_isSheet 2 = .ok (.iconst 3, 1) := by decide +kernel
theorem dX8_isSheet_3 : decode cX8_isSheet 3 = .ok (.invokestatic 80, 3) := by decide +kernel
theorem dX8_isSheet_6 : decode cX8_isSheet 6 = .ok (.ireturn, 1) := by decide +kernel
theorem dX8_isSlot_0 : decode cX8_isSlot 0 = .ok (.iload_n 0, 1) := by decide +kernel
theorem dX8_isSlot_1 : decode cX8_isSlot 1 = .ok (.iconst 0, 1) := by decide +kernel
theorem dX8_isSlot_2 : decode cX8_isSlot 2 = .ok (.iconst 4, 1) := by decide +kernel
theorem dX8_isSlot_3 : decode cX8_isSlot 3 = .ok (.invokestatic 80, 3) := by decide +kernel
theorem dX8_isSlot_6 : decode cX8_isSlot 6 = .ok (.ireturn, 1) := by decide +kernel
theorem dX8_sheet_0 : decode cX8_sheet 0 = .ok (.iload_n 1, 1) := by decide +kernel
theorem dX8_sheet_1 : decode cX8_sheet 1 = .ok (.invokestatic 192, 3) := by decide +kernel
theorem dX8_sheet_4 : decode cX8_sheet 4 = .ok (.ifCond .eq 22, 3) := by decide +kernel
theorem dX8_sheet_7 : decode cX8_sheet 7 = .ok (.iload_n 2, 1) := by decide +kernel
theorem dX8_sheet_8 : decode cX8_sheet 8 = .ok (.iconst (-1), 1) := by decide +kernel
theorem dX8_sheet_9 : decode cX8_sheet 9 = .ok (.iconst 1, 1) := by decide +kernel
theorem dX8_sheet_10 : decode cX8_sheet 10 = .ok (.invokestatic 80, 3) := by decide +kernel
theorem dX8_sheet_13 : decode cX8_sheet 13 = .ok (.ifCond .eq 13, 3) := by decide +kernel
theorem dX8_sheet_16 : decode cX8_sheet 16 = .ok (.iload_n 2, 1) := by decide +kernel
theorem dX8_sheet_17 : decode cX8_sheet 17 = .ok (.ifCond .lt 12, 3) := by decide +kernel
theorem dX8_sheet_20 : decode cX8_sheet 20 = .ok (.iload_n 3, 1) := by decide +kernel
theorem dX8_sheet_21 : decode cX8_sheet 21 = .ok (.bipush 24, 2) := by decide +kernel
theorem dX8_sheet_23 : decode cX8_sheet 23 = .ok (.if_icmp .le 6, 3) := by decide +kernel
theorem dX8_sheet_26 : decode cX8_sheet 26 = .ok (.ldc 88, 2) := by decide +kernel
theorem dX8_sheet_28 : decode cX8_sheet 28 = .ok (.ireturn, 1) := by decide +kernel
theorem dX8_sheet_29 : decode cX8_sheet 29 = .ok (.iload_n 2, 1) := by decide +kernel
theorem dX8_sheet_30 : decode cX8_sheet 30 = .ok (.ifCond .lt 11, 3) := by decide +kernel
theorem dX8_sheet_33 : decode cX8_sheet 33 = .ok (.iload_n 3, 1) := by decide +kernel
theorem dX8_sheet_34 : decode cX8_sheet 34 = .ok (.ifCond .ge 7, 3) := by decide +kernel
theorem dX8_sheet_37 : decode cX8_sheet 37 = .ok (.ldc_w 268, 3) := by decide +kernel
theorem dX8_sheet_40 : decode cX8_sheet 40 = .ok (.ireturn, 1) := by decide +kernel
theorem dX8_sheet_41 : decode cX8_sheet 41 = .ok (.aload_n 0, 1) := by decide +kernel
theorem dX8_sheet_42 : decode cX8_sheet 42 = .ok (.getfield 52, 3) := by decide +kernel
theorem dX8_sheet_45 : decode cX8_sheet 45 = .ok (.iload_n 1, 1) := by decide +kernel
theorem dX8_sheet_46 : decode cX8_sheet 46 = .ok (.iload_n 2, 1) := by decide +kernel
theorem dX8_sheet_47 : decode cX8_sheet 47 = .ok (.iastore, 1) := by decide +kernel
theorem dX8_sheet_48 : decode cX8_sheet 48 = .ok (.aload_n 0, 1) := by decide +kernel
theorem dX8_sheet_49 : decode cX8_sheet 49 = .ok (.getfield 55, 3) := by decide +kernel
theorem dX8_sheet_52 : decode cX8_sheet 52 = .ok (.iload_n 1, 1) := by decide +kernel
theorem dX8_sheet_53 : decode cX8_sheet 53 = .ok (.iload_n 2, 1) := by decide +kernel
theorem dX8_sheet_54 : decode cX8_sheet 54 = .ok (.ifCond .ge 7, 3) := by decide +kernel
theorem dX8_sheet_57 : decode cX8_sheet 57 = .ok (.iconst 0, 1) := by decide +kernel
theorem dX8_sheet_58 : decode cX8_sheet 58 = .ok (.goto 4, 3) := by decide +kernel
theorem dX8_sheet_61 : decode cX8_sheet 61 = .ok (.iload_n 3, 1) := by decide +kernel
theorem dX8_sheet_62 : decode cX8_sheet 62 = .ok (.iastore, 1) := by decide +kernel
theorem dX8_sheet_63 : decode cX8_sheet 63 = .ok (.iconst 0, 1) := by decide +kernel
theorem dX8_sheet_64 : decode cX8_sheet 64 = .ok (.istore 4, 2) := by decide +kernel
theorem dX8_sheet_66 : decode cX8_sheet 66 = .ok (.iload 4, 2) := by decide +kernel
theorem dX8_sheet_68 : decode cX8_sheet 68 = .ok (.bipush 24, 2) := by decide +kernel
theorem dX8_sheet_70 : decode cX8_sheet 70 = .ok (.if_icmp .ge 22, 3) := by decide +kernel
theorem dX8_sheet_73 : decode cX8_sheet 73 = .ok (.aload_n 0, 1) := by decide +kernel
theorem dX8_sheet_74 : decode cX8_sheet 74 = .ok (.getfield 58, 3) := by decide +kernel
theorem dX8_sheet_77 : decode cX8_sheet 77 = .ok (.bipush 24, 2) := by decide +kernel
theorem dX8_sheet_79 : decode cX8_sheet 79 = .ok (.iload_n 1, 1) := by decide +kernel
theorem dX8_sheet_80 : decode cX8_sheet 80 = .ok (.imul, 1) := by decide +kernel
theorem dX8_sheet_81 : decode cX8_sheet 81 = .ok (.iload 4, 2) := by decide +kernel
theorem dX8_sheet_83 : decode cX8_sheet 83 = .ok (.iadd, 1) := by decide +kernel
theorem dX8_sheet_84 : decode cX8_sheet 84 = .ok (.iconst 0, 1) := by decide +kernel
theorem dX8_sheet_85 : decode cX8_sheet 85 = .ok (.iastore, 1) := by decide +kernel
theorem dX8_sheet_86 : decode cX8_sheet 86 = .ok (.iinc 4 1, 3) := by decide +kernel
theorem dX8_sheet_89 : decode cX8_sheet 89 = .ok (.goto (-23), 3) := by decide +kernel
theorem dX8_sheet_92 : decode cX8_sheet 92 = .ok (.aload_n 0, 1) := by decide +kernel
theorem dX8_sheet_93 : decode cX8_sheet 93 = .ok (.getfield 55, 3) := by decide +kernel
theorem dX8_sheet_96 : decode cX8_sheet 96 = .ok (.iload_n 1, 1) := by decide +kernel
theorem dX8_sheet_97 : decode cX8_sheet 97 = .ok (.iaload, 1) := by decide +kernel
theorem dX8_sheet_98 : decode cX8_sheet 98 = .ok (.ireturn, 1) := by decide +kernel
theorem dX8_mark_0 : decode cX8_mark 0 = .ok (.iload_n 1, 1) := by decide +kernel
theorem dX8_mark_1 : decode cX8_mark 1 = .ok (.invokestatic 192, 3) := by decide +kernel
theorem dX8_mark_4 : decode cX8_mark 4 = .ok (.ifCond .ne 6, 3) := by decide +kernel
theorem dX8_mark_7 : decode cX8_mark 7 = .ok (.ldc 88, 2) := by decide +kernel
theorem dX8_mark_9 : decode cX8_mark 9 = .ok (.ireturn, 1) := by decide +kernel
theorem dX8_mark_10 : decode cX8_mark 10 = .ok (.aload_n 0, 1) := by decide +kernel
theorem dX8_mark_11 : decode cX8_mark 11 = .ok (.getfield 52, 3) := by decide +kernel
theorem dX8_mark_14 : decode cX8_mark 14 = .ok (.iload_n 1, 1) := by decide +kernel
theorem dX8_mark_15 : decode cX8_mark 15 = .ok (.iaload, 1) := by decide +kernel
theorem dX8_mark_16 : decode cX8_mark 16 = .ok (.ifCond .ge 6, 3) := by decide +kernel
theorem dX8_mark_19 : decode cX8_mark 19 = .ok (.ldc 195, 2) := by decide +kernel
theorem dX8_mark_21 : decode cX8_mark 21 = .ok (.ireturn, 1) := by decide +kernel
theorem dX8_mark_22 : decode cX8_mark 22 = .ok (.iload_n 2, 1) := by decide +kernel
theorem dX8_mark_23 : decode cX8_mark 23 = .ok (.iconst 0, 1) := by decide +kernel
theorem dX8_mark_24 : decode cX8_mark 24 = .ok (.aload_n 0, 1) := by decide +kernel
theorem dX8_mark_25 : decode cX8_mark 25 = .ok (.getfield 55, 3) := by decide +kernel
theorem dX8_mark_28 : decode cX8_mark 28 = .ok (.iload_n 1, 1) := by decide +kernel
theorem dX8_mark_29 : decode cX8_mark 29 = .ok (.iaload, 1) := by decide +kernel
theorem dX8_mark_30 : decode cX8_mark 30 = .ok (.iconst 1, 1) := by decide +kernel
theorem dX8_mark_31 : decode cX8_mark 31 = .ok (.isub, 1) := by decide +kernel
theorem dX8_mark_32 : decode cX8_mark 32 = .ok (.invokestatic 80, 3) := by decide +kernel
theorem dX8_mark_35 : decode cX8_mark 35 = .ok (.ifCond .ne 7, 3) := by decide +kernel
theorem dX8_mark_38 : decode cX8_mark 38 = .ok (.ldc_w 269, 3) := by decide +kernel
theorem dX8_mark_41 : decode cX8_mark 41 = .ok (.ireturn, 1) := by decide +kernel
theorem dX8_mark_42 : decode cX8_mark 42 = .ok (.aload_n 0, 1) := by decide +kernel
theorem dX8_mark_43 : decode cX8_mark 43 = .ok (.getfield 52, 3) := by decide +kernel
theorem dX8_mark_46 : decode cX8_mark 46 = .ok (.iload_n 1, 1) := by decide +kernel
theorem dX8_mark_47 : decode cX8_mark 47 = .ok (.iaload, 1) := by decide +kernel
theorem dX8_mark_48 : decode cX8_mark 48 = .ok (.ifCond .ne 12, 3) := by decide +kernel
theorem dX8_mark_51 : decode cX8_mark 51 = .ok (.iload_n 3, 1) := by decide +kernel
theorem dX8_mark_52 : decode cX8_mark 52 = .ok (.ldc 79, 2) := by decide +kernel
theorem dX8_mark_54 : decode cX8_mark 54 = .ok (.if_icmp .ne 6, 3) := by decide +kernel
theorem dX8_mark_57 : decode cX8_mark 57 = .ok (.ldc 141, 2) := by decide +kernel
theorem dX8_mark_59 : decode cX8_mark 59 = .ok (.ireturn, 1) := by decide +kernel
theorem dX8_mark_60 : decode cX8_mark 60 = .ok (.aload_n 0, 1) := by decide +kernel
theorem dX8_mark_61 : decode cX8_mark 61 = .ok (.getfield 52, 3) := by decide +kernel
theorem dX8_mark_64 : decode cX8_mark 64 = .ok (.iload_n 1, 1) := by decide +kernel
theorem dX8_mark_65 : decode cX8_mark 65 = .ok (.iaload, 1) := by decide +kernel
theorem dX8_mark_66 : decode cX8_mark 66 = .ok (.iconst 1, 1) := by decide +kernel
theorem dX8_mark_67 : decode cX8_mark 67 = .ok (.if_icmp .ne 25, 3) := by decide +kernel
theorem dX8_mark_70 : decode cX8_mark 70 = .ok (.iload_n 3, 1) := by decide +kernel
theorem dX8_mark_71 : decode cX8_mark 71 = .ok (.ldc 79, 2) := by decide +kernel
theorem dX8_mark_73 : decode cX8_mark 73 = .ok (.if_icmp .eq 19, 3) := by decide +kernel
theorem dX8_mark_76 : decode cX8_mark 76 = .ok (.iload_n 3, 1) := by decide +kernel
theorem dX8_mark_77 : decode cX8_mark 77 = .ok (.ldc_w 270, 3) := by decide +kernel
theorem dX8_mark_80 : decode cX8_mark 80 = .ok (.ldc_w 271, 3) := by decide +kernel
theorem dX8_mark_83 : decode cX8_mark 83 = .ok (.invokestatic 80, 3) := by decide +kernel
theorem dX8_mark_86 : decode cX8_mark 86 = .ok (.ifCond .ne 6, 3) := by decide +kernel
theorem dX8_mark_89 : decode cX8_mark 89 = .ok (.ldc 88, 2) := by decide +kernel
theorem dX8_mark_91 : decode cX8_mark 91 = .ok (.ireturn, 1) := by decide +kernel
theorem dX8_mark_92 : decode cX8_mark 92 = .ok (.aload_n 0, 1) := by decide +kernel
theorem dX8_mark_93 : decode cX8_mark 93 = .ok (.getfield 58, 3) := by decide +kernel
theorem dX8_mark_96 : decode cX8_mark 96 = .ok (.bipush 24, 2) := by decide +kernel
theorem dX8_mark_98 : decode cX8_mark 98 = .ok (.iload_n 1, 1) := by decide +kernel
theorem dX8_mark_99 : decode cX8_mark 99 = .ok (.imul, 1) := by decide +kernel
theorem dX8_mark_100 : decode cX8_mark 100 = .ok (.iload_n 2, 1) := by decide +kernel
theorem dX8_mark_101 : decode cX8_mark 101 = .ok (.iadd, 1) := by decide +kernel
theorem dX8_mark_102 : decode cX8_mark 102 = .ok (.aload_n 0, 1) := by decide +kernel
theorem dX8_mark_103 : decode cX8_mark 103 = .ok (.getfield 52, 3) := by decide +kernel
theorem dX8_mark_106 : decode cX8_mark 106 = .ok (.iload_n 1, 1) := by decide +kernel
theorem dX8_mark_107 : decode cX8_mark 107 = .ok (.iaload, 1) := by decide +kernel
theorem dX8_mark_108 : decode cX8_mark 108 = .ok (.ifCond .ne 8, 3) := by decide +kernel
theorem dX8_mark_111 : decode cX8_mark 111 = .ok (.iload_n 3, 1) := by decide +kernel
theorem dX8_mark_112 : decode cX8_mark 112 = .ok (.i2s, 1) := by decide +kernel
theorem dX8_mark_113 : decode cX8_mark 113 = .ok (.goto 4, 3) := by decide +kernel
theorem dX8_mark_116 : decode cX8_mark 116 = .ok (.iload_n 3, 1) := by decide +kernel
theorem dX8_mark_117 : decode cX8_mark 117 = .ok (.iastore, 1) := by decide +kernel
theorem dX8_mark_118 : decode cX8_mark 118 = .ok (.iconst 1, 1) := by decide +kernel
theorem dX8_mark_119 : decode cX8_mark 119 = .ok (.ireturn, 1) := by decide +kernel
theorem dX8_pour_0 : decode cX8_pour 0 = .ok (.iload_n 1, 1) := by decide +kernel
theorem dX8_pour_1 : decode cX8_pour 1 = .ok (.invokestatic 192, 3) := by decide +kernel
theorem dX8_pour_4 : decode cX8_pour 4 = .ok (.ifCond .ne 6, 3) := by decide +kernel
theorem dX8_pour_7 : decode cX8_pour 7 = .ok (.ldc 88, 2) := by decide +kernel
theorem dX8_pour_9 : decode cX8_pour 9 = .ok (.ireturn, 1) := by decide +kernel
theorem dX8_pour_10 : decode cX8_pour 10 = .ok (.aload_n 0, 1) := by decide +kernel
theorem dX8_pour_11 : decode cX8_pour 11 = .ok (.getfield 52, 3) := by decide +kernel
theorem dX8_pour_14 : decode cX8_pour 14 = .ok (.iload_n 1, 1) := by decide +kernel
theorem dX8_pour_15 : decode cX8_pour 15 = .ok (.iaload, 1) := by decide +kernel
theorem dX8_pour_16 : decode cX8_pour 16 = .ok (.ifCond .ge 6, 3) := by decide +kernel
theorem dX8_pour_19 : decode cX8_pour 19 = .ok (.ldc 195, 2) := by decide +kernel
theorem dX8_pour_21 : decode cX8_pour 21 = .ok (.ireturn, 1) := by decide +kernel
theorem dX8_pour_22 : decode cX8_pour 22 = .ok (.iconst 0, 1) := by decide +kernel
theorem dX8_pour_23 : decode cX8_pour 23 = .ok (.istore_n 2, 1) := by decide +kernel
theorem dX8_pour_24 : decode cX8_pour 24 = .ok (.iconst 0, 1) := by decide +kernel
theorem dX8_pour_25 : decode cX8_pour 25 = .ok (.istore_n 3, 1) := by decide +kernel
theorem dX8_pour_26 : decode cX8_pour 26 = .ok (.iload_n 3, 1) := by decide +kernel
theorem dX8_pour_27 : decode cX8_pour 27 = .ok (.aload_n 0, 1) := by decide +kernel
theorem dX8_pour_28 : decode cX8_pour 28 = .ok (.getfield 55, 3) := by decide +kernel
theorem dX8_pour_31 : decode cX8_pour 31 = .ok (.iload_n 1, 1) := by decide +kernel
theorem dX8_pour_32 : decode cX8_pour 32 = .ok (.iaload, 1) := by decide +kernel
theorem dX8_pour_33 : decode cX8_pour 33 = .ok (.if_icmp .ge 81, 3) := by decide +kernel
theorem dX8_pour_36 : decode cX8_pour 36 = .ok (.iload_n 3, 1) := by decide +kernel
theorem dX8_pour_37 : decode cX8_pour 37 = .ok (.bipush 8, 2) := by decide +kernel
theorem dX8_pour_39 : decode cX8_pour 39 = .ok (.if_icmp .ge 75, 3) := by decide +kernel
theorem dX8_pour_42 : decode cX8_pour 42 = .ok (.aload_n 0, 1) := by decide +kernel
theorem dX8_pour_43 : decode cX8_pour 43 = .ok (.getfield 58, 3) := by decide +kernel
theorem dX8_pour_46 : decode cX8_pour 46 = .ok (.bipush 24, 2) := by decide +kernel
theorem dX8_pour_48 : decode cX8_pour 48 = .ok (.iload_n 1, 1) := by decide +kernel
theorem dX8_pour_49 : decode cX8_pour 49 = .ok (.imul, 1) := by decide +kernel
theorem dX8_pour_50 : decode cX8_pour 50 = .ok (.iload_n 3, 1) := by decide +kernel
theorem dX8_pour_51 : decode cX8_pour 51 = .ok (.iadd, 1) := by decide +kernel
theorem dX8_pour_52 : decode cX8_pour 52 = .ok (.iaload, 1) := by decide +kernel
theorem dX8_pour_53 : decode cX8_pour 53 = .ok (.istore 4, 2) := by decide +kernel
theorem dX8_pour_55 : decode cX8_pour 55 = .ok (.iload 4, 2) := by decide +kernel
theorem dX8_pour_57 : decode cX8_pour 57 = .ok (.ldc 79, 2) := by decide +kernel
theorem dX8_pour_59 : decode cX8_pour 59 = .ok (.if_icmp .ne 15, 3) := by decide +kernel
theorem dX8_pour_62 : decode cX8_pour 62 = .ok (.aload_n 0, 1) := by decide +kernel
theorem dX8_pour_63 : decode cX8_pour 63 = .ok (.getfield 9, 3) := by decide +kernel
theorem dX8_pour_66 : decode cX8_pour 66 = .ok (.bipush 8, 2) := by decide +kernel
theorem dX8_pour_68 : decode cX8_pour 68 = .ok (.iload_n 3, 1) := by decide +kernel
theorem dX8_pour_69 : decode cX8_pour 69 = .ok (.iadd, 1) := by decide +kernel
theorem dX8_pour_70 : decode cX8_pour 70 = .ok (.iaload, 1) := by decide +kernel
theorem dX8_pour_71 : decode cX8_pour 71 = .ok (.goto 12, 3) := by decide +kernel
theorem dX8_pour_74 : decode cX8_pour 74 = .ok (.iload 4, 2) := by decide +kernel
theorem dX8_pour_76 : decode cX8_pour 76 = .ok (.bipush (-50), 2) := by decide +kernel
theorem dX8_pour_78 : decode cX8_pour 78 = .ok (.bipush 50, 2) := by decide +kernel
theorem dX8_pour_80 : decode cX8_pour 80 = .ok (.invokestatic 111, 3) := by decide +kernel
theorem dX8_pour_83 : decode cX8_pour 83 = .ok (.istore 5, 2) := by decide +kernel
theorem dX8_pour_85 : decode cX8_pour 85 = .ok (.iload_n 2, 1) := by decide +kernel
theorem dX8_pour_86 : decode cX8_pour 86 = .ok (.aload_n 0, 1) := by decide +kernel
theorem dX8_pour_87 : decode cX8_pour 87 = .ok (.bipush 8, 2) := by decide +kernel
theorem dX8_pour_89 : decode cX8_pour 89 = .ok (.iload_n 3, 1) := by decide +kernel
theorem dX8_pour_90 : decode cX8_pour 90 = .ok (.iadd, 1) := by decide +kernel
theorem dX8_pour_91 : decode cX8_pour 91 = .ok (.iload 5, 2) := by decide +kernel
theorem dX8_pour_93 : decode cX8_pour 93 = .ok (.invokevirtual 142, 3) := by decide +kernel
theorem dX8_pour_96 : decode cX8_pour 96 = .ok (.iload 5, 2) := by decide +kernel
theorem dX8_pour_98 : decode cX8_pour 98 = .ok (.if_icmp .ne 7, 3) := by decide +kernel
theorem dX8_pour_101 : decode cX8_pour 101 = .ok (.iconst 0, 1) := by decide +kernel
theorem dX8_pour_102 : decode cX8_pour 102 = .ok (.goto 4, 3) := by decide +kernel
theorem dX8_pour_105 : decode cX8_pour 105 = .ok (.iconst 1, 1) := by decide +kernel
theorem dX8_pour_106 : decode cX8_pour 106 = .ok (.iadd, 1) := by decide +kernel
theorem dX8_pour_107 : decode cX8_pour 107 = .ok (.istore_n 2, 1) := by decide +kernel
theorem dX8_pour_108 : decode cX8_pour 108 = .ok (.iinc 3 1, 3) := by decide +kernel
theorem dX8_pour_111 : decode cX8_pour 111 = .ok (.goto (-85), 3) := by decide +kernel
theorem dX8_pour_114 : decode cX8_pour 114 = .ok (.iload_n 2, 1) := by decide +kernel
theorem dX8_pour_115 : decode cX8_pour 115 = .ok (.ireturn, 1) := by decide +kernel
theorem dX8_reads_0 : decode cX8_reads 0 = .ok (.iload_n 1, 1) := by decide +kernel
theorem dX8_reads_1 : decode cX8_reads 1 = .ok (.invokestatic 192, 3) := by decide +kernel
theorem dX8_reads_4 : decode cX8_reads 4 = .ok (.ifCond .ne 6, 3) := by decide +kernel
theorem dX8_reads_7 : decode cX8_reads 7 = .ok (.ldc 88, 2) := by decide +kernel
theorem dX8_reads_9 : decode cX8_reads 9 = .ok (.ireturn, 1) := by decide +kernel
theorem dX8_reads_10 : decode cX8_reads 10 = .ok (.aload_n 0, 1) := by decide +kernel
theorem dX8_reads_11 : decode cX8_reads 11 = .ok (.getfield 52, 3) := by decide +kernel
theorem dX8_reads_14 : decode cX8_reads 14 = .ok (.iload_n 1, 1) := by decide +kernel
theorem dX8_reads_15 : decode cX8_reads 15 = .ok (.iaload, 1) := by decide +kernel
theorem dX8_reads_16 : decode cX8_reads 16 = .ok (.ifCond .ge 6, 3) := by decide +kernel
theorem dX8_reads_19 : decode cX8_reads 19 = .ok (.ldc 195, 2) := by decide +kernel
theorem dX8_reads_21 : decode cX8_reads 21 = .ok (.ireturn, 1) := by decide +kernel
theorem dX8_reads_22 : decode cX8_reads 22 = .ok (.iconst 0, 1) := by decide +kernel
theorem dX8_reads_23 : decode cX8_reads 23 = .ok (.istore_n 2, 1) := by decide +kernel
theorem dX8_reads_24 : decode cX8_reads 24 = .ok (.iload_n 2, 1) := by decide +kernel
theorem dX8_reads_25 : decode cX8_reads 25 = .ok (.aload_n 0, 1) := by decide +kernel
theorem dX8_reads_26 : decode cX8_reads 26 = .ok (.getfield 55, 3) := by decide +kernel
theorem dX8_reads_29 : decode cX8_reads 29 = .ok (.iload_n 1, 1) := by decide +kernel
theorem dX8_reads_30 : decode cX8_reads 30 = .ok (.iaload, 1) := by decide +kernel
theorem dX8_reads_31 : decode cX8_reads 31 = .ok (.if_icmp .ge 54, 3) := by decide +kernel
theorem dX8_reads_34 : decode cX8_reads 34 = .ok (.aload_n 0, 1) := by decide +kernel
theorem dX8_reads_35 : decode cX8_reads 35 = .ok (.getfield 58, 3) := by decide +kernel
theorem dX8_reads_38 : decode cX8_reads 38 = .ok (.bipush 24, 2) := by decide +kernel
theorem dX8_reads_40 : decode cX8_reads 40 = .ok (.iload_n 1, 1) := by decide +kernel
theorem dX8_reads_41 : decode cX8_reads 41 = .ok (.imul, 1) := by decide +kernel
theorem dX8_reads_42 : decode cX8_reads 42 = .ok (.iload_n 2, 1) := by decide +kernel
theorem dX8_reads_43 : decode cX8_reads 43 = .ok (.iadd, 1) := by decide +kernel
theorem dX8_reads_44 : decode cX8_reads 44 = .ok (.iaload, 1) := by decide +kernel
theorem dX8_reads_45 : decode cX8_reads 45 = .ok (.istore_n 3, 1) := by decide +kernel
theorem dX8_reads_46 : decode cX8_reads 46 = .ok (.iload_n 3, 1) := by decide +kernel
theorem dX8_reads_47 : decode cX8_reads 47 = .ok (.ldc 79, 2) := by decide +kernel
theorem dX8_reads_49 : decode cX8_reads 49 = .ok (.if_icmp .eq 30, 3) := by decide +kernel
theorem dX8_reads_52 : decode cX8_reads 52 = .ok (.aload_n 0, 1) := by decide +kernel
theorem dX8_reads_53 : decode cX8_reads 53 = .ok (.iload_n 2, 1) := by decide +kernel
theorem dX8_reads_54 : decode cX8_reads 54 = .ok (.invokevirtual 118, 3) := by decide +kernel
theorem dX8_reads_57 : decode cX8_reads 57 = .ok (.ifCond .eq 20, 3) := by decide +kernel
theorem dX8_reads_60 : decode cX8_reads 60 = .ok (.iload_n 3, 1) := by decide +kernel
theorem dX8_reads_61 : decode cX8_reads 61 = .ok (.aload_n 0, 1) := by decide +kernel
theorem dX8_reads_62 : decode cX8_reads 62 = .ok (.iload_n 2, 1) := by decide +kernel
theorem dX8_reads_63 : decode cX8_reads 63 = .ok (.invokevirtual 122, 3) := by decide +kernel
theorem dX8_reads_66 : decode cX8_reads 66 = .ok (.ifCond .eq 7, 3) := by decide +kernel
theorem dX8_reads_69 : decode cX8_reads 69 = .ok (.iconst 1, 1) := by decide +kernel
theorem dX8_reads_70 : decode cX8_reads 70 = .ok (.goto 4, 3) := by decide +kernel
theorem dX8_reads_73 : decode cX8_reads 73 = .ok (.iconst 0, 1) := by decide +kernel
theorem dX8_reads_74 : decode cX8_reads 74 = .ok (.if_icmp .eq 5, 3) := by decide +kernel
theorem dX8_reads_77 : decode cX8_reads 77 = .ok (.iload_n 2, 1) := by decide +kernel
theorem dX8_reads_78 : decode cX8_reads 78 = .ok (.ireturn, 1) := by decide +kernel
theorem dX8_reads_79 : decode cX8_reads 79 = .ok (.iinc 2 1, 3) := by decide +kernel
theorem dX8_reads_82 : decode cX8_reads 82 = .ok (.goto (-58), 3) := by decide +kernel
theorem dX8_reads_85 : decode cX8_reads 85 = .ok (.ldc 79, 2) := by decide +kernel
theorem dX8_reads_87 : decode cX8_reads 87 = .ok (.ireturn, 1) := by decide +kernel
theorem dX8_copy_0 : decode cX8_copy 0 = .ok (.iload_n 1, 1) := by decide +kernel
theorem dX8_copy_1 : decode cX8_copy 1 = .ok (.invokestatic 192, 3) := by decide +kernel
theorem dX8_copy_4 : decode cX8_copy 4 = .ok (.ifCond .eq 10, 3) := by decide +kernel
theorem dX8_copy_7 : decode cX8_copy 7 = .ok (.iload_n 3, 1) := by decide +kernel
theorem dX8_copy_8 : decode cX8_copy 8 = .ok (.invokestatic 192, 3) := by decide +kernel
theorem dX8_copy_11 : decode cX8_copy 11 = .ok (.ifCond .ne 6, 3) := by decide +kernel
theorem dX8_copy_14 : decode cX8_copy 14 = .ok (.ldc 88, 2) := by decide +kernel
theorem dX8_copy_16 : decode cX8_copy 16 = .ok (.ireturn, 1) := by decide +kernel
theorem dX8_copy_17 : decode cX8_copy 17 = .ok (.aload_n 0, 1) := by decide +kernel
theorem dX8_copy_18 : decode cX8_copy 18 = .ok (.getfield 52, 3) := by decide +kernel
theorem dX8_copy_21 : decode cX8_copy 21 = .ok (.iload_n 1, 1) := by decide +kernel
theorem dX8_copy_22 : decode cX8_copy 22 = .ok (.iaload, 1) := by decide +kernel
theorem dX8_copy_23 : decode cX8_copy 23 = .ok (.ifCond .lt 12, 3) := by decide +kernel
theorem dX8_copy_26 : decode cX8_copy 26 = .ok (.aload_n 0, 1) := by decide +kernel
theorem dX8_copy_27 : decode cX8_copy 27 = .ok (.getfield 52, 3) := by decide +kernel
theorem dX8_copy_30 : decode cX8_copy 30 = .ok (.iload_n 3, 1) := by decide +kernel
theorem dX8_copy_31 : decode cX8_copy 31 = .ok (.iaload, 1) := by decide +kernel
theorem dX8_copy_32 : decode cX8_copy 32 = .ok (.ifCond .ge 6, 3) := by decide +kernel
theorem dX8_copy_35 : decode cX8_copy 35 = .ok (.ldc 195, 2) := by decide +kernel
theorem dX8_copy_37 : decode cX8_copy 37 = .ok (.ireturn, 1) := by decide +kernel
theorem dX8_copy_38 : decode cX8_copy 38 = .ok (.aload_n 0, 1) := by decide +kernel
theorem dX8_copy_39 : decode cX8_copy 39 = .ok (.getfield 52, 3) := by decide +kernel
theorem dX8_copy_42 : decode cX8_copy 42 = .ok (.iload_n 1, 1) := by decide +kernel
theorem dX8_copy_43 : decode cX8_copy 43 = .ok (.iaload, 1) := by decide +kernel
theorem dX8_copy_44 : decode cX8_copy 44 = .ok (.aload_n 0, 1) := by decide +kernel
theorem dX8_copy_45 : decode cX8_copy 45 = .ok (.getfield 52, 3) := by decide +kernel
theorem dX8_copy_48 : decode cX8_copy 48 = .ok (.iload_n 3, 1) := by decide +kernel
theorem dX8_copy_49 : decode cX8_copy 49 = .ok (.iaload, 1) := by decide +kernel
theorem dX8_copy_50 : decode cX8_copy 50 = .ok (.if_icmp .eq 6, 3) := by decide +kernel
theorem dX8_copy_53 : decode cX8_copy 53 = .ok (.ldc 141, 2) := by decide +kernel
theorem dX8_copy_55 : decode cX8_copy 55 = .ok (.ireturn, 1) := by decide +kernel
theorem dX8_copy_56 : decode cX8_copy 56 = .ok (.iload_n 2, 1) := by decide +kernel
theorem dX8_copy_57 : decode cX8_copy 57 = .ok (.ifCond .lt 40, 3) := by decide +kernel
theorem dX8_copy_60 : decode cX8_copy 60 = .ok (.iload 4, 2) := by decide +kernel
theorem dX8_copy_62 : decode cX8_copy 62 = .ok (.ifCond .lt 35, 3) := by decide +kernel
theorem dX8_copy_65 : decode cX8_copy 65 = .ok (.iload 5, 2) := by decide +kernel
theorem dX8_copy_67 : decode cX8_copy 67 = .ok (.ifCond .lt 30, 3) := by decide +kernel
theorem dX8_copy_70 : decode cX8_copy 70 = .ok (.iload_n 2, 1) := by decide +kernel
theorem dX8_copy_71 : decode cX8_copy 71 = .ok (.aload_n 0, 1) := by decide +kernel
theorem dX8_copy_72 : decode cX8_copy 72 = .ok (.getfield 55, 3) := by decide +kernel
theorem dX8_copy_75 : decode cX8_copy 75 = .ok (.iload_n 1, 1) := by decide +kernel
theorem dX8_copy_76 : decode cX8_copy 76 = .ok (.iaload, 1) := by decide +kernel
theorem dX8_copy_77 : decode cX8_copy 77 = .ok (.iload 5, 2) := by decide +kernel
theorem dX8_copy_79 : decode cX8_copy 79 = .ok (.isub, 1) := by decide +kernel
theorem dX8_copy_80 : decode cX8_copy 80 = .ok (.if_icmp .gt 17, 3) := by decide +kernel
theorem dX8_copy_83 : decode cX8_copy 83 = .ok (.iload 4, 2) := by decide +kernel
theorem dX8_copy_85 : decode cX8_copy 85 = .ok (.aload_n 0, 1) := by decide +kernel
theorem dX8_copy_86 : decode cX8_copy 86 = .ok (.getfield 55, 3) := by decide +kernel
theorem dX8_copy_89 : decode cX8_copy 89 = .ok (.iload_n 3, 1) := by decide +kernel
theorem dX8_copy_90 : decode cX8_copy 90 = .ok (.iaload, 1) := by decide +kernel
theorem dX8_copy_91 : decode cX8_copy 91 = .ok (.iload 5, 2) := by decide +kernel
theorem dX8_copy_93 : decode cX8_copy 93 = .ok (.isub, 1) := by decide +kernel
theorem dX8_copy_94 : decode cX8_copy 94 = .ok (.if_icmp .le 7, 3) := by decide +kernel
theorem dX8_copy_97 : decode cX8_copy 97 = .ok (.ldc_w 269, 3) := by decide +kernel
theorem dX8_copy_100 : decode cX8_copy 100 = .ok (.ireturn, 1) := by decide +kernel
theorem dX8_copy_101 : decode cX8_copy 101 = .ok (.iconst 0, 1) := by decide +kernel
theorem dX8_copy_102 : decode cX8_copy 102 = .ok (.istore 6, 2) := by decide +kernel
theorem dX8_copy_104 : decode cX8_copy 104 = .ok (.iload 6, 2) := by decide +kernel
theorem dX8_copy_106 : decode cX8_copy 106 = .ok (.iload 5, 2) := by decide +kernel
theorem dX8_copy_108 : decode cX8_copy 108 = .ok (.if_icmp .ge 30, 3) := by decide +kernel
theorem dX8_copy_111 : decode cX8_copy 111 = .ok (.aload_n 0, 1) := by decide +kernel
theorem dX8_copy_112 : decode cX8_copy 112 = .ok (.getfield 73, 3) := by decide +kernel
theorem dX8_copy_115 : decode cX8_copy 115 = .ok (.iload 6, 2) := by decide +kernel
theorem dX8_copy_117 : decode cX8_copy 117 = .ok (.aload_n 0, 1) := by decide +kernel
theorem dX8_copy_118 : decode cX8_copy 118 = .ok (.getfield 58, 3) := by decide +kernel
theorem dX8_copy_121 : decode cX8_copy 121 = .ok (.bipush 24, 2) := by decide +kernel
theorem dX8_copy_123 : decode cX8_copy 123 = .ok (.iload_n 1, 1) := by decide +kernel
theorem dX8_copy_124 : decode cX8_copy 124 = .ok (.imul, 1) := by decide +kernel
theorem dX8_copy_125 : decode cX8_copy 125 = .ok (.iload_n 2, 1) := by decide +kernel
theorem dX8_copy_126 : decode cX8_copy 126 = .ok (.iadd, 1) := by decide +kernel
theorem dX8_copy_127 : decode cX8_copy 127 = .ok (.iload 6, 2) := by decide +kernel
theorem dX8_copy_129 : decode cX8_copy 129 = .ok (.iadd, 1) := by decide +kernel
theorem dX8_copy_130 : decode cX8_copy 130 = .ok (.iaload, 1) := by decide +kernel
theorem dX8_copy_131 : decode cX8_copy 131 = .ok (.iastore, 1) := by decide +kernel
theorem dX8_copy_132 : decode cX8_copy 132 = .ok (.iinc 6 1, 3) := by decide +kernel
theorem dX8_copy_135 : decode cX8_copy 135 = .ok (.goto (-31), 3) := by decide +kernel
theorem dX8_copy_138 : decode cX8_copy 138 = .ok (.iconst 0, 1) := by decide +kernel
theorem dX8_copy_139 : decode cX8_copy 139 = .ok (.istore 6, 2) := by decide +kernel
theorem dX8_copy_141 : decode cX8_copy 141 = .ok (.iload 6, 2) := by decide +kernel
theorem dX8_copy_143 : decode cX8_copy 143 = .ok (.iload 5, 2) := by decide +kernel
theorem dX8_copy_145 : decode cX8_copy 145 = .ok (.if_icmp .ge 31, 3) := by decide +kernel
theorem dX8_copy_148 : decode cX8_copy 148 = .ok (.aload_n 0, 1) := by decide +kernel
theorem dX8_copy_149 : decode cX8_copy 149 = .ok (.getfield 58, 3) := by decide +kernel
theorem dX8_copy_152 : decode cX8_copy 152 = .ok (.bipush 24, 2) := by decide +kernel
theorem dX8_copy_154 : decode cX8_copy 154 = .ok (.iload_n 3, 1) := by decide +kernel
theorem dX8_copy_155 : decode cX8_copy 155 = .ok (.imul, 1) := by decide +kernel
theorem dX8_copy_156 : decode cX8_copy 156 = .ok (.iload 4, 2) := by decide +kernel
theorem dX8_copy_158 : decode cX8_copy 158 = .ok (.iadd, 1) := by decide +kernel
theorem dX8_copy_159 : decode cX8_copy 159 = .ok (.iload 6, 2) := by decide +kernel
theorem dX8_copy_161 : decode cX8_copy 161 = .ok (.iadd, 1) := by decide +kernel
theorem dX8_copy_162 : decode cX8_copy 162 = .ok (.aload_n 0, 1) := by decide +kernel
theorem dX8_copy_163 : decode cX8_copy 163 = .ok (.getfield 73, 3) := by decide +kernel
theorem dX8_copy_166 : decode cX8_copy 166 = .ok (.iload 6, 2) := by decide +kernel
theorem dX8_copy_168 : decode cX8_copy 168 = .ok (.iaload, 1) := by decide +kernel
theorem dX8_copy_169 : decode cX8_copy 169 = .ok (.iastore, 1) := by decide +kernel
theorem dX8_copy_170 : decode cX8_copy 170 = .ok (.iinc 6 1, 3) := by decide +kernel
theorem dX8_copy_173 : decode cX8_copy 173 = .ok (.goto (-32), 3) := by decide +kernel
theorem dX8_copy_176 : decode cX8_copy 176 = .ok (.iload 5, 2) := by decide +kernel
theorem dX8_copy_178 : decode cX8_copy 178 = .ok (.ireturn, 1) := by decide +kernel
theorem dX8_lay_0 : decode cX8_lay 0 = .ok (.iload_n 1, 1) := by decide +kernel
theorem dX8_lay_1 : decode cX8_lay 1 = .ok (.invokestatic 272, 3) := by decide +kernel
theorem dX8_lay_4 : decode cX8_lay 4 = .ok (.ifCond .eq 37, 3) := by decide +kernel
theorem dX8_lay_7 : decode cX8_lay 7 = .ok (.iload_n 2, 1) := by decide +kernel
theorem dX8_lay_8 : decode cX8_lay 8 = .ok (.iconst 0, 1) := by decide +kernel
theorem dX8_lay_9 : decode cX8_lay 9 = .ok (.iconst 3, 1) := by decide +kernel
theorem dX8_lay_10 : decode cX8_lay 10 = .ok (.invokestatic 80, 3) := by decide +kernel
theorem dX8_lay_13 : decode cX8_lay 13 = .ok (.ifCond .eq 28, 3) := by decide +kernel
theorem dX8_lay_16 : decode cX8_lay 16 = .ok (.iload_n 2, 1) := by decide +kernel
theorem dX8_lay_17 : decode cX8_lay 17 = .ok (.iconst 1, 1) := by decide +kernel
theorem dX8_lay_18 : decode cX8_lay 18 = .ok (.if_icmp .ne 11, 3) := by decide +kernel
theorem dX8_lay_21 : decode cX8_lay 21 = .ok (.aload_n 0, 1) := by decide +kernel
theorem dX8_lay_22 : decode cX8_lay 22 = .ok (.iload_n 3, 1) := by decide +kernel
theorem dX8_lay_23 : decode cX8_lay 23 = .ok (.invokevirtual 118, 3) := by decide +kernel
theorem dX8_lay_26 : decode cX8_lay 26 = .ok (.ifCond .eq 15, 3) := by decide +kernel
theorem dX8_lay_29 : decode cX8_lay 29 = .ok (.iload_n 2, 1) := by decide +kernel
theorem dX8_lay_30 : decode cX8_lay 30 = .ok (.iconst 2, 1) := by decide +kernel
theorem dX8_lay_31 : decode cX8_lay 31 = .ok (.if_icmp .ne 13, 3) := by decide +kernel
theorem dX8_lay_34 : decode cX8_lay 34 = .ok (.iload_n 3, 1) := by decide +kernel
theorem dX8_lay_35 : decode cX8_lay 35 = .ok (.invokestatic 192, 3) := by decide +kernel
theorem dX8_lay_38 : decode cX8_lay 38 = .ok (.ifCond .ne 6, 3) := by decide +kernel
theorem dX8_lay_41 : decode cX8_lay 41 = .ok (.ldc 88, 2) := by decide +kernel
theorem dX8_lay_43 : decode cX8_lay 43 = .ok (.ireturn, 1) := by decide +kernel
theorem dX8_lay_44 : decode cX8_lay 44 = .ok (.iload_n 2, 1) := by decide +kernel
theorem dX8_lay_45 : decode cX8_lay 45 = .ok (.iconst 2, 1) := by decide +kernel
theorem dX8_lay_46 : decode cX8_lay 46 = .ok (.if_icmp .ne 15, 3) := by decide +kernel
theorem dX8_lay_49 : decode cX8_lay 49 = .ok (.aload_n 0, 1) := by decide +kernel
theorem dX8_lay_50 : decode cX8_lay 50 = .ok (.getfield 52, 3) := by decide +kernel
theorem dX8_lay_53 : decode cX8_lay 53 = .ok (.iload_n 3, 1) := by decide +kernel
theorem dX8_lay_54 : decode cX8_lay 54 = .ok (.iaload, 1) := by decide +kernel
theorem dX8_lay_55 : decode cX8_lay 55 = .ok (.ifCond .ge 6, 3) := by decide +kernel
theorem dX8_lay_58 : decode cX8_lay 58 = .ok (.ldc 195, 2) := by decide +kernel
theorem dX8_lay_60 : decode cX8_lay 60 = .ok (.ireturn, 1) := by decide +kernel
theorem dX8_lay_61 : decode cX8_lay 61 = .ok (.aload_n 0, 1) := by decide +kernel
theorem dX8_lay_62 : decode cX8_lay 62 = .ok (.getfield 61, 3) := by decide +kernel
theorem dX8_lay_65 : decode cX8_lay 65 = .ok (.iload_n 1, 1) := by decide +kernel
theorem dX8_lay_66 : decode cX8_lay 66 = .ok (.iaload, 1) := by decide +kernel
theorem dX8_lay_67 : decode cX8_lay 67 = .ok (.istore 4, 2) := by decide +kernel
theorem dX8_lay_69 : decode cX8_lay 69 = .ok (.aload_n 0, 1) := by decide +kernel
theorem dX8_lay_70 : decode cX8_lay 70 = .ok (.getfield 61, 3) := by decide +kernel
theorem dX8_lay_73 : decode cX8_lay 73 = .ok (.iload_n 1, 1) := by decide +kernel
theorem dX8_lay_74 : decode cX8_lay 74 = .ok (.iload_n 2, 1) := by decide +kernel
theorem dX8_lay_75 : decode cX8_lay 75 = .ok (.iastore, 1) := by decide +kernel
theorem dX8_lay_76 : decode cX8_lay 76 = .ok (.aload_n 0, 1) := by decide +kernel
theorem dX8_lay_77 : decode cX8_lay 77 = .ok (.getfield 64, 3) := by decide +kernel
theorem dX8_lay_80 : decode cX8_lay 80 = .ok (.iload_n 1, 1) := by decide +kernel
theorem dX8_lay_81 : decode cX8_lay 81 = .ok (.iload_n 2, 1) := by decide +kernel
theorem dX8_lay_82 : decode cX8_lay 82 = .ok (.iconst 1, 1) := by decide +kernel
theorem dX8_lay_83 : decode cX8_lay 83 = .ok (.if_icmp .ne 12, 3) := by decide +kernel
theorem dX8_lay_86 : decode cX8_lay 86 = .ok (.aload_n 0, 1) := by decide +kernel
theorem dX8_lay_87 : decode cX8_lay 87 = .ok (.iload_n 3, 1) := by decide +kernel
theorem dX8_lay_88 : decode cX8_lay 88 = .ok (.iconst 0, 1) := by decide +kernel
theorem dX8_lay_89 : decode cX8_lay 89 = .ok (.invokevirtual 94, 3) := by decide +kernel
theorem dX8_lay_92 : decode cX8_lay 92 = .ok (.goto 18, 3) := by decide +kernel
theorem dX8_lay_95 : decode cX8_lay 95 = .ok (.iload_n 2, 1) := by decide +kernel
theorem dX8_lay_96 : decode cX8_lay 96 = .ok (.iconst 2, 1) := by decide +kernel
theorem dX8_lay_97 : decode cX8_lay 97 = .ok (.if_icmp .ne 12, 3) := by decide +kernel
theorem dX8_lay_100 : decode cX8_lay 100 = .ok (.aload_n 0, 1) := by decide +kernel
theorem dX8_lay_101 : decode cX8_lay 101 = .ok (.getfield 55, 3) := by decide +kernel
theorem dX8_lay_104 : decode cX8_lay 104 = .ok (.iload_n 3, 1) := by decide +kernel
theorem dX8_lay_105 : decode cX8_lay 105 = .ok (.iaload, 1) := by decide +kernel
theorem dX8_lay_106 : decode cX8_lay 106 = .ok (.goto 4, 3) := by decide +kernel
theorem dX8_lay_109 : decode cX8_lay 109 = .ok (.iload_n 3, 1) := by decide +kernel
theorem dX8_lay_110 : decode cX8_lay 110 = .ok (.iastore, 1) := by decide +kernel
theorem dX8_lay_111 : decode cX8_lay 111 = .ok (.aload_n 0, 1) := by decide +kernel
theorem dX8_lay_112 : decode cX8_lay 112 = .ok (.getfield 67, 3) := by decide +kernel
theorem dX8_lay_115 : decode cX8_lay 115 = .ok (.iload_n 1, 1) := by decide +kernel
theorem dX8_lay_116 : decode cX8_lay 116 = .ok (.iload_n 2, 1) := by decide +kernel
theorem dX8_lay_117 : decode cX8_lay 117 = .ok (.iconst 1, 1) := by decide +kernel
theorem dX8_lay_118 : decode cX8_lay 118 = .ok (.if_icmp .ne 11, 3) := by decide +kernel
theorem dX8_lay_121 : decode cX8_lay 121 = .ok (.aload_n 0, 1) := by decide +kernel
theorem dX8_lay_122 : decode cX8_lay 122 = .ok (.iload_n 3, 1) := by decide +kernel
theorem dX8_lay_123 : decode cX8_lay 123 = .ok (.invokevirtual 128, 3) := by decide +kernel
theorem dX8_lay_126 : decode cX8_lay 126 = .ok (.goto 4, 3) := by decide +kernel
theorem dX8_lay_129 : decode cX8_lay 129 = .ok (.iconst 0, 1) := by decide +kernel
theorem dX8_lay_130 : decode cX8_lay 130 = .ok (.iastore, 1) := by decide +kernel
theorem dX8_lay_131 : decode cX8_lay 131 = .ok (.iconst 0, 1) := by decide +kernel
theorem dX8_lay_132 : decode cX8_lay 132 = .ok (.istore 5, 2) := by decide +kernel
theorem dX8_lay_134 : decode cX8_lay 134 = .ok (.iload 5, 2) := by decide +kernel
theorem dX8_lay_136 : decode cX8_lay 136 = .ok (.bipush 24, 2) := by decide +kernel
theorem dX8_lay_138 : decode cX8_lay 138 = .ok (.if_icmp .ge 38, 3) := by decide +kernel
theorem dX8_lay_141 : decode cX8_lay 141 = .ok (.iload_n 2, 1) := by decide +kernel
theorem dX8_lay_142 : decode cX8_lay 142 = .ok (.iconst 2, 1) := by decide +kernel
theorem dX8_lay_143 : decode cX8_lay 143 = .ok (.if_icmp .ne 33, 3) := by decide +kernel
theorem dX8_lay_146 : decode cX8_lay 146 = .ok (.aload_n 0, 1) := by decide +kernel
theorem dX8_lay_147 : decode cX8_lay 147 = .ok (.getfield 70, 3) := by decide +kernel
theorem dX8_lay_150 : decode cX8_lay 150 = .ok (.bipush 24, 2) := by decide +kernel
theorem dX8_lay_152 : decode cX8_lay 152 = .ok (.iload_n 1, 1) := by decide +kernel
theorem dX8_lay_153 : decode cX8_lay 153 = .ok (.imul, 1) := by decide +kernel
theorem dX8_lay_154 : decode cX8_lay 154 = .ok (.iload 5, 2) := by decide +kernel
theorem dX8_lay_156 : decode cX8_lay 156 = .ok (.iadd, 1) := by decide +kernel
theorem dX8_lay_157 : decode cX8_lay 157 = .ok (.aload_n 0, 1) := by decide +kernel
theorem dX8_lay_158 : decode cX8_lay 158 = .ok (.getfield 58, 3) := by decide +kernel
theorem dX8_lay_161 : decode cX8_lay 161 = .ok (.bipush 24, 2) := by decide +kernel
theorem dX8_lay_163 : decode cX8_lay 163 = .ok (.iload_n 3, 1) := by decide +kernel
theorem dX8_lay_164 : decode cX8_lay 164 = .ok (.imul, 1) := by decide +kernel
theorem dX8_lay_165 : decode cX8_lay 165 = .ok (.iload 5, 2) := by decide +kernel
theorem dX8_lay_167 : decode cX8_lay 167 = .ok (.iadd, 1) := by decide +kernel
theorem dX8_lay_168 : decode cX8_lay 168 = .ok (.iaload, 1) := by decide +kernel
theorem dX8_lay_169 : decode cX8_lay 169 = .ok (.iastore, 1) := by decide +kernel
theorem dX8_lay_170 : decode cX8_lay 170 = .ok (.iinc 5 1, 3) := by decide +kernel
theorem dX8_lay_173 : decode cX8_lay 173 = .ok (.goto (-39), 3) := by decide +kernel
theorem dX8_lay_176 : decode cX8_lay 176 = .ok (.iload 4, 2) := by decide +kernel
theorem dX8_lay_178 : decode cX8_lay 178 = .ok (.ireturn, 1) := by decide +kernel
theorem dX8_ask_0 : decode cX8_ask 0 = .ok (.iload_n 1, 1) := by decide +kernel
theorem dX8_ask_1 : decode cX8_ask 1 = .ok (.invokestatic 272, 3) := by decide +kernel
theorem dX8_ask_4 : decode cX8_ask 4 = .ok (.ifCond .eq 12, 3) := by decide +kernel
theorem dX8_ask_7 : decode cX8_ask 7 = .ok (.iload_n 2, 1) := by decide +kernel
theorem dX8_ask_8 : decode cX8_ask 8 = .ok (.iconst 0, 1) := by decide +kernel
theorem dX8_ask_9 : decode cX8_ask 9 = .ok (.iconst 5, 1) := by decide +kernel
theorem dX8_ask_10 : decode cX8_ask 10 = .ok (.invokestatic 80, 3) := by decide +kernel
theorem dX8_ask_13 : decode cX8_ask 13 = .ok (.ifCond .ne 6, 3) := by decide +kernel
theorem dX8_ask_16 : decode cX8_ask 16 = .ok (.ldc 88, 2) := by decide +kernel
theorem dX8_ask_18 : decode cX8_ask 18 = .ok (.ireturn, 1) := by decide +kernel
theorem dX8_ask_19 : decode cX8_ask 19 = .ok (.aload_n 0, 1) := by decide +kernel
theorem dX8_ask_20 : decode cX8_ask 20 = .ok (.getfield 61, 3) := by decide +kernel
theorem dX8_ask_23 : decode cX8_ask 23 = .ok (.iload_n 1, 1) := by decide +kernel
theorem dX8_ask_24 : decode cX8_ask 24 = .ok (.iaload, 1) := by decide +kernel
theorem dX8_ask_25 : decode cX8_ask 25 = .ok (.ifCond .ne 6, 3) := by decide +kernel
theorem dX8_ask_28 : decode cX8_ask 28 = .ok (.ldc 195, 2) := by decide +kernel
theorem dX8_ask_30 : decode cX8_ask 30 = .ok (.ireturn, 1) := by decide +kernel
theorem dX8_ask_31 : decode cX8_ask 31 = .ok (.aload_n 0, 1) := by decide +kernel
theorem dX8_ask_32 : decode cX8_ask 32 = .ok (.getfield 61, 3) := by decide +kernel
theorem dX8_ask_35 : decode cX8_ask 35 = .ok (.iload_n 1, 1) := by decide +kernel
theorem dX8_ask_36 : decode cX8_ask 36 = .ok (.iaload, 1) := by decide +kernel
theorem dX8_ask_37 : decode cX8_ask 37 = .ok (.iconst 1, 1) := by decide +kernel
theorem dX8_ask_38 : decode cX8_ask 38 = .ok (.if_icmp .ne 25, 3) := by decide +kernel
theorem dX8_ask_41 : decode cX8_ask 41 = .ok (.aload_n 0, 1) := by decide +kernel
theorem dX8_ask_42 : decode cX8_ask 42 = .ok (.getfield 64, 3) := by decide +kernel
theorem dX8_ask_45 : decode cX8_ask 45 = .ok (.iload_n 1, 1) := by decide +kernel
theorem dX8_ask_46 : decode cX8_ask 46 = .ok (.iaload, 1) := by decide +kernel
theorem dX8_ask_47 : decode cX8_ask 47 = .ok (.iload_n 2, 1) := by decide +kernel
theorem dX8_ask_48 : decode cX8_ask 48 = .ok (.invokestatic 137, 3) := by decide +kernel
theorem dX8_ask_51 : decode cX8_ask 51 = .ok (.ifCond .eq 12, 3) := by decide +kernel
theorem dX8_ask_54 : decode cX8_ask 54 = .ok (.aload_n 0, 1) := by decide +kernel
theorem dX8_ask_55 : decode cX8_ask 55 = .ok (.getfield 67, 3) := by decide +kernel
theorem dX8_ask_58 : decode cX8_ask 58 = .ok (.iload_n 1, 1) := by decide +kernel
theorem dX8_ask_59 : decode cX8_ask 59 = .ok (.iaload, 1) := by decide +kernel
theorem dX8_ask_60 : decode cX8_ask 60 = .ok (.goto 5, 3) := by decide +kernel
theorem dX8_ask_63 : decode cX8_ask 63 = .ok (.ldc 141, 2) := by decide +kernel
theorem dX8_ask_65 : decode cX8_ask 65 = .ok (.ireturn, 1) := by decide +kernel
theorem dX8_item_0 : decode cX8_item 0 = .ok (.iload_n 1, 1) := by decide +kernel
theorem dX8_item_1 : decode cX8_item 1 = .ok (.invokestatic 272, 3) := by decide +kernel
theorem dX8_item_4 : decode cX8_item 4 = .ok (.ifCond .ne 6, 3) := by decide +kernel
theorem dX8_item_7 : decode cX8_item 7 = .ok (.ldc 88, 2) := by decide +kernel
theorem dX8_item_9 : decode cX8_item 9 = .ok (.ireturn, 1) := by decide +kernel
theorem dX8_item_10 : decode cX8_item 10 = .ok (.aload_n 0, 1) := by decide +kernel
theorem dX8_item_11 : decode cX8_item 11 = .ok (.getfield 61, 3) := by decide +kernel
theorem dX8_item_14 : decode cX8_item 14 = .ok (.iload_n 1, 1) := by decide +kernel
theorem dX8_item_15 : decode cX8_item 15 = .ok (.iaload, 1) := by decide +kernel
theorem dX8_item_16 : decode cX8_item 16 = .ok (.ifCond .ne 6, 3) := by decide +kernel
theorem dX8_item_19 : decode cX8_item 19 = .ok (.ldc 195, 2) := by decide +kernel
theorem dX8_item_21 : decode cX8_item 21 = .ok (.ireturn, 1) := by decide +kernel
theorem dX8_item_22 : decode cX8_item 22 = .ok (.aload_n 0, 1) := by decide +kernel
theorem dX8_item_23 : decode cX8_item 23 = .ok (.getfield 61, 3) := by decide +kernel
theorem dX8_item_26 : decode cX8_item 26 = .ok (.iload_n 1, 1) := by decide +kernel
theorem dX8_item_27 : decode cX8_item 27 = .ok (.iaload, 1) := by decide +kernel
theorem dX8_item_28 : decode cX8_item 28 = .ok (.iconst 2, 1) := by decide +kernel
theorem dX8_item_29 : decode cX8_item 29 = .ok (.if_icmp .eq 6, 3) := by decide +kernel
theorem dX8_item_32 : decode cX8_item 32 = .ok (.ldc 141, 2) := by decide +kernel
theorem dX8_item_34 : decode cX8_item 34 = .ok (.ireturn, 1) := by decide +kernel
theorem dX8_item_35 : decode cX8_item 35 = .ok (.iload_n 2, 1) := by decide +kernel
theorem dX8_item_36 : decode cX8_item 36 = .ok (.iconst 0, 1) := by decide +kernel
theorem dX8_item_37 : decode cX8_item 37 = .ok (.aload_n 0, 1) := by decide +kernel
theorem dX8_item_38 : decode cX8_item 38 = .ok (.getfield 64, 3) := by decide +kernel
theorem dX8_item_41 : decode cX8_item 41 = .ok (.iload_n 1, 1) := by decide +kernel
theorem dX8_item_42 : decode cX8_item 42 = .ok (.iaload, 1) := by decide +kernel
theorem dX8_item_43 : decode cX8_item 43 = .ok (.iconst 1, 1) := by decide +kernel
theorem dX8_item_44 : decode cX8_item 44 = .ok (.isub, 1) := by decide +kernel
theorem dX8_item_45 : decode cX8_item 45 = .ok (.invokestatic 80, 3) := by decide +kernel
theorem dX8_item_48 : decode cX8_item 48 = .ok (.ifCond .ne 7, 3) := by decide +kernel
theorem dX8_item_51 : decode cX8_item 51 = .ok (.ldc_w 269, 3) := by decide +kernel
theorem dX8_item_54 : decode cX8_item 54 = .ok (.ireturn, 1) := by decide +kernel
theorem dX8_item_55 : decode cX8_item 55 = .ok (.aload_n 0, 1) := by decide +kernel
theorem dX8_item_56 : decode cX8_item 56 = .ok (.getfield 70, 3) := by decide +kernel
theorem dX8_item_59 : decode cX8_item 59 = .ok (.bipush 24, 2) := by decide +kernel
theorem dX8_item_61 : decode cX8_item 61 = .ok (.iload_n 1, 1) := by decide +kernel
theorem dX8_item_62 : decode cX8_item 62 = .ok (.imul, 1) := by decide +kernel
theorem dX8_item_63 : decode cX8_item 63 = .ok (.iload_n 2, 1) := by decide +kernel
theorem dX8_item_64 : decode cX8_item 64 = .ok (.iadd, 1) := by decide +kernel
theorem dX8_item_65 : decode cX8_item 65 = .ok (.iaload, 1) := by decide +kernel
theorem dX8_item_66 : decode cX8_item 66 = .ok (.istore_n 3, 1) := by decide +kernel
theorem dX8_item_67 : decode cX8_item 67 = .ok (.iload_n 3, 1) := by decide +kernel
theorem dX8_item_68 : decode cX8_item 68 = .ok (.ldc 79, 2) := by decide +kernel
theorem dX8_item_70 : decode cX8_item 70 = .ok (.if_icmp .ne 8, 3) := by decide +kernel
theorem dX8_item_73 : decode cX8_item 73 = .ok (.ldc 141, 2) := by decide +kernel
theorem dX8_item_75 : decode cX8_item 75 = .ok (.goto 4, 3) := by decide +kernel
theorem dX8_item_78 : decode cX8_item 78 = .ok (.iload_n 3, 1) := by decide +kernel
theorem dX8_item_79 : decode cX8_item 79 = .ok (.ireturn, 1) := by decide +kernel
theorem dX8_rest_0 : decode cX8_rest 0 = .ok (.iload_n 1, 1) := by decide +kernel
theorem dX8_rest_1 : decode cX8_rest 1 = .ok (.invokestatic 272, 3) := by decide +kernel
theorem dX8_rest_4 : decode cX8_rest 4 = .ok (.ifCond .ne 6, 3) := by decide +kernel
theorem dX8_rest_7 : decode cX8_rest 7 = .ok (.ldc 88, 2) := by decide +kernel
theorem dX8_rest_9 : decode cX8_rest 9 = .ok (.ireturn, 1) := by decide +kernel
theorem dX8_rest_10 : decode cX8_rest 10 = .ok (.aload_n 0, 1) := by decide +kernel
theorem dX8_rest_11 : decode cX8_rest 11 = .ok (.getfield 61, 3) := by decide +kernel
theorem dX8_rest_14 : decode cX8_rest 14 = .ok (.iload_n 1, 1) := by decide +kernel
theorem dX8_rest_15 : decode cX8_rest 15 = .ok (.iaload, 1) := by decide +kernel
theorem dX8_rest_16 : decode cX8_rest 16 = .ok (.ifCond .ne 6, 3) := by decide +kernel
theorem dX8_rest_19 : decode cX8_rest 19 = .ok (.ldc 195, 2) := by decide +kernel
theorem dX8_rest_21 : decode cX8_rest 21 = .ok (.ireturn, 1) := by decide +kernel
theorem dX8_rest_22 : decode cX8_rest 22 = .ok (.aload_n 0, 1) := by decide +kernel
theorem dX8_rest_23 : decode cX8_rest 23 = .ok (.getfield 61, 3) := by decide +kernel
theorem dX8_rest_26 : decode cX8_rest 26 = .ok (.iload_n 1, 1) := by decide +kernel
theorem dX8_rest_27 : decode cX8_rest 27 = .ok (.iaload, 1) := by decide +kernel
theorem dX8_rest_28 : decode cX8_rest 28 = .ok (.iconst 3, 1) := by decide +kernel
theorem dX8_rest_29 : decode cX8_rest 29 = .ok (.if_icmp .eq 6, 3) := by decide +kernel
theorem dX8_rest_32 : decode cX8_rest 32 = .ok (.ldc 141, 2) := by decide +kernel
theorem dX8_rest_34 : decode cX8_rest 34 = .ok (.ireturn, 1) := by decide +kernel
theorem dX8_rest_35 : decode cX8_rest 35 = .ok (.iload_n 2, 1) := by decide +kernel
theorem dX8_rest_36 : decode cX8_rest 36 = .ok (.ifCond .ne 9, 3) := by decide +kernel
theorem dX8_rest_39 : decode cX8_rest 39 = .ok (.ldc_w 275, 3) := by decide +kernel
theorem dX8_rest_42 : decode cX8_rest 42 = .ok (.goto 20, 3) := by decide +kernel
theorem dX8_rest_45 : decode cX8_rest 45 = .ok (.iload_n 2, 1) := by decide +kernel
theorem dX8_rest_46 : decode cX8_rest 46 = .ok (.iconst (-1), 1) := by decide +kernel
theorem dX8_rest_47 : decode cX8_rest 47 = .ok (.if_icmp .ne 7, 3) := by decide +kernel
theorem dX8_rest_50 : decode cX8_rest 50 = .ok (.iconst 0, 1) := by decide +kernel
theorem dX8_rest_51 : decode cX8_rest 51 = .ok (.goto 11, 3) := by decide +kernel
theorem dX8_rest_54 : decode cX8_rest 54 = .ok (.aload_n 0, 1) := by decide +kernel
theorem dX8_rest_55 : decode cX8_rest 55 = .ok (.getfield 64, 3) := by decide +kernel
theorem dX8_rest_58 : decode cX8_rest 58 = .ok (.iload_n 1, 1) := by decide +kernel
theorem dX8_rest_59 : decode cX8_rest 59 = .ok (.iaload, 1) := by decide +kernel
theorem dX8_rest_60 : decode cX8_rest 60 = .ok (.iload_n 2, 1) := by decide +kernel
theorem dX8_rest_61 : decode cX8_rest 61 = .ok (.irem, 1) := by decide +kernel
theorem dX8_rest_62 : decode cX8_rest 62 = .ok (.ireturn, 1) := by decide +kernel
theorem dX8_tell_0 : decode cX8_tell 0 = .ok (.aload_n 0, 1) := by decide +kernel
theorem dX8_tell_1 : decode cX8_tell 1 = .ok (.getfield 276, 3) := by decide +kernel
theorem dX8_tell_4 : decode cX8_tell 4 = .ok (.bipush 60, 2) := by decide +kernel
theorem dX8_tell_6 : decode cX8_tell 6 = .ok (.if_icmp .ne 6, 3) := by decide +kernel
theorem dX8_tell_9 : decode cX8_tell 9 = .ok (.ldc 89, 2) := by decide +kernel
theorem dX8_tell_11 : decode cX8_tell 11 = .ok (.ireturn, 1) := by decide +kernel
theorem dX8_tell_12 : decode cX8_tell 12 = .ok (.aload_n 0, 1) := by decide +kernel
theorem dX8_tell_13 : decode cX8_tell 13 = .ok (.getfield 76, 3) := by decide +kernel
theorem dX8_tell_16 : decode cX8_tell 16 = .ok (.aload_n 0, 1) := by decide +kernel
theorem dX8_tell_17 : decode cX8_tell 17 = .ok (.getfield 276, 3) := by decide +kernel
theorem dX8_tell_20 : decode cX8_tell 20 = .ok (.iload_n 1, 1) := by decide +kernel
theorem dX8_tell_21 : decode cX8_tell 21 = .ok (.iastore, 1) := by decide +kernel
theorem dX8_tell_22 : decode cX8_tell 22 = .ok (.aload_n 0, 1) := by decide +kernel
theorem dX8_tell_23 : decode cX8_tell 23 = .ok (.dup, 1) := by decide +kernel
theorem dX8_tell_24 : decode cX8_tell 24 = .ok (.getfield 276, 3) := by decide +kernel
theorem dX8_tell_27 : decode cX8_tell 27 = .ok (.iconst 1, 1) := by decide +kernel
theorem dX8_tell_28 : decode cX8_tell 28 = .ok (.iadd, 1) := by decide +kernel
theorem dX8_tell_29 : decode cX8_tell 29 = .ok (.putfield 276, 3) := by decide +kernel
theorem dX8_tell_32 : decode cX8_tell 32 = .ok (.aload_n 0, 1) := by decide +kernel
theorem dX8_tell_33 : decode cX8_tell 33 = .ok (.getfield 276, 3) := by decide +kernel
theorem dX8_tell_36 : decode cX8_tell 36 = .ok (.ireturn, 1) := by decide +kernel
theorem dX8_check_0 : decode cX8_check 0 = .ok (.aload_n 0, 1) := by decide +kernel
theorem dX8_check_1 : decode cX8_check 1 = .ok (.getfield 276, 3) := by decide +kernel
theorem dX8_check_4 : decode cX8_check 4 = .ok (.istore_n 2, 1) := by decide +kernel
theorem dX8_check_5 : decode cX8_check 5 = .ok (.aload_n 0, 1) := by decide +kernel
theorem dX8_check_6 : decode cX8_check 6 = .ok (.iconst 0, 1) := by decide +kernel
theorem dX8_check_7 : decode cX8_check 7 = .ok (.putfield 276, 3) := by decide +kernel
theorem dX8_check_10 : decode cX8_check 10 = .ok (.iload_n 1, 1) := by decide +kernel
theorem dX8_check_11 : decode cX8_check 11 = .ok (.iconst 1, 1) := by decide +kernel
theorem dX8_check_12 : decode cX8_check 12 = .ok (.bipush 30, 2) := by decide +kernel
theorem dX8_check_14 : decode cX8_check 14 = .ok (.invokestatic 80, 3) := by decide +kernel
theorem dX8_check_17 : decode cX8_check 17 = .ok (.ifCond .ne 6, 3) := by decide +kernel
theorem dX8_check_20 : decode cX8_check 20 = .ok (.ldc 88, 2) := by decide +kernel
theorem dX8_check_22 : decode cX8_check 22 = .ok (.ireturn, 1) := by decide +kernel
theorem dX8_check_23 : decode cX8_check 23 = .ok (.aload_n 0, 1) := by decide +kernel
theorem dX8_check_24 : decode cX8_check 24 = .ok (.getfield 279, 3) := by decide +kernel
theorem dX8_check_27 : decode cX8_check 27 = .ok (.ifCond .ne 7, 3) := by decide +kernel
theorem dX8_check_30 : decode cX8_check 30 = .ok (.ldc_w 275, 3) := by decide +kernel
theorem dX8_check_33 : decode cX8_check 33 = .ok (.ireturn, 1) := by decide +kernel
theorem dX8_check_34 : decode cX8_check 34 = .ok (.aload_n 0, 1) := by decide +kernel
theorem dX8_check_35 : decode cX8_check 35 = .ok (.getfield 9, 3) := by decide +kernel
theorem dX8_check_38 : decode cX8_check 38 = .ok (.aload_n 0, 1) := by decide +kernel
theorem dX8_check_39 : decode cX8_check 39 = .ok (.getfield 16, 3) := by decide +kernel
theorem dX8_check_42 : decode cX8_check 42 = .ok (.invokestatic 283, 3) := by decide +kernel
theorem dX8_check_45 : decode cX8_check 45 = .ok (.aload_n 0, 1) := by decide +kernel
theorem dX8_check_46 : decode cX8_check 46 = .ok (.getfield 13, 3) := by decide +kernel
theorem dX8_check_49 : decode cX8_check 49 = .ok (.aload_n 0, 1) := by decide +kernel
theorem dX8_check_50 : decode cX8_check 50 = .ok (.getfield 9, 3) := by decide +kernel
theorem dX8_check_53 : decode cX8_check 53 = .ok (.invokestatic 283, 3) := by decide +kernel
theorem dX8_check_56 : decode cX8_check 56 = .ok (.iconst 2, 1) := by decide +kernel
theorem dX8_check_57 : decode cX8_check 57 = .ok (.sipush 9999, 3) := by decide +kernel
theorem dX8_check_60 : decode cX8_check 60 = .ok (.aload_n 0, 1) := by decide +kernel
theorem dX8_check_61 : decode cX8_check 61 = .ok (.getfield 9, 3) := by decide +kernel
theorem dX8_check_64 : decode cX8_check 64 = .ok (.iconst 2, 1) := by decide +kernel
theorem dX8_check_65 : decode cX8_check 65 = .ok (.iaload, 1) := by decide +kernel
theorem dX8_check_66 : decode cX8_check 66 = .ok (.isub, 1) := by decide +kernel
theorem dX8_check_67 : decode cX8_check 67 = .ok (.iconst 0, 1) := by decide +kernel
theorem dX8_check_68 : decode cX8_check 68 = .ok (.iload_n 1, 1) := by decide +kernel
theorem dX8_check_69 : decode cX8_check 69 = .ok (.invokestatic 111, 3) := by decide +kernel
theorem dX8_check_72 : decode cX8_check 72 = .ok (.imul, 1) := by decide +kernel
theorem dX8_check_73 : decode cX8_check 73 = .ok (.istore_n 3, 1) := by decide +kernel
theorem dX8_check_74 : decode cX8_check 74 = .ok (.iconst 0, 1) := by decide +kernel
theorem dX8_check_75 : decode cX8_check 75 = .ok (.istore 4, 2) := by decide +kernel
theorem dX8_check_77 : decode cX8_check 77 = .ok (.iconst 0, 1) := by decide +kernel
theorem dX8_check_78 : decode cX8_check 78 = .ok (.istore 5, 2) := by decide +kernel
theorem dX8_check_80 : decode cX8_check 80 = .ok (.iconst 2, 1) := by decide +kernel
theorem dX8_check_81 : decode cX8_check 81 = .ok (.iload 5, 2) := by decide +kernel
theorem dX8_check_83 : decode cX8_check 83 = .ok (.imul, 1) := by decide +kernel
theorem dX8_check_84 : decode cX8_check 84 = .ok (.iload_n 3, 1) := by decide +kernel
theorem dX8_check_85 : decode cX8_check 85 = .ok (.if_icmp .ge 95, 3) := by decide +kernel
theorem dX8_check_88 : decode cX8_check 88 = .ok (.iload 4, 2) := by decide +kernel
theorem dX8_check_90 : decode cX8_check 90 = .ok (.iconst 2, 1) := by decide +kernel
theorem dX8_check_91 : decode cX8_check 91 = .ok (.iload 5, 2) := by decide +kernel
theorem dX8_check_93 : decode cX8_check 93 = .ok (.imul, 1) := by decide +kernel
theorem dX8_check_94 : decode cX8_check 94 = .ok (.if_icmp .ne 86, 3) := by decide +kernel
theorem dX8_check_97 : decode cX8_check 97 = .ok (.aload_n 0, 1) := by decide +kernel
theorem dX8_check_98 : decode cX8_check 98 = .ok (.invokevirtual 159, 3) := by decide +kernel
theorem dX8_check_101 : decode cX8_check 101 = .ok (.istore 6, 2) := by decide +kernel
theorem dX8_check_103 : decode cX8_check 103 = .ok (.iload 4, 2) := by decide +kernel
theorem dX8_check_105 : decode cX8_check 105 = .ok (.iload 4, 2) := by decide +kernel
theorem dX8_check_107 : decode cX8_check 107 = .ok (.iload_n 2, 1) := by decide +kernel
theorem dX8_check_108 : decode cX8_check 108 = .ok (.if_icmp .ge 21, 3) := by decide +kernel
theorem dX8_check_111 : decode cX8_check 111 = .ok (.aload_n 0, 1) := by decide +kernel
theorem dX8_check_112 : decode cX8_check 112 = .ok (.getfield 76, 3) := by decide +kernel
theorem dX8_check_115 : decode cX8_check 115 = .ok (.iload 4, 2) := by decide +kernel
theorem dX8_check_117 : decode cX8_check 117 = .ok (.iaload, 1) := by decide +kernel
theorem dX8_check_118 : decode cX8_check 118 = .ok (.aload_n 0, 1) := by decide +kernel
theorem dX8_check_119 : decode cX8_check 119 = .ok (.invokevirtual 171, 3) := by decide +kernel
theorem dX8_check_122 : decode cX8_check 122 = .ok (.if_icmp .ne 7, 3) := by decide +kernel
theorem dX8_check_125 : decode cX8_check 125 = .ok (.iconst 1, 1) := by decide +kernel
theorem dX8_check_126 : decode cX8_check 126 = .ok (.goto 4, 3) := by decide +kernel
theorem dX8_check_129 : decode cX8_check 129 = .ok (.iconst 0, 1) := by decide +kernel
theorem dX8_check_130 : decode cX8_check 130 = .ok (.iadd, 1) := by decide +kernel
theorem dX8_check_131 : decode cX8_check 131 = .ok (.istore 4, 2) := by decide +kernel
theorem dX8_check_133 : decode cX8_check 133 = .ok (.iload 4, 2) := by decide +kernel
theorem dX8_check_135 : decode cX8_check 135 = .ok (.iload 4, 2) := by decide +kernel
theorem dX8_check_137 : decode cX8_check 137 = .ok (.iconst 2, 1) := by decide +kernel
theorem dX8_check_138 : decode cX8_check 138 = .ok (.iload 5, 2) := by decide +kernel
theorem dX8_check_140 : decode cX8_check 140 = .ok (.imul, 1) := by decide +kernel
theorem dX8_check_141 : decode cX8_check 141 = .ok (.iconst 1, 1) := by decide +kernel
theorem dX8_check_142 : decode cX8_check 142 = .ok (.iadd, 1) := by decide +kernel
theorem dX8_check_143 : decode cX8_check 143 = .ok (.if_icmp .ne 27, 3) := by decide +kernel
theorem dX8_check_146 : decode cX8_check 146 = .ok (.iload 4, 2) := by decide +kernel
theorem dX8_check_148 : decode cX8_check 148 = .ok (.iload_n 2, 1) := by decide +kernel
theorem dX8_check_149 : decode cX8_check 149 = .ok (.if_icmp .ge 21, 3) := by decide +kernel
theorem dX8_check_152 : decode cX8_check 152 = .ok (.aload_n 0, 1) := by decide +kernel
theorem dX8_check_153 : decode cX8_check 153 = .ok (.getfield 76, 3) := by decide +kernel
theorem dX8_check_156 : decode cX8_check 156 = .ok (.iload 4, 2) := by decide +kernel
theorem dX8_check_158 : decode cX8_check 158 = .ok (.iaload, 1) := by decide +kernel
theorem dX8_check_159 : decode cX8_check 159 = .ok (.aload_n 0, 1) := by decide +kernel
theorem dX8_check_160 : decode cX8_check 160 = .ok (.invokevirtual 168, 3) := by decide +kernel
theorem dX8_check_163 : decode cX8_check 163 = .ok (.if_icmp .ne 7, 3) := by decide +kernel
theorem dX8_check_166 : decode cX8_check 166 = .ok (.iconst 1, 1) := by decide +kernel
theorem dX8_check_167 : decode cX8_check 167 = .ok (.goto 4, 3) := by decide +kernel
theorem dX8_check_170 : decode cX8_check 170 = .ok (.iconst 0, 1) := by decide +kernel
theorem dX8_check_171 : decode cX8_check 171 = .ok (.iadd, 1) := by decide +kernel
theorem dX8_check_172 : decode cX8_check 172 = .ok (.istore 4, 2) := by decide +kernel
theorem dX8_check_174 : decode cX8_check 174 = .ok (.iinc 5 1, 3) := by decide +kernel
theorem dX8_check_177 : decode cX8_check 177 = .ok (.goto (-97), 3) := by decide +kernel
theorem dX8_check_180 : decode cX8_check 180 = .ok (.aload_n 0, 1) := by decide +kernel
theorem dX8_check_181 : decode cX8_check 181 = .ok (.getfield 16, 3) := by decide +kernel
theorem dX8_check_184 : decode cX8_check 184 = .ok (.aload_n 0, 1) := by decide +kernel
theorem dX8_check_185 : decode cX8_check 185 = .ok (.getfield 9, 3) := by decide +kernel
theorem dX8_check_188 : decode cX8_check 188 = .ok (.invokestatic 283, 3) := by decide +kernel
theorem dX8_check_191 : decode cX8_check 191 = .ok (.iload 4, 2) := by decide +kernel
theorem dX8_check_193 : decode cX8_check 193 = .ok (.iload_n 2, 1) := by decide +kernel
theorem dX8_check_194 : decode cX8_check 194 = .ok (.if_icmp .ne 13, 3) := by decide +kernel
theorem dX8_check_197 : decode cX8_check 197 = .ok (.iload 4, 2) := by decide +kernel
theorem dX8_check_199 : decode cX8_check 199 = .ok (.iload_n 3, 1) := by decide +kernel
theorem dX8_check_200 : decode cX8_check 200 = .ok (.if_icmp .ne 7, 3) := by decide +kernel
theorem dX8_check_203 : decode cX8_check 203 = .ok (.iconst 0, 1) := by decide +kernel
theorem dX8_check_204 : decode cX8_check 204 = .ok (.goto 7, 3) := by decide +kernel
theorem dX8_check_207 : decode cX8_check 207 = .ok (.iconst 1, 1) := by decide +kernel
theorem dX8_check_208 : decode cX8_check 208 = .ok (.iload 4, 2) := by decide +kernel
theorem dX8_check_210 : decode cX8_check 210 = .ok (.iadd, 1) := by decide +kernel
theorem dX8_check_211 : decode cX8_check 211 = .ok (.ireturn, 1) := by decide +kernel
theorem dX8_keep_0 : decode cX8_keep 0 = .ok (.aload_n 0, 1) := by decide +kernel
theorem dX8_keep_1 : decode cX8_keep 1 = .ok (.getfield 9, 3) := by decide +kernel
theorem dX8_keep_4 : decode cX8_keep 4 = .ok (.aload_n 0, 1) := by decide +kernel
theorem dX8_keep_5 : decode cX8_keep 5 = .ok (.getfield 13, 3) := by decide +kernel
theorem dX8_keep_8 : decode cX8_keep 8 = .ok (.invokestatic 283, 3) := by decide +kernel
theorem dX8_keep_11 : decode cX8_keep 11 = .ok (.aload_n 0, 1) := by decide +kernel
theorem dX8_keep_12 : decode cX8_keep 12 = .ok (.iconst 1, 1) := by decide +kernel
theorem dX8_keep_13 : decode cX8_keep 13 = .ok (.putfield 279, 3) := by decide +kernel
theorem dX8_keep_16 : decode cX8_keep 16 = .ok (.aload_n 0, 1) := by decide +kernel
theorem dX8_keep_17 : decode cX8_keep 17 = .ok (.getfield 9, 3) := by decide +kernel
theorem dX8_keep_20 : decode cX8_keep 20 = .ok (.iconst 1, 1) := by decide +kernel
theorem dX8_keep_21 : decode cX8_keep 21 = .ok (.iaload, 1) := by decide +kernel
theorem dX8_keep_22 : decode cX8_keep 22 = .ok (.ireturn, 1) := by decide +kernel
theorem dX8_back_0 : decode cX8_back 0 = .ok (.aload_n 0, 1) := by decide +kernel
theorem dX8_back_1 : decode cX8_back 1 = .ok (.getfield 279, 3) := by decide +kernel
theorem dX8_back_4 : decode cX8_back 4 = .ok (.ifCond .ne 7, 3) := by decide +kernel
theorem dX8_back_7 : decode cX8_back 7 = .ok (.ldc_w 275, 3) := by decide +kernel
theorem dX8_back_10 : decode cX8_back 10 = .ok (.ireturn, 1) := by decide +kernel
theorem dX8_back_11 : decode cX8_back 11 = .ok (.aload_n 0, 1) := by decide +kernel
theorem dX8_back_12 : decode cX8_back 12 = .ok (.getfield 13, 3) := by decide +kernel
theorem dX8_back_15 : decode cX8_back 15 = .ok (.aload_n 0, 1) := by decide +kernel
theorem dX8_back_16 : decode cX8_back 16 = .ok (.getfield 9, 3) := by decide +kernel
theorem dX8_back_19 : decode cX8_back 19 = .ok (.invokestatic 283, 3) := by decide +kernel
theorem dX8_back_22 : decode cX8_back 22 = .ok (.aload_n 0, 1) := by decide +kernel
theorem dX8_back_23 : decode cX8_back 23 = .ok (.getfield 9, 3) := by decide +kernel
theorem dX8_back_26 : decode cX8_back 26 = .ok (.iconst 1, 1) := by decide +kernel
theorem dX8_back_27 : decode cX8_back 27 = .ok (.iaload, 1) := by decide +kernel
theorem dX8_back_28 : decode cX8_back 28 = .ok (.ireturn, 1) := by decide +kernel
theorem dX8_count_0 : decode cX8_count 0 = .ok (.iload_n 1, 1) := by decide +kernel
theorem dX8_count_1 : decode cX8_count 1 = .ok (.tableswitch 108 0 9 #[55, 62, 69, 69, 69, 78, 83, 91, 96, 101], 55) := by decide +kernel
theorem dX8_count_56 : decode cX8_count 56 = .ok (.aload_n 0, 1) := by decide +kernel
theorem dX8_count_57 : decode cX8_count 57 = .ok (.getfield 9, 3) := by decide +kernel
theorem dX8_count_60 : decode cX8_count 60 = .ok (.iconst 1, 1) := by decide +kernel
theorem dX8_count_61 : decode cX8_count 61 = .ok (.iaload, 1) := by decide +kernel
theorem dX8_count_62 : decode cX8_count 62 = .ok (.ireturn, 1) := by decide +kernel
theorem dX8_count_63 : decode cX8_count 63 = .ok (.aload_n 0, 1) := by decide +kernel
theorem dX8_count_64 : decode cX8_count 64 = .ok (.getfield 9, 3) := by decide +kernel
theorem dX8_count_67 : decode cX8_count 67 = .ok (.iconst 2, 1) := by decide +kernel
theorem dX8_count_68 : decode cX8_count 68 = .ok (.iaload, 1) := by decide +kernel
theorem dX8_count_69 : decode cX8_count 69 = .ok (.ireturn, 1) := by decide +kernel
theorem dX8_count_70 : decode cX8_count 70 = .ok (.aload_n 0, 1) := by decide +kernel
theorem dX8_count_71 : decode cX8_count 71 = .ok (.getfield 9, 3) := by decide +kernel
theorem dX8_count_74 : decode cX8_count 74 = .ok (.iconst 1, 1) := by decide +kernel
theorem dX8_count_75 : decode cX8_count 75 = .ok (.iload_n 1, 1) := by decide +kernel
theorem dX8_count_76 : decode cX8_count 76 = .ok (.iadd, 1) := by decide +kernel
theorem dX8_count_77 : decode cX8_count 77 = .ok (.iaload, 1) := by decide +kernel
theorem dX8_count_78 : decode cX8_count 78 = .ok (.ireturn, 1) := by decide +kernel
theorem dX8_count_79 : decode cX8_count 79 = .ok (.aload_n 0, 1) := by decide +kernel
theorem dX8_count_80 : decode cX8_count 80 = .ok (.invokevirtual 168, 3) := by decide +kernel
theorem dX8_count_83 : decode cX8_count 83 = .ok (.ireturn, 1) := by decide +kernel
theorem dX8_count_84 : decode cX8_count 84 = .ok (.aload_n 0, 1) := by decide +kernel
theorem dX8_count_85 : decode cX8_count 85 = .ok (.getfield 9, 3) := by decide +kernel
theorem dX8_count_88 : decode cX8_count 88 = .ok (.bipush 7, 2) := by decide +kernel
theorem dX8_count_90 : decode cX8_count 90 = .ok (.iaload, 1) := by decide +kernel
theorem dX8_count_91 : decode cX8_count 91 = .ok (.ireturn, 1) := by decide +kernel
theorem dX8_count_92 : decode cX8_count 92 = .ok (.aload_n 0, 1) := by decide +kernel
theorem dX8_count_93 : decode cX8_count 93 = .ok (.getfield 276, 3) := by decide +kernel
theorem dX8_count_96 : decode cX8_count 96 = .ok (.ireturn, 1) := by decide +kernel
theorem dX8_count_97 : decode cX8_count 97 = .ok (.aload_n 0, 1) := by decide +kernel
theorem dX8_count_98 : decode cX8_count 98 = .ok (.getfield 200, 3) := by decide +kernel
theorem dX8_count_101 : decode cX8_count 101 = .ok (.ireturn, 1) := by decide +kernel
theorem dX8_count_102 : decode cX8_count 102 = .ok (.aload_n 0, 1) := by decide +kernel
theorem dX8_count_103 : decode cX8_count 103 = .ok (.getfield 9, 3) := by decide +kernel
theorem dX8_count_106 : decode cX8_count 106 = .ok (.iconst 0, 1) := by decide +kernel
theorem dX8_count_107 : decode cX8_count 107 = .ok (.iaload, 1) := by decide +kernel
theorem dX8_count_108 : decode cX8_count 108 = .ok (.ireturn, 1) := by decide +kernel
theorem dX8_count_109 : decode cX8_count 109 = .ok (.ldc 88, 2) := by decide +kernel
theorem dX8_count_111 : decode cX8_count 111 = .ok (.ireturn, 1) := by decide +kernel
theorem dJ6_bitCount_0f7a4_0 : decode cJ6_bitCount_0f7a4 0 = .ok (.iload_n 0, 1) := by decide +kernel
theorem dJ6_bitCount_0f7a4_1 : decode cJ6_bitCount_0f7a4 1 = .ok (.iload_n 0, 1) := by decide +kernel
theorem dJ6_bitCount_0f7a4_2 : decode cJ6_bitCount_0f7a4 2 = .ok (.iconst 1, 1) := by decide +kernel
theorem dJ6_bitCount_0f7a4_3 : decode cJ6_bitCount_0f7a4 3 = .ok (.iushr, 1) := by decide +kernel
theorem dJ6_bitCount_0f7a4_4 : decode cJ6_bitCount_0f7a4 4 = .ok (.ldc_w 265, 3) := by decide +kernel
theorem dJ6_bitCount_0f7a4_7 : decode cJ6_bitCount_0f7a4 7 = .ok (.iand, 1) := by decide +kernel
theorem dJ6_bitCount_0f7a4_8 : decode cJ6_bitCount_0f7a4 8 = .ok (.isub, 1) := by decide +kernel
theorem dJ6_bitCount_0f7a4_9 : decode cJ6_bitCount_0f7a4 9 = .ok (.istore_n 0, 1) := by decide +kernel
theorem dJ6_bitCount_0f7a4_10 : decode cJ6_bitCount_0f7a4 10 = .ok (.iload_n 0, 1) := by decide +kernel
theorem dJ6_bitCount_0f7a4_11 : decode cJ6_bitCount_0f7a4 11 = .ok (.ldc_w 266, 3) := by decide +kernel
theorem dJ6_bitCount_0f7a4_14 : decode cJ6_bitCount_0f7a4 14 = .ok (.iand, 1) := by decide +kernel
theorem dJ6_bitCount_0f7a4_15 : decode cJ6_bitCount_0f7a4 15 = .ok (.iload_n 0, 1) := by decide +kernel
theorem dJ6_bitCount_0f7a4_16 : decode cJ6_bitCount_0f7a4 16 = .ok (.iconst 2, 1) := by decide +kernel
theorem dJ6_bitCount_0f7a4_17 : decode cJ6_bitCount_0f7a4 17 = .ok (.iushr, 1) := by decide +kernel
theorem dJ6_bitCount_0f7a4_18 : decode cJ6_bitCount_0f7a4 18 = .ok (.ldc_w 266, 3) := by decide +kernel
theorem dJ6_bitCount_0f7a4_21 : decode cJ6_bitCount_0f7a4 21 = .ok (.iand, 1) := by decide +kernel
theorem dJ6_bitCount_0f7a4_22 : decode cJ6_bitCount_0f7a4 22 = .ok (.iadd, 1) := by decide +kernel
theorem dJ6_bitCount_0f7a4_23 : decode cJ6_bitCount_0f7a4 23 = .ok (.istore_n 0, 1) := by decide +kernel
theorem dJ6_bitCount_0f7a4_24 : decode cJ6_bitCount_0f7a4 24 = .ok (.iload_n 0, 1) := by decide +kernel
theorem dJ6_bitCount_0f7a4_25 : decode cJ6_bitCount_0f7a4 25 = .ok (.iload_n 0, 1) := by decide +kernel
theorem dJ6_bitCount_0f7a4_26 : decode cJ6_bitCount_0f7a4 26 = .ok (.iconst 4, 1) := by decide +kernel
theorem dJ6_bitCount_0f7a4_27 : decode cJ6_bitCount_0f7a4 27 = .ok (.iushr, 1) := by decide +kernel
theorem dJ6_bitCount_0f7a4_28 : decode cJ6_bitCount_0f7a4 28 = .ok (.iadd, 1) := by decide +kernel
theorem dJ6_bitCount_0f7a4_29 : decode cJ6_bitCount_0f7a4 29 = .ok (.ldc_w 267, 3) := by decide +kernel
theorem dJ6_bitCount_0f7a4_32 : decode cJ6_bitCount_0f7a4 32 = .ok (.iand, 1) := by decide +kernel
theorem dJ6_bitCount_0f7a4_33 : decode cJ6_bitCount_0f7a4 33 = .ok (.istore_n 0, 1) := by decide +kernel
theorem dJ6_bitCount_0f7a4_34 : decode cJ6_bitCount_0f7a4 34 = .ok (.iload_n 0, 1) := by decide +kernel
theorem dJ6_bitCount_0f7a4_35 : decode cJ6_bitCount_0f7a4 35 = .ok (.iload_n 0, 1) := by decide +kernel
theorem dJ6_bitCount_0f7a4_36 : decode cJ6_bitCount_0f7a4 36 = .ok (.bipush 8, 2) := by decide +kernel
theorem dJ6_bitCount_0f7a4_38 : decode cJ6_bitCount_0f7a4 38 = .ok (.iushr, 1) := by decide +kernel
theorem dJ6_bitCount_0f7a4_39 : decode cJ6_bitCount_0f7a4 39 = .ok (.iadd, 1) := by decide +kernel
theorem dJ6_bitCount_0f7a4_40 : decode cJ6_bitCount_0f7a4 40 = .ok (.istore_n 0, 1) := by decide +kernel
theorem dJ6_bitCount_0f7a4_41 : decode cJ6_bitCount_0f7a4 41 = .ok (.iload_n 0, 1) := by decide +kernel
theorem dJ6_bitCount_0f7a4_42 : decode cJ6_bitCount_0f7a4 42 = .ok (.iload_n 0, 1) := by decide +kernel
theorem dJ6_bitCount_0f7a4_43 : decode cJ6_bitCount_0f7a4 43 = .ok (.bipush 16, 2) := by decide +kernel
theorem dJ6_bitCount_0f7a4_45 : decode cJ6_bitCount_0f7a4 45 = .ok (.iushr, 1) := by decide +kernel
theorem dJ6_bitCount_0f7a4_46 : decode cJ6_bitCount_0f7a4 46 = .ok (.iadd, 1) := by decide +kernel
theorem dJ6_bitCount_0f7a4_47 : decode cJ6_bitCount_0f7a4 47 = .ok (.istore_n 0, 1) := by decide +kernel
theorem dJ6_bitCount_0f7a4_48 : decode cJ6_bitCount_0f7a4 48 = .ok (.iload_n 0, 1) := by decide +kernel
theorem dJ6_bitCount_0f7a4_49 : decode cJ6_bitCount_0f7a4 49 = .ok (.bipush 63, 2) := by decide +kernel
theorem dJ6_bitCount_0f7a4_51 : decode cJ6_bitCount_0f7a4 51 = .ok (.iand, 1) := by decide +kernel
theorem dJ6_bitCount_0f7a4_52 : decode cJ6_bitCount_0f7a4 52 = .ok (.ireturn, 1) := by decide +kernel
theorem dJ9_floorMod_7cf53_0 : decode cJ9_floorMod_7cf53 0 = .ok (.iload_n 0, 1) := by decide +kernel
theorem dJ9_floorMod_7cf53_1 : decode cJ9_floorMod_7cf53 1 = .ok (.iload_n 1, 1) := by decide +kernel
theorem dJ9_floorMod_7cf53_2 : decode cJ9_floorMod_7cf53 2 = .ok (.irem, 1) := by decide +kernel
theorem dJ9_floorMod_7cf53_3 : decode cJ9_floorMod_7cf53 3 = .ok (.istore_n 2, 1) := by decide +kernel
theorem dJ9_floorMod_7cf53_4 : decode cJ9_floorMod_7cf53 4 = .ok (.iload_n 0, 1) := by decide +kernel
theorem dJ9_floorMod_7cf53_5 : decode cJ9_floorMod_7cf53 5 = .ok (.iload_n 1, 1) := by decide +kernel
theorem dJ9_floorMod_7cf53_6 : decode cJ9_floorMod_7cf53 6 = .ok (.ixor, 1) := by decide +kernel
theorem dJ9_floorMod_7cf53_7 : decode cJ9_floorMod_7cf53 7 = .ok (.ifCond .ge 11, 3) := by decide +kernel
theorem dJ9_floorMod_7cf53_10 : decode cJ9_floorMod_7cf53 10 = .ok (.iload_n 2, 1) := by decide +kernel
theorem dJ9_floorMod_7cf53_11 : decode cJ9_floorMod_7cf53 11 = .ok (.ifCond .eq 7, 3) := by decide +kernel
theorem dJ9_floorMod_7cf53_14 : decode cJ9_floorMod_7cf53 14 = .ok (.iload_n 2, 1) := by decide +kernel
theorem dJ9_floorMod_7cf53_15 : decode cJ9_floorMod_7cf53 15 = .ok (.iload_n 1, 1) := by decide +kernel
theorem dJ9_floorMod_7cf53_16 : decode cJ9_floorMod_7cf53 16 = .ok (.iadd, 1) := by decide +kernel
theorem dJ9_floorMod_7cf53_17 : decode cJ9_floorMod_7cf53 17 = .ok (.ireturn, 1) := by decide +kernel
theorem dJ9_floorMod_7cf53_18 : decode cJ9_floorMod_7cf53 18 = .ok (.iload_n 2, 1) := by decide +kernel
theorem dJ9_floorMod_7cf53_19 : decode cJ9_floorMod_7cf53 19 = .ok (.ireturn, 1) := by decide +kernel
theorem dJ9_abs_0f7a4_0 : decode cJ9_abs_0f7a4 0 = .ok (.iload_n 0, 1) := by decide +kernel
theorem dJ9_abs_0f7a4_1 : decode cJ9_abs_0f7a4 1 = .ok (.ifCond .ge 8, 3) := by decide +kernel
theorem dJ9_abs_0f7a4_4 : decode cJ9_abs_0f7a4 4 = .ok (.iload_n 0, 1) := by decide +kernel
theorem dJ9_abs_0f7a4_5 : decode cJ9_abs_0f7a4 5 = .ok (.ineg, 1) := by decide +kernel
theorem dJ9_abs_0f7a4_6 : decode cJ9_abs_0f7a4 6 = .ok (.goto 4, 3) := by decide +kernel
theorem dJ9_abs_0f7a4_9 : decode cJ9_abs_0f7a4 9 = .ok (.iload_n 0, 1) := by decide +kernel
theorem dJ9_abs_0f7a4_10 : decode cJ9_abs_0f7a4 10 = .ok (.ireturn, 1) := by decide +kernel
theorem dJ9_max_7cf53_0 : decode cJ9_max_7cf53 0 = .ok (.iload_n 0, 1) := by decide +kernel
theorem dJ9_max_7cf53_1 : decode cJ9_max_7cf53 1 = .ok (.iload_n 1, 1) := by decide +kernel
theorem dJ9_max_7cf53_2 : decode cJ9_max_7cf53 2 = .ok (.if_icmp .lt 7, 3) := by decide +kernel
theorem dJ9_max_7cf53_5 : decode cJ9_max_7cf53 5 = .ok (.iload_n 0, 1) := by decide +kernel
theorem dJ9_max_7cf53_6 : decode cJ9_max_7cf53 6 = .ok (.goto 4, 3) := by decide +kernel
theorem dJ9_max_7cf53_9 : decode cJ9_max_7cf53 9 = .ok (.iload_n 1, 1) := by decide +kernel
theorem dJ9_max_7cf53_10 : decode cJ9_max_7cf53 10 = .ok (.ireturn, 1) := by decide +kernel
theorem dJ9_min_7cf53_0 : decode cJ9_min_7cf53 0 = .ok (.iload_n 0, 1) := by decide +kernel
theorem dJ9_min_7cf53_1 : decode cJ9_min_7cf53 1 = .ok (.iload_n 1, 1) := by decide +kernel
theorem dJ9_min_7cf53_2 : decode cJ9_min_7cf53 2 = .ok (.if_icmp .gt 7, 3) := by decide +kernel
theorem dJ9_min_7cf53_5 : decode cJ9_min_7cf53 5 = .ok (.iload_n 0, 1) := by decide +kernel
theorem dJ9_min_7cf53_6 : decode cJ9_min_7cf53 6 = .ok (.goto 4, 3) := by decide +kernel
theorem dJ9_min_7cf53_9 : decode cJ9_min_7cf53 9 = .ok (.iload_n 1, 1) := by decide +kernel
theorem dJ9_min_7cf53_10 : decode cJ9_min_7cf53 10 = .ok (.ireturn, 1) := by decide +kernel
theorem dJ0_length_8abf5_0 : decode cJ0_length_8abf5 0 = .ok (.aload_n 0, 1) := by decide +kernel
theorem dJ0_length_8abf5_1 : decode cJ0_length_8abf5 1 = .ok (.getfield 9, 3) := by decide +kernel
theorem dJ0_length_8abf5_4 : decode cJ0_length_8abf5 4 = .ok (.arraylength, 1) := by decide +kernel
theorem dJ0_length_8abf5_5 : decode cJ0_length_8abf5 5 = .ok (.aload_n 0, 1) := by decide +kernel
theorem dJ0_length_8abf5_6 : decode cJ0_length_8abf5 6 = .ok (.invokevirtual 335, 3) := by decide +kernel
theorem dJ0_length_8abf5_9 : decode cJ0_length_8abf5 9 = .ok (.ishr, 1) := by decide +kernel
theorem dJ0_length_8abf5_10 : decode cJ0_length_8abf5 10 = .ok (.ireturn, 1) := by decide +kernel
theorem dJ0_charAt_5068e_0 : decode cJ0_charAt_5068e 0 = .ok (.aload_n 0, 1) := by decide +kernel
theorem dJ0_charAt_5068e_1 : decode cJ0_charAt_5068e 1 = .ok (.invokevirtual 492, 3) := by decide +kernel
theorem dJ0_charAt_5068e_4 : decode cJ0_charAt_5068e 4 = .ok (.ifCond .eq 12, 3) := by decide +kernel
theorem dJ0_charAt_5068e_7 : decode cJ0_charAt_5068e 7 = .ok (.aload_n 0, 1) := by decide +kernel
theorem dJ0_charAt_5068e_8 : decode cJ0_charAt_5068e 8 = .ok (.getfield 9, 3) := by decide +kernel
theorem dJ0_charAt_5068e_11 : decode cJ0_charAt_5068e 11 = .ok (.iload_n 1, 1) := by decide +kernel
theorem dJ0_charAt_5068e_12 : decode cJ0_charAt_5068e 12 = .ok (.invokestatic 495, 3) := by decide +kernel
theorem dJ0_charAt_5068e_15 : decode cJ0_charAt_5068e 15 = .ok (.ireturn, 1) := by decide +kernel
theorem dJ0_charAt_5068e_16 : decode cJ0_charAt_5068e 16 = .ok (.aload_n 0, 1) := by decide +kernel
theorem dJ0_charAt_5068e_17 : decode cJ0_charAt_5068e 17 = .ok (.getfield 9, 3) := by decide +kernel
theorem dJ0_charAt_5068e_20 : decode cJ0_charAt_5068e 20 = .ok (.iload_n 1, 1) := by decide +kernel
theorem dJ0_charAt_5068e_21 : decode cJ0_charAt_5068e 21 = .ok (.invokestatic 498, 3) := by decide +kernel
theorem dJ0_charAt_5068e_24 : decode cJ0_charAt_5068e 24 = .ok (.ireturn, 1) := by decide +kernel
theorem dJ0_indexOf_0f7a4_0 : decode cJ0_indexOf_0f7a4 0 = .ok (.aload_n 0, 1) := by decide +kernel
theorem dJ0_indexOf_0f7a4_1 : decode cJ0_indexOf_0f7a4 1 = .ok (.iload_n 1, 1) := by decide +kernel
theorem dJ0_indexOf_0f7a4_2 : decode cJ0_indexOf_0f7a4 2 = .ok (.iconst 0, 1) := by decide +kernel
theorem dJ0_indexOf_0f7a4_3 : decode cJ0_indexOf_0f7a4 3 = .ok (.invokevirtual 633, 3) := by decide +kernel
theorem dJ0_indexOf_0f7a4_6 : decode cJ0_indexOf_0f7a4 6 = .ok (.ireturn, 1) := by decide +kernel
theorem dJ0_indexOf_7cf53_0 : decode cJ0_indexOf_7cf53 0 = .ok (.aload_n 0, 1) := by decide +kernel
theorem dJ0_indexOf_7cf53_1 : decode cJ0_indexOf_7cf53 1 = .ok (.invokevirtual 492, 3) := by decide +kernel
theorem dJ0_indexOf_7cf53_4 : decode cJ0_indexOf_7cf53 4 = .ok (.ifCond .eq 19, 3) := by decide +kernel
theorem dJ0_indexOf_7cf53_7 : decode cJ0_indexOf_7cf53 7 = .ok (.aload_n 0, 1) := by decide +kernel
theorem dJ0_indexOf_7cf53_8 : decode cJ0_indexOf_7cf53 8 = .ok (.getfield 9, 3) := by decide +kernel
theorem dJ0_indexOf_7cf53_11 : decode cJ0_indexOf_7cf53 11 = .ok (.iload_n 1, 1) := by decide +kernel
theorem dJ0_indexOf_7cf53_12 : decode cJ0_indexOf_7cf53 12 = .ok (.iload_n 2, 1) := by decide +kernel
theorem dJ0_indexOf_7cf53_13 : decode cJ0_indexOf_7cf53 13 = .ok (.aload_n 0, 1) := by decide +kernel
theorem dJ0_indexOf_7cf53_14 : decode cJ0_indexOf_7cf53 14 = .ok (.invokevirtual 505, 3) := by decide +kernel
theorem dJ0_indexOf_7cf53_17 : decode cJ0_indexOf_7cf53 17 = .ok (.invokestatic 637, 3) := by decide +kernel
theorem dJ0_indexOf_7cf53_20 : decode cJ0_indexOf_7cf53 20 = .ok (.goto 16, 3) := by decide +kernel
theorem dJ0_indexOf_7cf53_23 : decode cJ0_indexOf_7cf53 23 = .ok (.aload_n 0, 1) := by decide +kernel
theorem dJ0_indexOf_7cf53_24 : decode cJ0_indexOf_7cf53 24 = .ok (.getfield 9, 3) := by decide +kernel
theorem dJ0_indexOf_7cf53_27 : decode cJ0_indexOf_7cf53 27 = .ok (.iload_n 1, 1) := by decide +kernel
theorem dJ0_indexOf_7cf53_28 : decode cJ0_indexOf_7cf53 28 = .ok (.iload_n 2, 1) := by decide +kernel
theorem dJ0_indexOf_7cf53_29 : decode cJ0_indexOf_7cf53 29 = .ok (.aload_n 0, 1) := by decide +kernel
theorem dJ0_indexOf_7cf53_30 : decode cJ0_indexOf_7cf53 30 = .ok (.invokevirtual 505, 3) := by decide +kernel
theorem dJ0_indexOf_7cf53_33 : decode cJ0_indexOf_7cf53 33 = .ok (.invokestatic 640, 3) := by decide +kernel
theorem dJ0_indexOf_7cf53_36 : decode cJ0_indexOf_7cf53 36 = .ok (.ireturn, 1) := by decide +kernel
theorem dJ0_coder_7d493_0 : decode cJ0_coder_7d493 0 = .ok (.getstatic 38, 3) := by decide +kernel
theorem dJ0_coder_7d493_3 : decode cJ0_coder_7d493 3 = .ok (.ifCond .eq 10, 3) := by decide +kernel
theorem dJ0_coder_7d493_6 : decode cJ0_coder_7d493 6 = .ok (.aload_n 0, 1) := by decide +kernel
theorem dJ0_coder_7d493_7 : decode cJ0_coder_7d493 7 = .ok (.getfield 15, 3) := by decide +kernel
theorem dJ0_coder_7d493_10 : decode cJ0_coder_7d493 10 = .ok (.goto 4, 3) := by decide +kernel
theorem dJ0_coder_7d493_13 : decode cJ0_coder_7d493 13 = .ok (.iconst 1, 1) := by decide +kernel
theorem dJ0_coder_7d493_14 : decode cJ0_coder_7d493 14 = .ok (.ireturn, 1) := by decide +kernel
theorem dJ0_isLatin1_aae02_0 : decode cJ0_isLatin1_aae02 0 = .ok (.getstatic 38, 3) := by decide +kernel
theorem dJ0_isLatin1_aae02_3 : decode cJ0_isLatin1_aae02 3 = .ok (.ifCond .eq 14, 3) := by decide +kernel
theorem dJ0_isLatin1_aae02_6 : decode cJ0_isLatin1_aae02 6 = .ok (.aload_n 0, 1) := by decide +kernel
theorem dJ0_isLatin1_aae02_7 : decode cJ0_isLatin1_aae02 7 = .ok (.getfield 15, 3) := by decide +kernel
theorem dJ0_isLatin1_aae02_10 : decode cJ0_isLatin1_aae02 10 = .ok (.ifCond .ne 7, 3) := by decide +kernel
theorem dJ0_isLatin1_aae02_13 : decode cJ0_isLatin1_aae02 13 = .ok (.iconst 1, 1) := by decide +kernel
theorem dJ0_isLatin1_aae02_14 : decode cJ0_isLatin1_aae02 14 = .ok (.goto 4, 3) := by decide +kernel
theorem dJ0_isLatin1_aae02_17 : decode cJ0_isLatin1_aae02 17 = .ok (.iconst 0, 1) := by decide +kernel
theorem dJ0_isLatin1_aae02_18 : decode cJ0_isLatin1_aae02 18 = .ok (.ireturn, 1) := by decide +kernel
theorem dJ0_checkIndex_df160_0 : decode cJ0_checkIndex_df160 0 = .ok (.iload_n 0, 1) := by decide +kernel
theorem dJ0_checkIndex_df160_1 : decode cJ0_checkIndex_df160 1 = .ok (.iload_n 1, 1) := by decide +kernel
theorem dJ0_checkIndex_df160_2 : decode cJ0_checkIndex_df160 2 = .ok (.getstatic 1053, 3) := by decide +kernel
theorem dJ0_checkIndex_df160_5 : decode cJ0_checkIndex_df160 5 = .ok (.invokestatic 1059, 3) := by decide +kernel
theorem dJ0_checkIndex_df160_8 : decode cJ0_checkIndex_df160 8 = .ok (.pop, 1) := by decide +kernel
theorem dJ0_checkIndex_df160_9 : decode cJ0_checkIndex_df160 9 = .ok (.return_, 1) := by decide +kernel
theorem dJ0_checkBoundsBeginEnd_23922_0 : decode cJ0_checkBoundsBeginEnd_23922 0 = .ok (.iload_n 0, 1) := by decide +kernel
theorem dJ0_checkBoundsBeginEnd_23922_1 : decode cJ0_checkBoundsBeginEnd_23922 1 = .ok (.iload_n 1, 1) := by decide +kernel
theorem dJ0_checkBoundsBeginEnd_23922_2 : decode cJ0_checkBoundsBeginEnd_23922 2 = .ok (.iload_n 2, 1) := by decide +kernel
theorem dJ0_checkBoundsBeginEnd_23922_3 : decode cJ0_checkBoundsBeginEnd_23922 3 = .ok (.getstatic 1053, 3) := by decide +kernel
theorem dJ0_checkBoundsBeginEnd_23922_6 : decode cJ0_checkBoundsBeginEnd_23922 6 = .ok (.invokestatic 1062, 3) := by decide +kernel
theorem dJ0_checkBoundsBeginEnd_23922_9 : decode cJ0_checkBoundsBeginEnd_23922 9 = .ok (.pop, 1) := by decide +kernel
theorem dJ0_checkBoundsBeginEnd_23922_10 : decode cJ0_checkBoundsBeginEnd_23922 10 = .ok (.return_, 1) := by decide +kernel
theorem dJ1_charAt_3b067_0 : decode cJ1_charAt_3b067 0 = .ok (.iload_n 1, 1) := by decide +kernel
theorem dJ1_charAt_3b067_1 : decode cJ1_charAt_3b067 1 = .ok (.aload_n 0, 1) := by decide +kernel
theorem dJ1_charAt_3b067_2 : decode cJ1_charAt_3b067 2 = .ok (.arraylength, 1) := by decide +kernel
theorem dJ1_charAt_3b067_3 : decode cJ1_charAt_3b067 3 = .ok (.invokestatic 9, 3) := by decide +kernel
theorem dJ1_charAt_3b067_6 : decode cJ1_charAt_3b067 6 = .ok (.aload_n 0, 1) := by decide +kernel
theorem dJ1_charAt_3b067_7 : decode cJ1_charAt_3b067 7 = .ok (.iload_n 1, 1) := by decide +kernel
theorem dJ1_charAt_3b067_8 : decode cJ1_charAt_3b067 8 = .ok (.baload, 1) := by decide +kernel
theorem dJ1_charAt_3b067_9 : decode cJ1_charAt_3b067 9 = .ok (.sipush 255, 3) := by decide +kernel
theorem dJ1_charAt_3b067_12 : decode cJ1_charAt_3b067 12 = .ok (.iand, 1) := by decide +kernel
theorem dJ1_charAt_3b067_13 : decode cJ1_charAt_3b067 13 = .ok (.i2c, 1) := by decide +kernel
theorem dJ1_charAt_3b067_14 : decode cJ1_charAt_3b067 14 = .ok (.ireturn, 1) := by decide +kernel
theorem dJ1_canEncode_9a6ad_0 : decode cJ1_canEncode_9a6ad 0 = .ok (.iload_n 0, 1) := by decide +kernel
theorem dJ1_canEncode_9a6ad_1 : decode cJ1_canEncode_9a6ad 1 = .ok (.ifCond .lt 14, 3) := by decide +kernel
theorem dJ1_canEncode_9a6ad_4 : decode cJ1_canEncode_9a6ad 4 = .ok (.iload_n 0, 1) := by decide +kernel
theorem dJ1_canEncode_9a6ad_5 : decode cJ1_canEncode_9a6ad 5 = .ok (.sipush 255, 3) := by decide +kernel
theorem dJ1_canEncode_9a6ad_8 : decode cJ1_canEncode_9a6ad 8 = .ok (.if_icmp .gt 7, 3) := by decide +kernel
theorem dJ1_canEncode_9a6ad_11 : decode cJ1_canEncode_9a6ad 11 = .ok (.iconst 1, 1) := by decide +kernel
theorem dJ1_canEncode_9a6ad_12 : decode cJ1_canEncode_9a6ad 12 = .ok (.goto 4, 3) := by decide +kernel
theorem dJ1_canEncode_9a6ad_15 : decode cJ1_canEncode_9a6ad 15 = .ok (.iconst 0, 1) := by decide +kernel
theorem dJ1_canEncode_9a6ad_16 : decode cJ1_canEncode_9a6ad 16 = .ok (.ireturn, 1) := by decide +kernel
theorem dJ1_indexOf_4cfef_0 : decode cJ1_indexOf_4cfef 0 = .ok (.iload_n 1, 1) := by decide +kernel
theorem dJ1_indexOf_4cfef_1 : decode cJ1_indexOf_4cfef 1 = .ok (.invokestatic 88, 3) := by decide +kernel
theorem dJ1_indexOf_4cfef_4 : decode cJ1_indexOf_4cfef 4 = .ok (.ifCond .ne 5, 3) := by decide +kernel
theorem dJ1_indexOf_4cfef_7 : decode cJ1_indexOf_4cfef 7 = .ok (.iconst (-1), 1) := by decide +kernel
theorem dJ1_indexOf_4cfef_8 : decode cJ1_indexOf_4cfef 8 = .ok (.ireturn, 1) := by decide +kernel
theorem dJ1_indexOf_4cfef_9 : decode cJ1_indexOf_4cfef 9 = .ok (.iload_n 2, 1) := by decide +kernel
theorem dJ1_indexOf_4cfef_10 : decode cJ1_indexOf_4cfef 10 = .ok (.iconst 0, 1) := by decide +kernel
theorem dJ1_indexOf_4cfef_11 : decode cJ1_indexOf_4cfef 11 = .ok (.invokestatic 92, 3) := by decide +kernel
theorem dJ1_indexOf_4cfef_14 : decode cJ1_indexOf_4cfef 14 = .ok (.istore_n 2, 1) := by decide +kernel
theorem dJ1_indexOf_4cfef_15 : decode cJ1_indexOf_4cfef 15 = .ok (.iload_n 3, 1) := by decide +kernel
theorem dJ1_indexOf_4cfef_16 : decode cJ1_indexOf_4cfef 16 = .ok (.aload_n 0, 1) := by decide +kernel
theorem dJ1_indexOf_4cfef_17 : decode cJ1_indexOf_4cfef 17 = .ok (.arraylength, 1) := by decide +kernel
theorem dJ1_indexOf_4cfef_18 : decode cJ1_indexOf_4cfef 18 = .ok (.invokestatic 38, 3) := by decide +kernel
theorem dJ1_indexOf_4cfef_21 : decode cJ1_indexOf_4cfef 21 = .ok (.istore_n 3, 1) := by decide +kernel
theorem dJ1_indexOf_4cfef_22 : decode cJ1_indexOf_4cfef 22 = .ok (.iload_n 2, 1) := by decide +kernel
theorem dJ1_indexOf_4cfef_23 : decode cJ1_indexOf_4cfef 23 = .ok (.iload_n 3, 1) := by decide +kernel
theorem dJ1_indexOf_4cfef_24 : decode cJ1_indexOf_4cfef 24 = .ok (.if_icmp .lt 5, 3) := by decide +kernel
theorem dJ1_indexOf_4cfef_27 : decode cJ1_indexOf_4cfef 27 = .ok (.iconst (-1), 1) := by decide +kernel
theorem dJ1_indexOf_4cfef_28 : decode cJ1_indexOf_4cfef 28 = .ok (.ireturn, 1) := by decide +kernel
theorem dJ1_indexOf_4cfef_29 : decode cJ1_indexOf_4cfef 29 = .ok (.aload_n 0, 1) := by decide +kernel
theorem dJ1_indexOf_4cfef_30 : decode cJ1_indexOf_4cfef 30 = .ok (.iload_n 1, 1) := by decide +kernel
theorem dJ1_indexOf_4cfef_31 : decode cJ1_indexOf_4cfef 31 = .ok (.iload_n 2, 1) := by decide +kernel
theorem dJ1_indexOf_4cfef_32 : decode cJ1_indexOf_4cfef 32 = .ok (.iload_n 3, 1) := by decide +kernel
theorem dJ1_indexOf_4cfef_33 : decode cJ1_indexOf_4cfef 33 = .ok (.invokestatic 95, 3) := by decide +kernel
theorem dJ1_indexOf_4cfef_36 : decode cJ1_indexOf_4cfef 36 = .ok (.ireturn, 1) := by decide +kernel
theorem dJ1_indexOfChar_4cfef_0 : decode cJ1_indexOfChar_4cfef 0 = .ok (.iload_n 1, 1) := by decide +kernel
theorem dJ1_indexOfChar_4cfef_1 : decode cJ1_indexOfChar_4cfef 1 = .ok (.i2b, 1) := by decide +kernel
theorem dJ1_indexOfChar_4cfef_2 : decode cJ1_indexOfChar_4cfef 2 = .ok (.istore 4, 2) := by decide +kernel
theorem dJ1_indexOfChar_4cfef_4 : decode cJ1_indexOfChar_4cfef 4 = .ok (.iload_n 2, 1) := by decide +kernel
theorem dJ1_indexOfChar_4cfef_5 : decode cJ1_indexOfChar_4cfef 5 = .ok (.istore 5, 2) := by decide +kernel
theorem dJ1_indexOfChar_4cfef_7 : decode cJ1_indexOfChar_4cfef 7 = .ok (.iload 5, 2) := by decide +kernel
theorem dJ1_indexOfChar_4cfef_9 : decode cJ1_indexOfChar_4cfef 9 = .ok (.iload_n 3, 1) := by decide +kernel
theorem dJ1_indexOfChar_4cfef_10 : decode cJ1_indexOfChar_4cfef 10 = .ok (.if_icmp .ge 21, 3) := by decide +kernel
theorem dJ1_indexOfChar_4cfef_13 : decode cJ1_indexOfChar_4cfef 13 = .ok (.aload_n 0, 1) := by decide +kernel
theorem dJ1_indexOfChar_4cfef_14 : decode cJ1_indexOfChar_4cfef 14 = .ok (.iload 5, 2) := by decide +kernel
theorem dJ1_indexOfChar_4cfef_16 : decode cJ1_indexOfChar_4cfef 16 = .ok (.baload, 1) := by decide +kernel
theorem dJ1_indexOfChar_4cfef_17 : decode cJ1_indexOfChar_4cfef 17 = .ok (.iload 4, 2) := by decide +kernel
theorem dJ1_indexOfChar_4cfef_19 : decode cJ1_indexOfChar_4cfef 19 = .ok (.if_icmp .ne 6, 3) := by decide +kernel
theorem dJ1_indexOfChar_4cfef_22 : decode cJ1_indexOfChar_4cfef 22 = .ok (.iload 5, 2) := by decide +kernel
theorem dJ1_indexOfChar_4cfef_24 : decode cJ1_indexOfChar_4cfef 24 = .ok (.ireturn, 1) := by decide +kernel
theorem dJ1_indexOfChar_4cfef_25 : decode cJ1_indexOfChar_4cfef 25 = .ok (.iinc 5 1, 3) := by decide +kernel
theorem dJ1_indexOfChar_4cfef_28 : decode cJ1_indexOfChar_4cfef 28 = .ok (.goto (-21), 3) := by decide +kernel
theorem dJ1_indexOfChar_4cfef_31 : decode cJ1_indexOfChar_4cfef 31 = .ok (.iconst (-1), 1) := by decide +kernel
theorem dJ1_indexOfChar_4cfef_32 : decode cJ1_indexOfChar_4cfef 32 = .ok (.ireturn, 1) := by decide +kernel
theorem dJ3_checkIndex_8e157_0 : decode cJ3_checkIndex_8e157 0 = .ok (.iload_n 0, 1) := by decide +kernel
theorem dJ3_checkIndex_8e157_1 : decode cJ3_checkIndex_8e157 1 = .ok (.ifCond .lt 8, 3) := by decide +kernel
theorem dJ3_checkIndex_8e157_4 : decode cJ3_checkIndex_8e157 4 = .ok (.iload_n 0, 1) := by decide +kernel
theorem dJ3_checkIndex_8e157_5 : decode cJ3_checkIndex_8e157 5 = .ok (.iload_n 1, 1) := by decide +kernel
theorem dJ3_checkIndex_8e157_6 : decode cJ3_checkIndex_8e157 6 = .ok (.if_icmp .lt 10, 3) := by decide +kernel
theorem dJ3_checkIndex_8e157_9 : decode cJ3_checkIndex_8e157 9 = .ok (.aload_n 2, 1) := by decide +kernel
theorem dJ3_checkIndex_8e157_10 : decode cJ3_checkIndex_8e157 10 = .ok (.iload_n 0, 1) := by decide +kernel
theorem dJ3_checkIndex_8e157_11 : decode cJ3_checkIndex_8e157 11 = .ok (.iload_n 1, 1) := by decide +kernel
theorem dJ3_checkIndex_8e157_12 : decode cJ3_checkIndex_8e157 12 = .ok (.invokestatic 95, 3) := by decide +kernel
theorem dJ3_checkIndex_8e157_15 : decode cJ3_checkIndex_8e157 15 = .ok (.athrow, 1) := by decide +kernel
theorem dJ3_checkIndex_8e157_16 : decode cJ3_checkIndex_8e157 16 = .ok (.iload_n 0, 1) := by decide +kernel
theorem dJ3_checkIndex_8e157_17 : decode cJ3_checkIndex_8e157 17 = .ok (.ireturn, 1) := by decide +kernel
theorem dJ3_checkFromToIndex_8c36e_0 : decode cJ3_checkFromToIndex_8c36e 0 = .ok (.iload_n 0, 1) := by decide +kernel
theorem dJ3_checkFromToIndex_8c36e_1 : decode cJ3_checkFromToIndex_8c36e 1 = .ok (.ifCond .lt 13, 3) := by decide +kernel
theorem dJ3_checkFromToIndex_8c36e_4 : decode cJ3_checkFromToIndex_8c36e 4 = .ok (.iload_n 0, 1) := by decide +kernel
theorem dJ3_checkFromToIndex_8c36e_5 : decode cJ3_checkFromToIndex_8c36e 5 = .ok (.iload_n 1, 1) := by decide +kernel
theorem dJ3_checkFromToIndex_8c36e_6 : decode cJ3_checkFromToIndex_8c36e 6 = .ok (.if_icmp .gt 8, 3) := by decide +kernel
theorem dJ3_checkFromToIndex_8c36e_9 : decode cJ3_checkFromToIndex_8c36e 9 = .ok (.iload_n 1, 1) := by decide +kernel
theorem dJ3_checkFromToIndex_8c36e_10 : decode cJ3_checkFromToIndex_8c36e 10 = .ok (.iload_n 2, 1) := by decide +kernel
theorem dJ3_checkFromToIndex_8c36e_11 : decode cJ3_checkFromToIndex_8c36e 11 = .ok (.if_icmp .le 11, 3) := by decide +kernel
theorem dJ3_checkFromToIndex_8c36e_14 : decode cJ3_checkFromToIndex_8c36e 14 = .ok (.aload_n 3, 1) := by decide +kernel
theorem dJ3_checkFromToIndex_8c36e_15 : decode cJ3_checkFromToIndex_8c36e 15 = .ok (.iload_n 0, 1) := by decide +kernel
theorem dJ3_checkFromToIndex_8c36e_16 : decode cJ3_checkFromToIndex_8c36e 16 = .ok (.iload_n 1, 1) := by decide +kernel
theorem dJ3_checkFromToIndex_8c36e_17 : decode cJ3_checkFromToIndex_8c36e 17 = .ok (.iload_n 2, 1) := by decide +kernel
theorem dJ3_checkFromToIndex_8c36e_18 : decode cJ3_checkFromToIndex_8c36e 18 = .ok (.invokestatic 99, 3) := by decide +kernel
theorem dJ3_checkFromToIndex_8c36e_21 : decode cJ3_checkFromToIndex_8c36e 21 = .ok (.athrow, 1) := by decide +kernel
theorem dJ3_checkFromToIndex_8c36e_22 : decode cJ3_checkFromToIndex_8c36e 22 = .ok (.iload_n 0, 1) := by decide +kernel
theorem dJ3_checkFromToIndex_8c36e_23 : decode cJ3_checkFromToIndex_8c36e 23 = .ok (.ireturn, 1) := by decide +kernel
theorem dL_law_0 : decode cL_law 0 = .ok (.new 7, 3) := by decide +kernel
theorem dL_law_3 : decode cL_law 3 = .ok (.dup, 1) := by decide +kernel
theorem dL_law_4 : decode cL_law 4 = .ok (.invokespecial 9, 3) := by decide +kernel
theorem dL_law_7 : decode cL_law 7 = .ok (.astore_n 1, 1) := by decide +kernel
theorem dL_law_8 : decode cL_law 8 = .ok (.new 10, 3) := by decide +kernel
theorem dL_law_11 : decode cL_law 11 = .ok (.dup, 1) := by decide +kernel
theorem dL_law_12 : decode cL_law 12 = .ok (.invokespecial 12, 3) := by decide +kernel
theorem dL_law_15 : decode cL_law 15 = .ok (.astore_n 2, 1) := by decide +kernel
theorem dL_law_16 : decode cL_law 16 = .ok (.iconst 0, 1) := by decide +kernel
theorem dL_law_17 : decode cL_law 17 = .ok (.istore_n 3, 1) := by decide +kernel
theorem dL_law_18 : decode cL_law 18 = .ok (.iload_n 3, 1) := by decide +kernel
theorem dL_law_19 : decode cL_law 19 = .ok (.aload_n 0, 1) := by decide +kernel
theorem dL_law_20 : decode cL_law 20 = .ok (.arraylength, 1) := by decide +kernel
theorem dL_law_21 : decode cL_law 21 = .ok (.bipush 6, 2) := by decide +kernel
theorem dL_law_23 : decode cL_law 23 = .ok (.isub, 1) := by decide +kernel
theorem dL_law_24 : decode cL_law 24 = .ok (.if_icmp .gt 1397, 3) := by decide +kernel
theorem dL_law_27 : decode cL_law 27 = .ok (.aload_n 0, 1) := by decide +kernel
theorem dL_law_28 : decode cL_law 28 = .ok (.iload_n 3, 1) := by decide +kernel
theorem dL_law_29 : decode cL_law 29 = .ok (.iaload, 1) := by decide +kernel
theorem dL_law_30 : decode cL_law 30 = .ok (.bipush 63, 2) := by decide +kernel
theorem dL_law_32 : decode cL_law 32 = .ok (.iand, 1) := by decide +kernel
theorem dL_law_33 : decode cL_law 33 = .ok (.tableswitch 1382 0 40 #[179, 222, 255, 288, 321, 354, 397, 430, 463, 486, 509, 542, 565, 588, 621, 634, 667, 690, 723, 746, 779, 792, 815, 858, 881, 894, 927, 950, 993, 1036, 1059, 1082, 1145, 1188, 1221, 1254, 1287, 1310, 1333, 1346, 1359], 179) := by decide +kernel
theorem dL_law_212 : decode cL_law 212 = .ok (.aload_n 1, 1) := by decide +kernel
theorem dL_law_213 : decode cL_law 213 = .ok (.aload_n 0, 1) := by decide +kernel
theorem dL_law_214 : decode cL_law 214 = .ok (.iload_n 3, 1) := by decide +kernel
theorem dL_law_215 : decode cL_law 215 = .ok (.iconst 1, 1) := by decide +kernel
theorem dL_law_216 : decode cL_law 216 = .ok (.iadd, 1) := by decide +kernel
theorem dL_law_217 : decode cL_law 217 = .ok (.iaload, 1) := by decide +kernel
theorem dL_law_218 : decode cL_law 218 = .ok (.aload_n 0, 1) := by decide +kernel
theorem dL_law_219 : decode cL_law 219 = .ok (.iload_n 3, 1) := by decide +kernel
theorem dL_law_220 : decode cL_law 220 = .ok (.iconst 2, 1) := by decide +kernel
theorem dL_law_221 : decode cL_law 221 = .ok (.iadd, 1) := by decide +kernel
theorem dL_law_222 : decode cL_law 222 = .ok (.iaload, 1) := by decide +kernel
theorem dL_law_223 : decode cL_law 223 = .ok (.aload_n 0, 1) := by decide +kernel
theorem dL_law_224 : decode cL_law 224 = .ok (.iload_n 3, 1) := by decide +kernel
theorem dL_law_225 : decode cL_law 225 = .ok (.iconst 3, 1) := by decide +kernel
theorem dL_law_226 : decode cL_law 226 = .ok (.iadd, 1) := by decide +kernel
theorem dL_law_227 : decode cL_law 227 = .ok (.iaload, 1) := by decide +kernel
theorem dL_law_228 : decode cL_law 228 = .ok (.invokevirtual 13, 3) := by decide +kernel
theorem dL_law_231 : decode cL_law 231 = .ok (.aload_n 2, 1) := by decide +kernel
theorem dL_law_232 : decode cL_law 232 = .ok (.aload_n 0, 1) := by decide +kernel
theorem dL_law_233 : decode cL_law 233 = .ok (.iload_n 3, 1) := by decide +kernel
theorem dL_law_234 : decode cL_law 234 = .ok (.iconst 1, 1) := by decide +kernel
theorem dL_law_235 : decode cL_law 235 = .ok (.iadd, 1) := by decide +kernel
theorem dL_law_236 : decode cL_law 236 = .ok (.iaload, 1) := by decide +kernel
theorem dL_law_237 : decode cL_law 237 = .ok (.aload_n 0, 1) := by decide +kernel
theorem dL_law_238 : decode cL_law 238 = .ok (.iload_n 3, 1) := by decide +kernel
theorem dL_law_239 : decode cL_law 239 = .ok (.iconst 2, 1) := by decide +kernel
theorem dL_law_240 : decode cL_law 240 = .ok (.iadd, 1) := by decide +kernel
theorem dL_law_241 : decode cL_law 241 = .ok (.iaload, 1) := by decide +kernel
theorem dL_law_242 : decode cL_law 242 = .ok (.aload_n 0, 1) := by decide +kernel
theorem dL_law_243 : decode cL_law 243 = .ok (.iload_n 3, 1) := by decide +kernel
theorem dL_law_244 : decode cL_law 244 = .ok (.iconst 3, 1) := by decide +kernel
theorem dL_law_245 : decode cL_law 245 = .ok (.iadd, 1) := by decide +kernel
theorem dL_law_246 : decode cL_law 246 = .ok (.iaload, 1) := by decide +kernel
theorem dL_law_247 : decode cL_law 247 = .ok (.invokevirtual 17, 3) := by decide +kernel
theorem dL_law_250 : decode cL_law 250 = .ok (.if_icmp .eq 1165, 3) := by decide +kernel
theorem dL_law_253 : decode cL_law 253 = .ok (.iconst 0, 1) := by decide +kernel
theorem dL_law_254 : decode cL_law 254 = .ok (.ireturn, 1) := by decide +kernel
theorem dL_law_255 : decode cL_law 255 = .ok (.aload_n 1, 1) := by decide +kernel
theorem dL_law_256 : decode cL_law 256 = .ok (.aload_n 0, 1) := by decide +kernel
theorem dL_law_257 : decode cL_law 257 = .ok (.iload_n 3, 1) := by decide +kernel
theorem dL_law_258 : decode cL_law 258 = .ok (.iconst 1, 1) := by decide +kernel
theorem dL_law_259 : decode cL_law 259 = .ok (.iadd, 1) := by decide +kernel
theorem dL_law_260 : decode cL_law 260 = .ok (.iaload, 1) := by decide +kernel
theorem dL_law_261 : decode cL_law 261 = .ok (.aload_n 0, 1) := by decide +kernel
theorem dL_law_262 : decode cL_law 262 = .ok (.iload_n 3, 1) := by decide +kernel
theorem dL_law_263 : decode cL_law 263 = .ok (.iconst 2, 1) := by decide +kernel
theorem dL_law_264 : decode cL_law 264 = .ok (.iadd, 1) := by decide +kernel
theorem dL_law_265 : decode cL_law 265 = .ok (.iaload, 1) := by decide +kernel
theorem dL_law_266 : decode cL_law 266 = .ok (.invokevirtual 18, 3) := by decide +kernel
theorem dL_law_269 : decode cL_law 269 = .ok (.aload_n 2, 1) := by decide +kernel
theorem dL_law_270 : decode cL_law 270 = .ok (.aload_n 0, 1) := by decide +kernel
theorem dL_law_271 : decode cL_law 271 = .ok (.iload_n 3, 1) := by decide +kernel
theorem dL_law_272 : decode cL_law 272 = .ok (.iconst 1, 1) := by decide +kernel
theorem dL_law_273 : decode cL_law 273 = .ok (.iadd, 1) := by decide +kernel
theorem dL_law_274 : decode cL_law 274 = .ok (.iaload, 1) := by decide +kernel
theorem dL_law_275 : decode cL_law 275 = .ok (.aload_n 0, 1) := by decide +kernel
theorem dL_law_276 : decode cL_law 276 = .ok (.iload_n 3, 1) := by decide +kernel
theorem dL_law_277 : decode cL_law 277 = .ok (.iconst 2, 1) := by decide +kernel
theorem dL_law_278 : decode cL_law 278 = .ok (.iadd, 1) := by decide +kernel
theorem dL_law_279 : decode cL_law 279 = .ok (.iaload, 1) := by decide +kernel
theorem dL_law_280 : decode cL_law 280 = .ok (.invokevirtual 22, 3) := by decide +kernel
theorem dL_law_283 : decode cL_law 283 = .ok (.if_icmp .eq 1132, 3) := by decide +kernel
theorem dL_law_286 : decode cL_law 286 = .ok (.iconst 0, 1) := by decide +kernel
theorem dL_law_287 : decode cL_law 287 = .ok (.ireturn, 1) := by decide +kernel
theorem dL_law_288 : decode cL_law 288 = .ok (.aload_n 1, 1) := by decide +kernel
theorem dL_law_289 : decode cL_law 289 = .ok (.aload_n 0, 1) := by decide +kernel
theorem dL_law_290 : decode cL_law 290 = .ok (.iload_n 3, 1) := by decide +kernel
theorem dL_law_291 : decode cL_law 291 = .ok (.iconst 1, 1) := by decide +kernel
theorem dL_law_292 : decode cL_law 292 = .ok (.iadd, 1) := by decide +kernel
theorem dL_law_293 : decode cL_law 293 = .ok (.iaload, 1) := by decide +kernel
theorem dL_law_294 : decode cL_law 294 = .ok (.aload_n 0, 1) := by decide +kernel
theorem dL_law_295 : decode cL_law 295 = .ok (.iload_n 3, 1) := by decide +kernel
theorem dL_law_296 : decode cL_law 296 = .ok (.iconst 2, 1) := by decide +kernel
theorem dL_law_297 : decode cL_law 297 = .ok (.iadd, 1) := by decide +kernel
theorem dL_law_298 : decode cL_law 298 = .ok (.iaload, 1) := by decide +kernel
theorem dL_law_299 : decode cL_law 299 = .ok (.invokevirtual 23, 3) := by decide +kernel
theorem dL_law_302 : decode cL_law 302 = .ok (.aload_n 2, 1) := by decide +kernel
theorem dL_law_303 : decode cL_law 303 = .ok (.aload_n 0, 1) := by decide +kernel
theorem dL_law_304 : decode cL_law 304 = .ok (.iload_n 3, 1) := by decide +kernel
theorem dL_law_305 : decode cL_law 305 = .ok (.iconst 1, 1) := by decide +kernel
theorem dL_law_306 : decode cL_law 306 = .ok (.iadd, 1) := by decide +kernel
theorem dL_law_307 : decode cL_law 307 = .ok (.iaload, 1) := by decide +kernel
theorem dL_law_308 : decode cL_law 308 = .ok (.aload_n 0, 1) := by decide +kernel
theorem dL_law_309 : decode cL_law 309 = .ok (.iload_n 3, 1) := by decide +kernel
theorem dL_law_310 : decode cL_law 310 = .ok (.iconst 2, 1) := by decide +kernel
theorem dL_law_311 : decode cL_law 311 = .ok (.iadd, 1) := by decide +kernel
theorem dL_law_312 : decode cL_law 312 = .ok (.iaload, 1) := by decide +kernel
theorem dL_law_313 : decode cL_law 313 = .ok (.invokevirtual 26, 3) := by decide +kernel
theorem dL_law_316 : decode cL_law 316 = .ok (.if_icmp .eq 1099, 3) := by decide +kernel
theorem dL_law_319 : decode cL_law 319 = .ok (.iconst 0, 1) := by decide +kernel
theorem dL_law_320 : decode cL_law 320 = .ok (.ireturn, 1) := by decide +kernel
theorem dL_law_321 : decode cL_law 321 = .ok (.aload_n 1, 1) := by decide +kernel
theorem dL_law_322 : decode cL_law 322 = .ok (.aload_n 0, 1) := by decide +kernel
theorem dL_law_323 : decode cL_law 323 = .ok (.iload_n 3, 1) := by decide +kernel
theorem dL_law_324 : decode cL_law 324 = .ok (.iconst 1, 1) := by decide +kernel
theorem dL_law_325 : decode cL_law 325 = .ok (.iadd, 1) := by decide +kernel
theorem dL_law_326 : decode cL_law 326 = .ok (.iaload, 1) := by decide +kernel
theorem dL_law_327 : decode cL_law 327 = .ok (.aload_n 0, 1) := by decide +kernel
theorem dL_law_328 : decode cL_law 328 = .ok (.iload_n 3, 1) := by decide +kernel
theorem dL_law_329 : decode cL_law 329 = .ok (.iconst 2, 1) := by decide +kernel
theorem dL_law_330 : decode cL_law 330 = .ok (.iadd, 1) := by decide +kernel
theorem dL_law_331 : decode cL_law 331 = .ok (.iaload, 1) := by decide +kernel
theorem dL_law_332 : decode cL_law 332 = .ok (.invokevirtual 27, 3) := by decide +kernel
theorem dL_law_335 : decode cL_law 335 = .ok (.aload_n 2, 1) := by decide +kernel
theorem dL_law_336 : decode cL_law 336 = .ok (.aload_n 0, 1) := by decide +kernel
theorem dL_law_337 : decode cL_law 337 = .ok (.iload_n 3, 1) := by decide +kernel
theorem dL_law_338 : decode cL_law 338 = .ok (.iconst 1, 1) := by decide +kernel
theorem dL_law_339 : decode cL_law 339 = .ok (.iadd, 1) := by decide +kernel
theorem dL_law_340 : decode cL_law 340 = .ok (.iaload, 1) := by decide +kernel
theorem dL_law_341 : decode cL_law 341 = .ok (.aload_n 0, 1) := by decide +kernel
theorem dL_law_342 : decode cL_law 342 = .ok (.iload_n 3, 1) := by decide +kernel
theorem dL_law_343 : decode cL_law 343 = .ok (.iconst 2, 1) := by decide +kernel
theorem dL_law_344 : decode cL_law 344 = .ok (.iadd, 1) := by decide +kernel
theorem dL_law_345 : decode cL_law 345 = .ok (.iaload, 1) := by decide +kernel
theorem dL_law_346 : decode cL_law 346 = .ok (.invokevirtual 30, 3) := by decide +kernel
theorem dL_law_349 : decode cL_law 349 = .ok (.if_icmp .eq 1066, 3) := by decide +kernel
theorem dL_law_352 : decode cL_law 352 = .ok (.iconst 0, 1) := by decide +kernel
theorem dL_law_353 : decode cL_law 353 = .ok (.ireturn, 1) := by decide +kernel
theorem dL_law_354 : decode cL_law 354 = .ok (.aload_n 1, 1) := by decide +kernel
theorem dL_law_355 : decode cL_law 355 = .ok (.aload_n 0, 1) := by decide +kernel
theorem dL_law_356 : decode cL_law 356 = .ok (.iload_n 3, 1) := by decide +kernel
theorem dL_law_357 : decode cL_law 357 = .ok (.iconst 1, 1) := by decide +kernel
theorem dL_law_358 : decode cL_law 358 = .ok (.iadd, 1) := by decide +kernel
theorem dL_law_359 : decode cL_law 359 = .ok (.iaload, 1) := by decide +kernel
theorem dL_law_360 : decode cL_law 360 = .ok (.aload_n 0, 1) := by decide +kernel
theorem dL_law_361 : decode cL_law 361 = .ok (.iload_n 3, 1) := by decide +kernel
theorem dL_law_362 : decode cL_law 362 = .ok (.iconst 2, 1) := by decide +kernel
theorem dL_law_363 : decode cL_law 363 = .ok (.iadd, 1) := by decide +kernel
theorem dL_law_364 : decode cL_law 364 = .ok (.iaload, 1) := by decide +kernel
theorem dL_law_365 : decode cL_law 365 = .ok (.invokevirtual 31, 3) := by decide +kernel
theorem dL_law_368 : decode cL_law 368 = .ok (.aload_n 2, 1) := by decide +kernel
theorem dL_law_369 : decode cL_law 369 = .ok (.aload_n 0, 1) := by decide +kernel
theorem dL_law_370 : decode cL_law 370 = .ok (.iload_n 3, 1) := by decide +kernel
theorem dL_law_371 : decode cL_law 371 = .ok (.iconst 1, 1) := by decide +kernel
theorem dL_law_372 : decode cL_law 372 = .ok (.iadd, 1) := by decide +kernel
theorem dL_law_373 : decode cL_law 373 = .ok (.iaload, 1) := by decide +kernel
theorem dL_law_374 : decode cL_law 374 = .ok (.aload_n 0, 1) := by decide +kernel
theorem dL_law_375 : decode cL_law 375 = .ok (.iload_n 3, 1) := by decide +kernel
theorem dL_law_376 : decode cL_law 376 = .ok (.iconst 2, 1) := by decide +kernel
theorem dL_law_377 : decode cL_law 377 = .ok (.iadd, 1) := by decide +kernel
theorem dL_law_378 : decode cL_law 378 = .ok (.iaload, 1) := by decide +kernel
theorem dL_law_379 : decode cL_law 379 = .ok (.invokevirtual 34, 3) := by decide +kernel
theorem dL_law_382 : decode cL_law 382 = .ok (.if_icmp .eq 1033, 3) := by decide +kernel
theorem dL_law_385 : decode cL_law 385 = .ok (.iconst 0, 1) := by decide +kernel
theorem dL_law_386 : decode cL_law 386 = .ok (.ireturn, 1) := by decide +kernel
theorem dL_law_387 : decode cL_law 387 = .ok (.aload_n 1, 1) := by decide +kernel
theorem dL_law_388 : decode cL_law 388 = .ok (.aload_n 0, 1) := by decide +kernel
theorem dL_law_389 : decode cL_law 389 = .ok (.iload_n 3, 1) := by decide +kernel
theorem dL_law_390 : decode cL_law 390 = .ok (.iconst 1, 1) := by decide +kernel
theorem dL_law_391 : decode cL_law 391 = .ok (.iadd, 1) := by decide +kernel
theorem dL_law_392 : decode cL_law 392 = .ok (.iaload, 1) := by decide +kernel
theorem dL_law_393 : decode cL_law 393 = .ok (.aload_n 0, 1) := by decide +kernel
theorem dL_law_394 : decode cL_law 394 = .ok (.iload_n 3, 1) := by decide +kernel
theorem dL_law_395 : decode cL_law 395 = .ok (.iconst 2, 1) := by decide +kernel
theorem dL_law_396 : decode cL_law 396 = .ok (.iadd, 1) := by decide +kernel
theorem dL_law_397 : decode cL_law 397 = .ok (.iaload, 1) := by decide +kernel
theorem dL_law_398 : decode cL_law 398 = .ok (.aload_n 0, 1) := by decide +kernel
theorem dL_law_399 : decode cL_law 399 = .ok (.iload_n 3, 1) := by decide +kernel
theorem dL_law_400 : decode cL_law 400 = .ok (.iconst 3, 1) := by decide +kernel
theorem dL_law_401 : decode cL_law 401 = .ok (.iadd, 1) := by decide +kernel
theorem dL_law_402 : decode cL_law 402 = .ok (.iaload, 1) := by decide +kernel
theorem dL_law_403 : decode cL_law 403 = .ok (.invokevirtual 35, 3) := by decide +kernel
theorem dL_law_406 : decode cL_law 406 = .ok (.aload_n 2, 1) := by decide +kernel
theorem dL_law_407 : decode cL_law 407 = .ok (.aload_n 0, 1) := by decide +kernel
theorem dL_law_408 : decode cL_law 408 = .ok (.iload_n 3, 1) := by decide +kernel
theorem dL_law_409 : decode cL_law 409 = .ok (.iconst 1, 1) := by decide +kernel
theorem dL_law_410 : decode cL_law 410 = .ok (.iadd, 1) := by decide +kernel
theorem dL_law_411 : decode cL_law 411 = .ok (.iaload, 1) := by decide +kernel
theorem dL_law_412 : decode cL_law 412 = .ok (.aload_n 0, 1) := by decide +kernel
theorem dL_law_413 : decode cL_law 413 = .ok (.iload_n 3, 1) := by decide +kernel
theorem dL_law_414 : decode cL_law 414 = .ok (.iconst 2, 1) := by decide +kernel
theorem dL_law_415 : decode cL_law 415 = .ok (.iadd, 1) := by decide +kernel
theorem dL_law_416 : decode cL_law 416 = .ok (.iaload, 1) := by decide +kernel
theorem dL_law_417 : decode cL_law 417 = .ok (.aload_n 0, 1) := by decide +kernel
theorem dL_law_418 : decode cL_law 418 = .ok (.iload_n 3, 1) := by decide +kernel
theorem dL_law_419 : decode cL_law 419 = .ok (.iconst 3, 1) := by decide +kernel
theorem dL_law_420 : decode cL_law 420 = .ok (.iadd, 1) := by decide +kernel
theorem dL_law_421 : decode cL_law 421 = .ok (.iaload, 1) := by decide +kernel
theorem dL_law_422 : decode cL_law 422 = .ok (.invokevirtual 38, 3) := by decide +kernel
theorem dL_law_425 : decode cL_law 425 = .ok (.if_icmp .eq 990, 3) := by decide +kernel
theorem dL_law_428 : decode cL_law 428 = .ok (.iconst 0, 1) := by decide +kernel
theorem dL_law_429 : decode cL_law 429 = .ok (.ireturn, 1) := by decide +kernel
theorem dL_law_430 : decode cL_law 430 = .ok (.aload_n 1, 1) := by decide +kernel
theorem dL_law_431 : decode cL_law 431 = .ok (.aload_n 0, 1) := by decide +kernel
theorem dL_law_432 : decode cL_law 432 = .ok (.iload_n 3, 1) := by decide +kernel
theorem dL_law_433 : decode cL_law 433 = .ok (.iconst 1, 1) := by decide +kernel
theorem dL_law_434 : decode cL_law 434 = .ok (.iadd, 1) := by decide +kernel
theorem dL_law_435 : decode cL_law 435 = .ok (.iaload, 1) := by decide +kernel
theorem dL_law_436 : decode cL_law 436 = .ok (.aload_n 0, 1) := by decide +kernel
theorem dL_law_437 : decode cL_law 437 = .ok (.iload_n 3, 1) := by decide +kernel
theorem dL_law_438 : decode cL_law 438 = .ok (.iconst 2, 1) := by decide +kernel
theorem dL_law_439 : decode cL_law 439 = .ok (.iadd, 1) := by decide +kernel
theorem dL_law_440 : decode cL_law 440 = .ok (.iaload, 1) := by decide +kernel
theorem dL_law_441 : decode cL_law 441 = .ok (.invokevirtual 39, 3) := by decide +kernel
theorem dL_law_444 : decode cL_law 444 = .ok (.aload_n 2, 1) := by decide +kernel
theorem dL_law_445 : decode cL_law 445 = .ok (.aload_n 0, 1) := by decide +kernel
theorem dL_law_446 : decode cL_law 446 = .ok (.iload_n 3, 1) := by decide +kernel
theorem dL_law_447 : decode cL_law 447 = .ok (.iconst 1, 1) := by decide +kernel
theorem dL_law_448 : decode cL_law 448 = .ok (.iadd, 1) := by decide +kernel
theorem dL_law_449 : decode cL_law 449 = .ok (.iaload, 1) := by decide +kernel
theorem dL_law_450 : decode cL_law 450 = .ok (.aload_n 0, 1) := by decide +kernel
theorem dL_law_451 : decode cL_law 451 = .ok (.iload_n 3, 1) := by decide +kernel
theorem dL_law_452 : decode cL_law 452 = .ok (.iconst 2, 1) := by decide +kernel
theorem dL_law_453 : decode cL_law 453 = .ok (.iadd, 1) := by decide +kernel
theorem dL_law_454 : decode cL_law 454 = .ok (.iaload, 1) := by decide +kernel
theorem dL_law_455 : decode cL_law 455 = .ok (.invokevirtual 42, 3) := by decide +kernel
theorem dL_law_458 : decode cL_law 458 = .ok (.if_icmp .eq 957, 3) := by decide +kernel
theorem dL_law_461 : decode cL_law 461 = .ok (.iconst 0, 1) := by decide +kernel
theorem dL_law_462 : decode cL_law 462 = .ok (.ireturn, 1) := by decide +kernel
theorem dL_law_463 : decode cL_law 463 = .ok (.aload_n 1, 1) := by decide +kernel
theorem dL_law_464 : decode cL_law 464 = .ok (.aload_n 0, 1) := by decide +kernel
theorem dL_law_465 : decode cL_law 465 = .ok (.iload_n 3, 1) := by decide +kernel
theorem dL_law_466 : decode cL_law 466 = .ok (.iconst 1, 1) := by decide +kernel
theorem dL_law_467 : decode cL_law 467 = .ok (.iadd, 1) := by decide +kernel
theorem dL_law_468 : decode cL_law 468 = .ok (.iaload, 1) := by decide +kernel
theorem dL_law_469 : decode cL_law 469 = .ok (.aload_n 0, 1) := by decide +kernel
theorem dL_law_470 : decode cL_law 470 = .ok (.iload_n 3, 1) := by decide +kernel
theorem dL_law_471 : decode cL_law 471 = .ok (.iconst 2, 1) := by decide +kernel
theorem dL_law_472 : decode cL_law 472 = .ok (.iadd, 1) := by decide +kernel
theorem dL_law_473 : decode cL_law 473 = .ok (.iaload, 1) := by decide +kernel
theorem dL_law_474 : decode cL_law 474 = .ok (.invokevirtual 43, 3) := by decide +kernel
theorem dL_law_477 : decode cL_law 477 = .ok (.aload_n 2, 1) := by decide +kernel
theorem dL_law_478 : decode cL_law 478 = .ok (.aload_n 0, 1) := by decide +kernel
theorem dL_law_479 : decode cL_law 479 = .ok (.iload_n 3, 1) := by decide +kernel
theorem dL_law_480 : decode cL_law 480 = .ok (.iconst 1, 1) := by decide +kernel
theorem dL_law_481 : decode cL_law 481 = .ok (.iadd, 1) := by decide +kernel
theorem dL_law_482 : decode cL_law 482 = .ok (.iaload, 1) := by decide +kernel
theorem dL_law_483 : decode cL_law 483 = .ok (.aload_n 0, 1) := by decide +kernel
theorem dL_law_484 : decode cL_law 484 = .ok (.iload_n 3, 1) := by decide +kernel
theorem dL_law_485 : decode cL_law 485 = .ok (.iconst 2, 1) := by decide +kernel
theorem dL_law_486 : decode cL_law 486 = .ok (.iadd, 1) := by decide +kernel
theorem dL_law_487 : decode cL_law 487 = .ok (.iaload, 1) := by decide +kernel
theorem dL_law_488 : decode cL_law 488 = .ok (.invokevirtual 46, 3) := by decide +kernel
theorem dL_law_491 : decode cL_law 491 = .ok (.if_icmp .eq 924, 3) := by decide +kernel
theorem dL_law_494 : decode cL_law 494 = .ok (.iconst 0, 1) := by decide +kernel
theorem dL_law_495 : decode cL_law 495 = .ok (.ireturn, 1) := by decide +kernel
theorem dL_law_496 : decode cL_law 496 = .ok (.aload_n 1, 1) := by decide +kernel
theorem dL_law_497 : decode cL_law 497 = .ok (.aload_n 0, 1) := by decide +kernel
theorem dL_law_498 : decode cL_law 498 = .ok (.iload_n 3, 1) := by decide +kernel
theorem dL_law_499 : decode cL_law 499 = .ok (.iconst 1, 1) := by decide +kernel
theorem dL_law_500 : decode cL_law 500 = .ok (.iadd, 1) := by decide +kernel
theorem dL_law_501 : decode cL_law 501 = .ok (.iaload, 1) := by decide +kernel
theorem dL_law_502 : decode cL_law 502 = .ok (.invokevirtual 47, 3) := by decide +kernel
theorem dL_law_505 : decode cL_law 505 = .ok (.aload_n 2, 1) := by decide +kernel
theorem dL_law_506 : decode cL_law 506 = .ok (.aload_n 0, 1) := by decide +kernel
theorem dL_law_507 : decode cL_law 507 = .ok (.iload_n 3, 1) := by decide +kernel
theorem dL_law_508 : decode cL_law 508 = .ok (.iconst 1, 1) := by decide +kernel
theorem dL_law_509 : decode cL_law 509 = .ok (.iadd, 1) := by decide +kernel
theorem dL_law_510 : decode cL_law 510 = .ok (.iaload, 1) := by decide +kernel
theorem dL_law_511 : decode cL_law 511 = .ok (.invokevirtual 51, 3) := by decide +kernel
theorem dL_law_514 : decode cL_law 514 = .ok (.if_icmp .eq 901, 3) := by decide +kernel
theorem dL_law_517 : decode cL_law 517 = .ok (.iconst 0, 1) := by decide +kernel
theorem dL_law_518 : decode cL_law 518 = .ok (.ireturn, 1) := by decide +kernel
theorem dL_law_519 : decode cL_law 519 = .ok (.aload_n 1, 1) := by decide +kernel
theorem dL_law_520 : decode cL_law 520 = .ok (.aload_n 0, 1) := by decide +kernel
theorem dL_law_521 : decode cL_law 521 = .ok (.iload_n 3, 1) := by decide +kernel
theorem dL_law_522 : decode cL_law 522 = .ok (.iconst 1, 1) := by decide +kernel
theorem dL_law_523 : decode cL_law 523 = .ok (.iadd, 1) := by decide +kernel
theorem dL_law_524 : decode cL_law 524 = .ok (.iaload, 1) := by decide +kernel
theorem dL_law_525 : decode cL_law 525 = .ok (.invokevirtual 52, 3) := by decide +kernel
theorem dL_law_528 : decode cL_law 528 = .ok (.aload_n 2, 1) := by decide +kernel
theorem dL_law_529 : decode cL_law 529 = .ok (.aload_n 0, 1) := by decide +kernel
theorem dL_law_530 : decode cL_law 530 = .ok (.iload_n 3, 1) := by decide +kernel
theorem dL_law_531 : decode cL_law 531 = .ok (.iconst 1, 1) := by decide +kernel
theorem dL_law_532 : decode cL_law 532 = .ok (.iadd, 1) := by decide +kernel
theorem dL_law_533 : decode cL_law 533 = .ok (.iaload, 1) := by decide +kernel
theorem dL_law_534 : decode cL_law 534 = .ok (.invokevirtual 55, 3) := by decide +kernel
theorem dL_law_537 : decode cL_law 537 = .ok (.if_icmp .eq 878, 3) := by decide +kernel
theorem dL_law_540 : decode cL_law 540 = .ok (.iconst 0, 1) := by decide +kernel
theorem dL_law_541 : decode cL_law 541 = .ok (.ireturn, 1) := by decide +kernel
theorem dL_law_542 : decode cL_law 542 = .ok (.aload_n 1, 1) := by decide +kernel
theorem dL_law_543 : decode cL_law 543 = .ok (.aload_n 0, 1) := by decide +kernel
theorem dL_law_544 : decode cL_law 544 = .ok (.iload_n 3, 1) := by decide +kernel
theorem dL_law_545 : decode cL_law 545 = .ok (.iconst 1, 1) := by decide +kernel
theorem dL_law_546 : decode cL_law 546 = .ok (.iadd, 1) := by decide +kernel
theorem dL_law_547 : decode cL_law 547 = .ok (.iaload, 1) := by decide +kernel
theorem dL_law_548 : decode cL_law 548 = .ok (.aload_n 0, 1) := by decide +kernel
theorem dL_law_549 : decode cL_law 549 = .ok (.iload_n 3, 1) := by decide +kernel
theorem dL_law_550 : decode cL_law 550 = .ok (.iconst 2, 1) := by decide +kernel
theorem dL_law_551 : decode cL_law 551 = .ok (.iadd, 1) := by decide +kernel
theorem dL_law_552 : decode cL_law 552 = .ok (.iaload, 1) := by decide +kernel
theorem dL_law_553 : decode cL_law 553 = .ok (.invokevirtual 56, 3) := by decide +kernel
theorem dL_law_556 : decode cL_law 556 = .ok (.aload_n 2, 1) := by decide +kernel
theorem dL_law_557 : decode cL_law 557 = .ok (.aload_n 0, 1) := by decide +kernel
theorem dL_law_558 : decode cL_law 558 = .ok (.iload_n 3, 1) := by decide +kernel
theorem dL_law_559 : decode cL_law 559 = .ok (.iconst 1, 1) := by decide +kernel
theorem dL_law_560 : decode cL_law 560 = .ok (.iadd, 1) := by decide +kernel
theorem dL_law_561 : decode cL_law 561 = .ok (.iaload, 1) := by decide +kernel
theorem dL_law_562 : decode cL_law 562 = .ok (.aload_n 0, 1) := by decide +kernel
theorem dL_law_563 : decode cL_law 563 = .ok (.iload_n 3, 1) := by decide +kernel
theorem dL_law_564 : decode cL_law 564 = .ok (.iconst 2, 1) := by decide +kernel
theorem dL_law_565 : decode cL_law 565 = .ok (.iadd, 1) := by decide +kernel
theorem dL_law_566 : decode cL_law 566 = .ok (.iaload, 1) := by decide +kernel
theorem dL_law_567 : decode cL_law 567 = .ok (.invokevirtual 59, 3) := by decide +kernel
theorem dL_law_570 : decode cL_law 570 = .ok (.if_icmp .eq 845, 3) := by decide +kernel
theorem dL_law_573 : decode cL_law 573 = .ok (.iconst 0, 1) := by decide +kernel
theorem dL_law_574 : decode cL_law 574 = .ok (.ireturn, 1) := by decide +kernel
theorem dL_law_575 : decode cL_law 575 = .ok (.aload_n 1, 1) := by decide +kernel
theorem dL_law_576 : decode cL_law 576 = .ok (.aload_n 0, 1) := by decide +kernel
theorem dL_law_577 : decode cL_law 577 = .ok (.iload_n 3, 1) := by decide +kernel
theorem dL_law_578 : decode cL_law 578 = .ok (.iconst 1, 1) := by decide +kernel
theorem dL_law_579 : decode cL_law 579 = .ok (.iadd, 1) := by decide +kernel
theorem dL_law_580 : decode cL_law 580 = .ok (.iaload, 1) := by decide +kernel
theorem dL_law_581 : decode cL_law 581 = .ok (.invokevirtual 60, 3) := by decide +kernel
theorem dL_law_584 : decode cL_law 584 = .ok (.aload_n 2, 1) := by decide +kernel
theorem dL_law_585 : decode cL_law 585 = .ok (.aload_n 0, 1) := by decide +kernel
theorem dL_law_586 : decode cL_law 586 = .ok (.iload_n 3, 1) := by decide +kernel
theorem dL_law_587 : decode cL_law 587 = .ok (.iconst 1, 1) := by decide +kernel
theorem dL_law_588 : decode cL_law 588 = .ok (.iadd, 1) := by decide +kernel
theorem dL_law_589 : decode cL_law 589 = .ok (.iaload, 1) := by decide +kernel
theorem dL_law_590 : decode cL_law 590 = .ok (.invokevirtual 63, 3) := by decide +kernel
theorem dL_law_593 : decode cL_law 593 = .ok (.if_icmp .eq 822, 3) := by decide +kernel
theorem dL_law_596 : decode cL_law 596 = .ok (.iconst 0, 1) := by decide +kernel
theorem dL_law_597 : decode cL_law 597 = .ok (.ireturn, 1) := by decide +kernel
theorem dL_law_598 : decode cL_law 598 = .ok (.aload_n 1, 1) := by decide +kernel
theorem dL_law_599 : decode cL_law 599 = .ok (.aload_n 0, 1) := by decide +kernel
theorem dL_law_600 : decode cL_law 600 = .ok (.iload_n 3, 1) := by decide +kernel
theorem dL_law_601 : decode cL_law 601 = .ok (.iconst 1, 1) := by decide +kernel
theorem dL_law_602 : decode cL_law 602 = .ok (.iadd, 1) := by decide +kernel
theorem dL_law_603 : decode cL_law 603 = .ok (.iaload, 1) := by decide +kernel
theorem dL_law_604 : decode cL_law 604 = .ok (.invokevirtual 64, 3) := by decide +kernel
theorem dL_law_607 : decode cL_law 607 = .ok (.aload_n 2, 1) := by decide +kernel
theorem dL_law_608 : decode cL_law 608 = .ok (.aload_n 0, 1) := by decide +kernel
theorem dL_law_609 : decode cL_law 609 = .ok (.iload_n 3, 1) := by decide +kernel
theorem dL_law_610 : decode cL_law 610 = .ok (.iconst 1, 1) := by decide +kernel
theorem dL_law_611 : decode cL_law 611 = .ok (.iadd, 1) := by decide +kernel
theorem dL_law_612 : decode cL_law 612 = .ok (.iaload, 1) := by decide +kernel
theorem dL_law_613 : decode cL_law 613 = .ok (.invokevirtual 67, 3) := by decide +kernel
theorem dL_law_616 : decode cL_law 616 = .ok (.if_icmp .eq 799, 3) := by decide +kernel
theorem dL_law_619 : decode cL_law 619 = .ok (.iconst 0, 1) := by decide +kernel
theorem dL_law_620 : decode cL_law 620 = .ok (.ireturn, 1) := by decide +kernel
theorem dL_law_621 : decode cL_law 621 = .ok (.aload_n 1, 1) := by decide +kernel
theorem dL_law_622 : decode cL_law 622 = .ok (.aload_n 0, 1) := by decide +kernel
theorem dL_law_623 : decode cL_law 623 = .ok (.iload_n 3, 1) := by decide +kernel
theorem dL_law_624 : decode cL_law 624 = .ok (.iconst 1, 1) := by decide +kernel
theorem dL_law_625 : decode cL_law 625 = .ok (.iadd, 1) := by decide +kernel
theorem dL_law_626 : decode cL_law 626 = .ok (.iaload, 1) := by decide +kernel
theorem dL_law_627 : decode cL_law 627 = .ok (.aload_n 0, 1) := by decide +kernel
theorem dL_law_628 : decode cL_law 628 = .ok (.iload_n 3, 1) := by decide +kernel
theorem dL_law_629 : decode cL_law 629 = .ok (.iconst 2, 1) := by decide +kernel
theorem dL_law_630 : decode cL_law 630 = .ok (.iadd, 1) := by decide +kernel
theorem dL_law_631 : decode cL_law 631 = .ok (.iaload, 1) := by decide +kernel
theorem dL_law_632 : decode cL_law 632 = .ok (.invokevirtual 68, 3) := by decide +kernel
theorem dL_law_635 : decode cL_law 635 = .ok (.aload_n 2, 1) := by decide +kernel
theorem dL_law_636 : decode cL_law 636 = .ok (.aload_n 0, 1) := by decide +kernel
theorem dL_law_637 : decode cL_law 637 = .ok (.iload_n 3, 1) := by decide +kernel
theorem dL_law_638 : decode cL_law 638 = .ok (.iconst 1, 1) := by decide +kernel
theorem dL_law_639 : decode cL_law 639 = .ok (.iadd, 1) := by decide +kernel
theorem dL_law_640 : decode cL_law 640 = .ok (.iaload, 1) := by decide +kernel
theorem dL_law_641 : decode cL_law 641 = .ok (.aload_n 0, 1) := by decide +kernel
theorem dL_law_642 : decode cL_law 642 = .ok (.iload_n 3, 1) := by decide +kernel
theorem dL_law_643 : decode cL_law 643 = .ok (.iconst 2, 1) := by decide +kernel
theorem dL_law_644 : decode cL_law 644 = .ok (.iadd, 1) := by decide +kernel
theorem dL_law_645 : decode cL_law 645 = .ok (.iaload, 1) := by decide +kernel
theorem dL_law_646 : decode cL_law 646 = .ok (.invokevirtual 71, 3) := by decide +kernel
theorem dL_law_649 : decode cL_law 649 = .ok (.if_icmp .eq 766, 3) := by decide +kernel
theorem dL_law_652 : decode cL_law 652 = .ok (.iconst 0, 1) := by decide +kernel
theorem dL_law_653 : decode cL_law 653 = .ok (.ireturn, 1) := by decide +kernel
theorem dL_law_654 : decode cL_law 654 = .ok (.aload_n 1, 1) := by decide +kernel
theorem dL_law_655 : decode cL_law 655 = .ok (.invokevirtual 72, 3) := by decide +kernel
theorem dL_law_658 : decode cL_law 658 = .ok (.aload_n 2, 1) := by decide +kernel
theorem dL_law_659 : decode cL_law 659 = .ok (.invokevirtual 76, 3) := by decide +kernel
theorem dL_law_662 : decode cL_law 662 = .ok (.if_icmp .eq 753, 3) := by decide +kernel
theorem dL_law_665 : decode cL_law 665 = .ok (.iconst 0, 1) := by decide +kernel
theorem dL_law_666 : decode cL_law 666 = .ok (.ireturn, 1) := by decide +kernel
theorem dL_law_667 : decode cL_law 667 = .ok (.aload_n 1, 1) := by decide +kernel
theorem dL_law_668 : decode cL_law 668 = .ok (.aload_n 0, 1) := by decide +kernel
theorem dL_law_669 : decode cL_law 669 = .ok (.iload_n 3, 1) := by decide +kernel
theorem dL_law_670 : decode cL_law 670 = .ok (.iconst 1, 1) := by decide +kernel
theorem dL_law_671 : decode cL_law 671 = .ok (.iadd, 1) := by decide +kernel
theorem dL_law_672 : decode cL_law 672 = .ok (.iaload, 1) := by decide +kernel
theorem dL_law_673 : decode cL_law 673 = .ok (.aload_n 0, 1) := by decide +kernel
theorem dL_law_674 : decode cL_law 674 = .ok (.iload_n 3, 1) := by decide +kernel
theorem dL_law_675 : decode cL_law 675 = .ok (.iconst 2, 1) := by decide +kernel
theorem dL_law_676 : decode cL_law 676 = .ok (.iadd, 1) := by decide +kernel
theorem dL_law_677 : decode cL_law 677 = .ok (.iaload, 1) := by decide +kernel
theorem dL_law_678 : decode cL_law 678 = .ok (.invokevirtual 77, 3) := by decide +kernel
theorem dL_law_681 : decode cL_law 681 = .ok (.aload_n 2, 1) := by decide +kernel
theorem dL_law_682 : decode cL_law 682 = .ok (.aload_n 0, 1) := by decide +kernel
theorem dL_law_683 : decode cL_law 683 = .ok (.iload_n 3, 1) := by decide +kernel
theorem dL_law_684 : decode cL_law 684 = .ok (.iconst 1, 1) := by decide +kernel
theorem dL_law_685 : decode cL_law 685 = .ok (.iadd, 1) := by decide +kernel
theorem dL_law_686 : decode cL_law 686 = .ok (.iaload, 1) := by decide +kernel
theorem dL_law_687 : decode cL_law 687 = .ok (.aload_n 0, 1) := by decide +kernel
theorem dL_law_688 : decode cL_law 688 = .ok (.iload_n 3, 1) := by decide +kernel
theorem dL_law_689 : decode cL_law 689 = .ok (.iconst 2, 1) := by decide +kernel
theorem dL_law_690 : decode cL_law 690 = .ok (.iadd, 1) := by decide +kernel
theorem dL_law_691 : decode cL_law 691 = .ok (.iaload, 1) := by decide +kernel
theorem dL_law_692 : decode cL_law 692 = .ok (.invokevirtual 80, 3) := by decide +kernel
theorem dL_law_695 : decode cL_law 695 = .ok (.if_icmp .eq 720, 3) := by decide +kernel
theorem dL_law_698 : decode cL_law 698 = .ok (.iconst 0, 1) := by decide +kernel
theorem dL_law_699 : decode cL_law 699 = .ok (.ireturn, 1) := by decide +kernel
theorem dL_law_700 : decode cL_law 700 = .ok (.aload_n 1, 1) := by decide +kernel
theorem dL_law_701 : decode cL_law 701 = .ok (.aload_n 0, 1) := by decide +kernel
theorem dL_law_702 : decode cL_law 702 = .ok (.iload_n 3, 1) := by decide +kernel
theorem dL_law_703 : decode cL_law 703 = .ok (.iconst 1, 1) := by decide +kernel
theorem dL_law_704 : decode cL_law 704 = .ok (.iadd, 1) := by decide +kernel
theorem dL_law_705 : decode cL_law 705 = .ok (.iaload, 1) := by decide +kernel
theorem dL_law_706 : decode cL_law 706 = .ok (.invokevirtual 81, 3) := by decide +kernel
theorem dL_law_709 : decode cL_law 709 = .ok (.aload_n 2, 1) := by decide +kernel
theorem dL_law_710 : decode cL_law 710 = .ok (.aload_n 0, 1) := by decide +kernel
theorem dL_law_711 : decode cL_law 711 = .ok (.iload_n 3, 1) := by decide +kernel
theorem dL_law_712 : decode cL_law 712 = .ok (.iconst 1, 1) := by decide +kernel
theorem dL_law_713 : decode cL_law 713 = .ok (.iadd, 1) := by decide +kernel
theorem dL_law_714 : decode cL_law 714 = .ok (.iaload, 1) := by decide +kernel
theorem dL_law_715 : decode cL_law 715 = .ok (.invokevirtual 84, 3) := by decide +kernel
theorem dL_law_718 : decode cL_law 718 = .ok (.if_icmp .eq 697, 3) := by decide +kernel
theorem dL_law_721 : decode cL_law 721 = .ok (.iconst 0, 1) := by decide +kernel
theorem dL_law_722 : decode cL_law 722 = .ok (.ireturn, 1) := by decide +kernel
theorem dL_law_723 : decode cL_law 723 = .ok (.aload_n 1, 1) := by decide +kernel
theorem dL_law_724 : decode cL_law 724 = .ok (.aload_n 0, 1) := by decide +kernel
theorem dL_law_725 : decode cL_law 725 = .ok (.iload_n 3, 1) := by decide +kernel
theorem dL_law_726 : decode cL_law 726 = .ok (.iconst 1, 1) := by decide +kernel
theorem dL_law_727 : decode cL_law 727 = .ok (.iadd, 1) := by decide +kernel
theorem dL_law_728 : decode cL_law 728 = .ok (.iaload, 1) := by decide +kernel
theorem dL_law_729 : decode cL_law 729 = .ok (.aload_n 0, 1) := by decide +kernel
theorem dL_law_730 : decode cL_law 730 = .ok (.iload_n 3, 1) := by decide +kernel
theorem dL_law_731 : decode cL_law 731 = .ok (.iconst 2, 1) := by decide +kernel
theorem dL_law_732 : decode cL_law 732 = .ok (.iadd, 1) := by decide +kernel
theorem dL_law_733 : decode cL_law 733 = .ok (.iaload, 1) := by decide +kernel
theorem dL_law_734 : decode cL_law 734 = .ok (.invokevirtual 85, 3) := by decide +kernel
theorem dL_law_737 : decode cL_law 737 = .ok (.aload_n 2, 1) := by decide +kernel
theorem dL_law_738 : decode cL_law 738 = .ok (.aload_n 0, 1) := by decide +kernel
theorem dL_law_739 : decode cL_law 739 = .ok (.iload_n 3, 1) := by decide +kernel
theorem dL_law_740 : decode cL_law 740 = .ok (.iconst 1, 1) := by decide +kernel
theorem dL_law_741 : decode cL_law 741 = .ok (.iadd, 1) := by decide +kernel
theorem dL_law_742 : decode cL_law 742 = .ok (.iaload, 1) := by decide +kernel
theorem dL_law_743 : decode cL_law 743 = .ok (.aload_n 0, 1) := by decide +kernel
theorem dL_law_744 : decode cL_law 744 = .ok (.iload_n 3, 1) := by decide +kernel
theorem dL_law_745 : decode cL_law 745 = .ok (.iconst 2, 1) := by decide +kernel
theorem dL_law_746 : decode cL_law 746 = .ok (.iadd, 1) := by decide +kernel
theorem dL_law_747 : decode cL_law 747 = .ok (.iaload, 1) := by decide +kernel
theorem dL_law_748 : decode cL_law 748 = .ok (.invokevirtual 88, 3) := by decide +kernel
theorem dL_law_751 : decode cL_law 751 = .ok (.if_icmp .eq 664, 3) := by decide +kernel
theorem dL_law_754 : decode cL_law 754 = .ok (.iconst 0, 1) := by decide +kernel
theorem dL_law_755 : decode cL_law 755 = .ok (.ireturn, 1) := by decide +kernel
theorem dL_law_756 : decode cL_law 756 = .ok (.aload_n 1, 1) := by decide +kernel
theorem dL_law_757 : decode cL_law 757 = .ok (.aload_n 0, 1) := by decide +kernel
theorem dL_law_758 : decode cL_law 758 = .ok (.iload_n 3, 1) := by decide +kernel
theorem dL_law_759 : decode cL_law 759 = .ok (.iconst 1, 1) := by decide +kernel
theorem dL_law_760 : decode cL_law 760 = .ok (.iadd, 1) := by decide +kernel
theorem dL_law_761 : decode cL_law 761 = .ok (.iaload, 1) := by decide +kernel
theorem dL_law_762 : decode cL_law 762 = .ok (.invokevirtual 89, 3) := by decide +kernel
theorem dL_law_765 : decode cL_law 765 = .ok (.aload_n 2, 1) := by decide +kernel
theorem dL_law_766 : decode cL_law 766 = .ok (.aload_n 0, 1) := by decide +kernel
theorem dL_law_767 : decode cL_law 767 = .ok (.iload_n 3, 1) := by decide +kernel
theorem dL_law_768 : decode cL_law 768 = .ok (.iconst 1, 1) := by decide +kernel
theorem dL_law_769 : decode cL_law 769 = .ok (.iadd, 1) := by decide +kernel
theorem dL_law_770 : decode cL_law 770 = .ok (.iaload, 1) := by decide +kernel
theorem dL_law_771 : decode cL_law 771 = .ok (.invokevirtual 92, 3) := by decide +kernel
theorem dL_law_774 : decode cL_law 774 = .ok (.if_icmp .eq 641, 3) := by decide +kernel
theorem dL_law_777 : decode cL_law 777 = .ok (.iconst 0, 1) := by decide +kernel
theorem dL_law_778 : decode cL_law 778 = .ok (.ireturn, 1) := by decide +kernel
theorem dL_law_779 : decode cL_law 779 = .ok (.aload_n 1, 1) := by decide +kernel
theorem dL_law_780 : decode cL_law 780 = .ok (.aload_n 0, 1) := by decide +kernel
theorem dL_law_781 : decode cL_law 781 = .ok (.iload_n 3, 1) := by decide +kernel
theorem dL_law_782 : decode cL_law 782 = .ok (.iconst 1, 1) := by decide +kernel
theorem dL_law_783 : decode cL_law 783 = .ok (.iadd, 1) := by decide +kernel
theorem dL_law_784 : decode cL_law 784 = .ok (.iaload, 1) := by decide +kernel
theorem dL_law_785 : decode cL_law 785 = .ok (.aload_n 0, 1) := by decide +kernel
theorem dL_law_786 : decode cL_law 786 = .ok (.iload_n 3, 1) := by decide +kernel
theorem dL_law_787 : decode cL_law 787 = .ok (.iconst 2, 1) := by decide +kernel
theorem dL_law_788 : decode cL_law 788 = .ok (.iadd, 1) := by decide +kernel
theorem dL_law_789 : decode cL_law 789 = .ok (.iaload, 1) := by decide +kernel
theorem dL_law_790 : decode cL_law 790 = .ok (.invokevirtual 93, 3) := by decide +kernel
theorem dL_law_793 : decode cL_law 793 = .ok (.aload_n 2, 1) := by decide +kernel
theorem dL_law_794 : decode cL_law 794 = .ok (.aload_n 0, 1) := by decide +kernel
theorem dL_law_795 : decode cL_law 795 = .ok (.iload_n 3, 1) := by decide +kernel
theorem dL_law_796 : decode cL_law 796 = .ok (.iconst 1, 1) := by decide +kernel
theorem dL_law_797 : decode cL_law 797 = .ok (.iadd, 1) := by decide +kernel
theorem dL_law_798 : decode cL_law 798 = .ok (.iaload, 1) := by decide +kernel
theorem dL_law_799 : decode cL_law 799 = .ok (.aload_n 0, 1) := by decide +kernel
theorem dL_law_800 : decode cL_law 800 = .ok (.iload_n 3, 1) := by decide +kernel
theorem dL_law_801 : decode cL_law 801 = .ok (.iconst 2, 1) := by decide +kernel
theorem dL_law_802 : decode cL_law 802 = .ok (.iadd, 1) := by decide +kernel
theorem dL_law_803 : decode cL_law 803 = .ok (.iaload, 1) := by decide +kernel
theorem dL_law_804 : decode cL_law 804 = .ok (.invokevirtual 96, 3) := by decide +kernel
theorem dL_law_807 : decode cL_law 807 = .ok (.if_icmp .eq 608, 3) := by decide +kernel
theorem dL_law_810 : decode cL_law 810 = .ok (.iconst 0, 1) := by decide +kernel
theorem dL_law_811 : decode cL_law 811 = .ok (.ireturn, 1) := by decide +kernel
theorem dL_law_812 : decode cL_law 812 = .ok (.aload_n 1, 1) := by decide +kernel
theorem dL_law_813 : decode cL_law 813 = .ok (.invokevirtual 97, 3) := by decide +kernel
theorem dL_law_816 : decode cL_law 816 = .ok (.aload_n 2, 1) := by decide +kernel
theorem dL_law_817 : decode cL_law 817 = .ok (.invokevirtual 100, 3) := by decide +kernel
theorem dL_law_820 : decode cL_law 820 = .ok (.if_icmp .eq 595, 3) := by decide +kernel
theorem dL_law_823 : decode cL_law 823 = .ok (.iconst 0, 1) := by decide +kernel
theorem dL_law_824 : decode cL_law 824 = .ok (.ireturn, 1) := by decide +kernel
theorem dL_law_825 : decode cL_law 825 = .ok (.aload_n 1, 1) := by decide +kernel
theorem dL_law_826 : decode cL_law 826 = .ok (.aload_n 0, 1) := by decide +kernel
theorem dL_law_827 : decode cL_law 827 = .ok (.iload_n 3, 1) := by decide +kernel
theorem dL_law_828 : decode cL_law 828 = .ok (.iconst 1, 1) := by decide +kernel
theorem dL_law_829 : decode cL_law 829 = .ok (.iadd, 1) := by decide +kernel
theorem dL_law_830 : decode cL_law 830 = .ok (.iaload, 1) := by decide +kernel
theorem dL_law_831 : decode cL_law 831 = .ok (.invokevirtual 101, 3) := by decide +kernel
theorem dL_law_834 : decode cL_law 834 = .ok (.aload_n 2, 1) := by decide +kernel
theorem dL_law_835 : decode cL_law 835 = .ok (.aload_n 0, 1) := by decide +kernel
theorem dL_law_836 : decode cL_law 836 = .ok (.iload_n 3, 1) := by decide +kernel
theorem dL_law_837 : decode cL_law 837 = .ok (.iconst 1, 1) := by decide +kernel
theorem dL_law_838 : decode cL_law 838 = .ok (.iadd, 1) := by decide +kernel
theorem dL_law_839 : decode cL_law 839 = .ok (.iaload, 1) := by decide +kernel
theorem dL_law_840 : decode cL_law 840 = .ok (.invokevirtual 104, 3) := by decide +kernel
theorem dL_law_843 : decode cL_law 843 = .ok (.if_icmp .eq 572, 3) := by decide +kernel
theorem dL_law_846 : decode cL_law 846 = .ok (.iconst 0, 1) := by decide +kernel
theorem dL_law_847 : decode cL_law 847 = .ok (.ireturn, 1) := by decide +kernel
theorem dL_law_848 : decode cL_law 848 = .ok (.aload_n 1, 1) := by decide +kernel
theorem dL_law_849 : decode cL_law 849 = .ok (.aload_n 0, 1) := by decide +kernel
theorem dL_law_850 : decode cL_law 850 = .ok (.iload_n 3, 1) := by decide +kernel
theorem dL_law_851 : decode cL_law 851 = .ok (.iconst 1, 1) := by decide +kernel
theorem dL_law_852 : decode cL_law 852 = .ok (.iadd, 1) := by decide +kernel
theorem dL_law_853 : decode cL_law 853 = .ok (.iaload, 1) := by decide +kernel
theorem dL_law_854 : decode cL_law 854 = .ok (.aload_n 0, 1) := by decide +kernel
theorem dL_law_855 : decode cL_law 855 = .ok (.iload_n 3, 1) := by decide +kernel
theorem dL_law_856 : decode cL_law 856 = .ok (.iconst 2, 1) := by decide +kernel
theorem dL_law_857 : decode cL_law 857 = .ok (.iadd, 1) := by decide +kernel
theorem dL_law_858 : decode cL_law 858 = .ok (.iaload, 1) := by decide +kernel
theorem dL_law_859 : decode cL_law 859 = .ok (.aload_n 0, 1) := by decide +kernel
theorem dL_law_860 : decode cL_law 860 = .ok (.iload_n 3, 1) := by decide +kernel
theorem dL_law_861 : decode cL_law 861 = .ok (.iconst 3, 1) := by decide +kernel
theorem dL_law_862 : decode cL_law 862 = .ok (.iadd, 1) := by decide +kernel
theorem dL_law_863 : decode cL_law 863 = .ok (.iaload, 1) := by decide +kernel
theorem dL_law_864 : decode cL_law 864 = .ok (.invokevirtual 105, 3) := by decide +kernel
theorem dL_law_867 : decode cL_law 867 = .ok (.aload_n 2, 1) := by decide +kernel
theorem dL_law_868 : decode cL_law 868 = .ok (.aload_n 0, 1) := by decide +kernel
theorem dL_law_869 : decode cL_law 869 = .ok (.iload_n 3, 1) := by decide +kernel
theorem dL_law_870 : decode cL_law 870 = .ok (.iconst 1, 1) := by decide +kernel
theorem dL_law_871 : decode cL_law 871 = .ok (.iadd, 1) := by decide +kernel
theorem dL_law_872 : decode cL_law 872 = .ok (.iaload, 1) := by decide +kernel
theorem dL_law_873 : decode cL_law 873 = .ok (.aload_n 0, 1) := by decide +kernel
theorem dL_law_874 : decode cL_law 874 = .ok (.iload_n 3, 1) := by decide +kernel
theorem dL_law_875 : decode cL_law 875 = .ok (.iconst 2, 1) := by decide +kernel
theorem dL_law_876 : decode cL_law 876 = .ok (.iadd, 1) := by decide +kernel
theorem dL_law_877 : decode cL_law 877 = .ok (.iaload, 1) := by decide +kernel
theorem dL_law_878 : decode cL_law 878 = .ok (.aload_n 0, 1) := by decide +kernel
theorem dL_law_879 : decode cL_law 879 = .ok (.iload_n 3, 1) := by decide +kernel
theorem dL_law_880 : decode cL_law 880 = .ok (.iconst 3, 1) := by decide +kernel
theorem dL_law_881 : decode cL_law 881 = .ok (.iadd, 1) := by decide +kernel
theorem dL_law_882 : decode cL_law 882 = .ok (.iaload, 1) := by decide +kernel
theorem dL_law_883 : decode cL_law 883 = .ok (.invokevirtual 108, 3) := by decide +kernel
theorem dL_law_886 : decode cL_law 886 = .ok (.if_icmp .eq 529, 3) := by decide +kernel
theorem dL_law_889 : decode cL_law 889 = .ok (.iconst 0, 1) := by decide +kernel
theorem dL_law_890 : decode cL_law 890 = .ok (.ireturn, 1) := by decide +kernel
theorem dL_law_891 : decode cL_law 891 = .ok (.aload_n 1, 1) := by decide +kernel
theorem dL_law_892 : decode cL_law 892 = .ok (.aload_n 0, 1) := by decide +kernel
theorem dL_law_893 : decode cL_law 893 = .ok (.iload_n 3, 1) := by decide +kernel
theorem dL_law_894 : decode cL_law 894 = .ok (.iconst 1, 1) := by decide +kernel
theorem dL_law_895 : decode cL_law 895 = .ok (.iadd, 1) := by decide +kernel
theorem dL_law_896 : decode cL_law 896 = .ok (.iaload, 1) := by decide +kernel
theorem dL_law_897 : decode cL_law 897 = .ok (.invokevirtual 109, 3) := by decide +kernel
theorem dL_law_900 : decode cL_law 900 = .ok (.aload_n 2, 1) := by decide +kernel
theorem dL_law_901 : decode cL_law 901 = .ok (.aload_n 0, 1) := by decide +kernel
theorem dL_law_902 : decode cL_law 902 = .ok (.iload_n 3, 1) := by decide +kernel
theorem dL_law_903 : decode cL_law 903 = .ok (.iconst 1, 1) := by decide +kernel
theorem dL_law_904 : decode cL_law 904 = .ok (.iadd, 1) := by decide +kernel
theorem dL_law_905 : decode cL_law 905 = .ok (.iaload, 1) := by decide +kernel
theorem dL_law_906 : decode cL_law 906 = .ok (.invokevirtual 112, 3) := by decide +kernel
theorem dL_law_909 : decode cL_law 909 = .ok (.if_icmp .eq 506, 3) := by decide +kernel
theorem dL_law_912 : decode cL_law 912 = .ok (.iconst 0, 1) := by decide +kernel
theorem dL_law_913 : decode cL_law 913 = .ok (.ireturn, 1) := by decide +kernel
theorem dL_law_914 : decode cL_law 914 = .ok (.aload_n 1, 1) := by decide +kernel
theorem dL_law_915 : decode cL_law 915 = .ok (.invokevirtual 113, 3) := by decide +kernel
theorem dL_law_918 : decode cL_law 918 = .ok (.aload_n 2, 1) := by decide +kernel
theorem dL_law_919 : decode cL_law 919 = .ok (.invokevirtual 116, 3) := by decide +kernel
theorem dL_law_922 : decode cL_law 922 = .ok (.if_icmp .eq 493, 3) := by decide +kernel
theorem dL_law_925 : decode cL_law 925 = .ok (.iconst 0, 1) := by decide +kernel
theorem dL_law_926 : decode cL_law 926 = .ok (.ireturn, 1) := by decide +kernel
theorem dL_law_927 : decode cL_law 927 = .ok (.aload_n 1, 1) := by decide +kernel
theorem dL_law_928 : decode cL_law 928 = .ok (.aload_n 0, 1) := by decide +kernel
theorem dL_law_929 : decode cL_law 929 = .ok (.iload_n 3, 1) := by decide +kernel
theorem dL_law_930 : decode cL_law 930 = .ok (.iconst 1, 1) := by decide +kernel
theorem dL_law_931 : decode cL_law 931 = .ok (.iadd, 1) := by decide +kernel
theorem dL_law_932 : decode cL_law 932 = .ok (.iaload, 1) := by decide +kernel
theorem dL_law_933 : decode cL_law 933 = .ok (.aload_n 0, 1) := by decide +kernel
theorem dL_law_934 : decode cL_law 934 = .ok (.iload_n 3, 1) := by decide +kernel
theorem dL_law_935 : decode cL_law 935 = .ok (.iconst 2, 1) := by decide +kernel
theorem dL_law_936 : decode cL_law 936 = .ok (.iadd, 1) := by decide +kernel
theorem dL_law_937 : decode cL_law 937 = .ok (.iaload, 1) := by decide +kernel
theorem dL_law_938 : decode cL_law 938 = .ok (.invokevirtual 117, 3) := by decide +kernel
theorem dL_law_941 : decode cL_law 941 = .ok (.aload_n 2, 1) := by decide +kernel
theorem dL_law_942 : decode cL_law 942 = .ok (.aload_n 0, 1) := by decide +kernel
theorem dL_law_943 : decode cL_law 943 = .ok (.iload_n 3, 1) := by decide +kernel
theorem dL_law_944 : decode cL_law 944 = .ok (.iconst 1, 1) := by decide +kernel
theorem dL_law_945 : decode cL_law 945 = .ok (.iadd, 1) := by decide +kernel
theorem dL_law_946 : decode cL_law 946 = .ok (.iaload, 1) := by decide +kernel
theorem dL_law_947 : decode cL_law 947 = .ok (.aload_n 0, 1) := by decide +kernel
theorem dL_law_948 : decode cL_law 948 = .ok (.iload_n 3, 1) := by decide +kernel
theorem dL_law_949 : decode cL_law 949 = .ok (.iconst 2, 1) := by decide +kernel
theorem dL_law_950 : decode cL_law 950 = .ok (.iadd, 1) := by decide +kernel
theorem dL_law_951 : decode cL_law 951 = .ok (.iaload, 1) := by decide +kernel
theorem dL_law_952 : decode cL_law 952 = .ok (.invokevirtual 120, 3) := by decide +kernel
theorem dL_law_955 : decode cL_law 955 = .ok (.if_icmp .eq 460, 3) := by decide +kernel
theorem dL_law_958 : decode cL_law 958 = .ok (.iconst 0, 1) := by decide +kernel
theorem dL_law_959 : decode cL_law 959 = .ok (.ireturn, 1) := by decide +kernel
theorem dL_law_960 : decode cL_law 960 = .ok (.aload_n 1, 1) := by decide +kernel
theorem dL_law_961 : decode cL_law 961 = .ok (.aload_n 0, 1) := by decide +kernel
theorem dL_law_962 : decode cL_law 962 = .ok (.iload_n 3, 1) := by decide +kernel
theorem dL_law_963 : decode cL_law 963 = .ok (.iconst 1, 1) := by decide +kernel
theorem dL_law_964 : decode cL_law 964 = .ok (.iadd, 1) := by decide +kernel
theorem dL_law_965 : decode cL_law 965 = .ok (.iaload, 1) := by decide +kernel
theorem dL_law_966 : decode cL_law 966 = .ok (.invokevirtual 121, 3) := by decide +kernel
theorem dL_law_969 : decode cL_law 969 = .ok (.aload_n 2, 1) := by decide +kernel
theorem dL_law_970 : decode cL_law 970 = .ok (.aload_n 0, 1) := by decide +kernel
theorem dL_law_971 : decode cL_law 971 = .ok (.iload_n 3, 1) := by decide +kernel
theorem dL_law_972 : decode cL_law 972 = .ok (.iconst 1, 1) := by decide +kernel
theorem dL_law_973 : decode cL_law 973 = .ok (.iadd, 1) := by decide +kernel
theorem dL_law_974 : decode cL_law 974 = .ok (.iaload, 1) := by decide +kernel
theorem dL_law_975 : decode cL_law 975 = .ok (.invokevirtual 124, 3) := by decide +kernel
theorem dL_law_978 : decode cL_law 978 = .ok (.if_icmp .eq 437, 3) := by decide +kernel
theorem dL_law_981 : decode cL_law 981 = .ok (.iconst 0, 1) := by decide +kernel
theorem dL_law_982 : decode cL_law 982 = .ok (.ireturn, 1) := by decide +kernel
theorem dL_law_983 : decode cL_law 983 = .ok (.aload_n 1, 1) := by decide +kernel
theorem dL_law_984 : decode cL_law 984 = .ok (.aload_n 0, 1) := by decide +kernel
theorem dL_law_985 : decode cL_law 985 = .ok (.iload_n 3, 1) := by decide +kernel
theorem dL_law_986 : decode cL_law 986 = .ok (.iconst 1, 1) := by decide +kernel
theorem dL_law_987 : decode cL_law 987 = .ok (.iadd, 1) := by decide +kernel
theorem dL_law_988 : decode cL_law 988 = .ok (.iaload, 1) := by decide +kernel
theorem dL_law_989 : decode cL_law 989 = .ok (.aload_n 0, 1) := by decide +kernel
theorem dL_law_990 : decode cL_law 990 = .ok (.iload_n 3, 1) := by decide +kernel
theorem dL_law_991 : decode cL_law 991 = .ok (.iconst 2, 1) := by decide +kernel
theorem dL_law_992 : decode cL_law 992 = .ok (.iadd, 1) := by decide +kernel
theorem dL_law_993 : decode cL_law 993 = .ok (.iaload, 1) := by decide +kernel
theorem dL_law_994 : decode cL_law 994 = .ok (.aload_n 0, 1) := by decide +kernel
theorem dL_law_995 : decode cL_law 995 = .ok (.iload_n 3, 1) := by decide +kernel
theorem dL_law_996 : decode cL_law 996 = .ok (.iconst 3, 1) := by decide +kernel
theorem dL_law_997 : decode cL_law 997 = .ok (.iadd, 1) := by decide +kernel
theorem dL_law_998 : decode cL_law 998 = .ok (.iaload, 1) := by decide +kernel
theorem dL_law_999 : decode cL_law 999 = .ok (.invokevirtual 125, 3) := by decide +kernel
theorem dL_law_1002 : decode cL_law 1002 = .ok (.aload_n 2, 1) := by decide +kernel
theorem dL_law_1003 : decode cL_law 1003 = .ok (.aload_n 0, 1) := by decide +kernel
theorem dL_law_1004 : decode cL_law 1004 = .ok (.iload_n 3, 1) := by decide +kernel
theorem dL_law_1005 : decode cL_law 1005 = .ok (.iconst 1, 1) := by decide +kernel
theorem dL_law_1006 : decode cL_law 1006 = .ok (.iadd, 1) := by decide +kernel
theorem dL_law_1007 : decode cL_law 1007 = .ok (.iaload, 1) := by decide +kernel
theorem dL_law_1008 : decode cL_law 1008 = .ok (.aload_n 0, 1) := by decide +kernel
theorem dL_law_1009 : decode cL_law 1009 = .ok (.iload_n 3, 1) := by decide +kernel
theorem dL_law_1010 : decode cL_law 1010 = .ok (.iconst 2, 1) := by decide +kernel
theorem dL_law_1011 : decode cL_law 1011 = .ok (.iadd, 1) := by decide +kernel
theorem dL_law_1012 : decode cL_law 1012 = .ok (.iaload, 1) := by decide +kernel
theorem dL_law_1013 : decode cL_law 1013 = .ok (.aload_n 0, 1) := by decide +kernel
theorem dL_law_1014 : decode cL_law 1014 = .ok (.iload_n 3, 1) := by decide +kernel
theorem dL_law_1015 : decode cL_law 1015 = .ok (.iconst 3, 1) := by decide +kernel
theorem dL_law_1016 : decode cL_law 1016 = .ok (.iadd, 1) := by decide +kernel
theorem dL_law_1017 : decode cL_law 1017 = .ok (.iaload, 1) := by decide +kernel
theorem dL_law_1018 : decode cL_law 1018 = .ok (.invokevirtual 128, 3) := by decide +kernel
theorem dL_law_1021 : decode cL_law 1021 = .ok (.if_icmp .eq 394, 3) := by decide +kernel
theorem dL_law_1024 : decode cL_law 1024 = .ok (.iconst 0, 1) := by decide +kernel
theorem dL_law_1025 : decode cL_law 1025 = .ok (.ireturn, 1) := by decide +kernel
theorem dL_law_1026 : decode cL_law 1026 = .ok (.aload_n 1, 1) := by decide +kernel
theorem dL_law_1027 : decode cL_law 1027 = .ok (.aload_n 0, 1) := by decide +kernel
theorem dL_law_1028 : decode cL_law 1028 = .ok (.iload_n 3, 1) := by decide +kernel
theorem dL_law_1029 : decode cL_law 1029 = .ok (.iconst 1, 1) := by decide +kernel
theorem dL_law_1030 : decode cL_law 1030 = .ok (.iadd, 1) := by decide +kernel
theorem dL_law_1031 : decode cL_law 1031 = .ok (.iaload, 1) := by decide +kernel
theorem dL_law_1032 : decode cL_law 1032 = .ok (.aload_n 0, 1) := by decide +kernel
theorem dL_law_1033 : decode cL_law 1033 = .ok (.iload_n 3, 1) := by decide +kernel
theorem dL_law_1034 : decode cL_law 1034 = .ok (.iconst 2, 1) := by decide +kernel
theorem dL_law_1035 : decode cL_law 1035 = .ok (.iadd, 1) := by decide +kernel
theorem dL_law_1036 : decode cL_law 1036 = .ok (.iaload, 1) := by decide +kernel
theorem dL_law_1037 : decode cL_law 1037 = .ok (.aload_n 0, 1) := by decide +kernel
theorem dL_law_1038 : decode cL_law 1038 = .ok (.iload_n 3, 1) := by decide +kernel
theorem dL_law_1039 : decode cL_law 1039 = .ok (.iconst 3, 1) := by decide +kernel
theorem dL_law_1040 : decode cL_law 1040 = .ok (.iadd, 1) := by decide +kernel
theorem dL_law_1041 : decode cL_law 1041 = .ok (.iaload, 1) := by decide +kernel
theorem dL_law_1042 : decode cL_law 1042 = .ok (.invokevirtual 129, 3) := by decide +kernel
theorem dL_law_1045 : decode cL_law 1045 = .ok (.aload_n 2, 1) := by decide +kernel
theorem dL_law_1046 : decode cL_law 1046 = .ok (.aload_n 0, 1) := by decide +kernel
theorem dL_law_1047 : decode cL_law 1047 = .ok (.iload_n 3, 1) := by decide +kernel
theorem dL_law_1048 : decode cL_law 1048 = .ok (.iconst 1, 1) := by decide +kernel
theorem dL_law_1049 : decode cL_law 1049 = .ok (.iadd, 1) := by decide +kernel
theorem dL_law_1050 : decode cL_law 1050 = .ok (.iaload, 1) := by decide +kernel
theorem dL_law_1051 : decode cL_law 1051 = .ok (.aload_n 0, 1) := by decide +kernel
theorem dL_law_1052 : decode cL_law 1052 = .ok (.iload_n 3, 1) := by decide +kernel
theorem dL_law_1053 : decode cL_law 1053 = .ok (.iconst 2, 1) := by decide +kernel
theorem dL_law_1054 : decode cL_law 1054 = .ok (.iadd, 1) := by decide +kernel
theorem dL_law_1055 : decode cL_law 1055 = .ok (.iaload, 1) := by decide +kernel
theorem dL_law_1056 : decode cL_law 1056 = .ok (.aload_n 0, 1) := by decide +kernel
theorem dL_law_1057 : decode cL_law 1057 = .ok (.iload_n 3, 1) := by decide +kernel
theorem dL_law_1058 : decode cL_law 1058 = .ok (.iconst 3, 1) := by decide +kernel
theorem dL_law_1059 : decode cL_law 1059 = .ok (.iadd, 1) := by decide +kernel
theorem dL_law_1060 : decode cL_law 1060 = .ok (.iaload, 1) := by decide +kernel
theorem dL_law_1061 : decode cL_law 1061 = .ok (.invokevirtual 132, 3) := by decide +kernel
theorem dL_law_1064 : decode cL_law 1064 = .ok (.if_icmp .eq 351, 3) := by decide +kernel
theorem dL_law_1067 : decode cL_law 1067 = .ok (.iconst 0, 1) := by decide +kernel
theorem dL_law_1068 : decode cL_law 1068 = .ok (.ireturn, 1) := by decide +kernel
theorem dL_law_1069 : decode cL_law 1069 = .ok (.aload_n 1, 1) := by decide +kernel
theorem dL_law_1070 : decode cL_law 1070 = .ok (.aload_n 0, 1) := by decide +kernel
theorem dL_law_1071 : decode cL_law 1071 = .ok (.iload_n 3, 1) := by decide +kernel
theorem dL_law_1072 : decode cL_law 1072 = .ok (.iconst 1, 1) := by decide +kernel
theorem dL_law_1073 : decode cL_law 1073 = .ok (.iadd, 1) := by decide +kernel
theorem dL_law_1074 : decode cL_law 1074 = .ok (.iaload, 1) := by decide +kernel
theorem dL_law_1075 : decode cL_law 1075 = .ok (.invokevirtual 133, 3) := by decide +kernel
theorem dL_law_1078 : decode cL_law 1078 = .ok (.aload_n 2, 1) := by decide +kernel
theorem dL_law_1079 : decode cL_law 1079 = .ok (.aload_n 0, 1) := by decide +kernel
theorem dL_law_1080 : decode cL_law 1080 = .ok (.iload_n 3, 1) := by decide +kernel
theorem dL_law_1081 : decode cL_law 1081 = .ok (.iconst 1, 1) := by decide +kernel
theorem dL_law_1082 : decode cL_law 1082 = .ok (.iadd, 1) := by decide +kernel
theorem dL_law_1083 : decode cL_law 1083 = .ok (.iaload, 1) := by decide +kernel
theorem dL_law_1084 : decode cL_law 1084 = .ok (.invokevirtual 136, 3) := by decide +kernel
theorem dL_law_1087 : decode cL_law 1087 = .ok (.if_icmp .eq 328, 3) := by decide +kernel
theorem dL_law_1090 : decode cL_law 1090 = .ok (.iconst 0, 1) := by decide +kernel
theorem dL_law_1091 : decode cL_law 1091 = .ok (.ireturn, 1) := by decide +kernel
theorem dL_law_1092 : decode cL_law 1092 = .ok (.aload_n 1, 1) := by decide +kernel
theorem dL_law_1093 : decode cL_law 1093 = .ok (.aload_n 0, 1) := by decide +kernel
theorem dL_law_1094 : decode cL_law 1094 = .ok (.iload_n 3, 1) := by decide +kernel
theorem dL_law_1095 : decode cL_law 1095 = .ok (.iconst 1, 1) := by decide +kernel
theorem dL_law_1096 : decode cL_law 1096 = .ok (.iadd, 1) := by decide +kernel
theorem dL_law_1097 : decode cL_law 1097 = .ok (.iaload, 1) := by decide +kernel
theorem dL_law_1098 : decode cL_law 1098 = .ok (.invokevirtual 137, 3) := by decide +kernel
theorem dL_law_1101 : decode cL_law 1101 = .ok (.aload_n 2, 1) := by decide +kernel
theorem dL_law_1102 : decode cL_law 1102 = .ok (.aload_n 0, 1) := by decide +kernel
theorem dL_law_1103 : decode cL_law 1103 = .ok (.iload_n 3, 1) := by decide +kernel
theorem dL_law_1104 : decode cL_law 1104 = .ok (.iconst 1, 1) := by decide +kernel
theorem dL_law_1105 : decode cL_law 1105 = .ok (.iadd, 1) := by decide +kernel
theorem dL_law_1106 : decode cL_law 1106 = .ok (.iaload, 1) := by decide +kernel
theorem dL_law_1107 : decode cL_law 1107 = .ok (.invokevirtual 140, 3) := by decide +kernel
theorem dL_law_1110 : decode cL_law 1110 = .ok (.if_icmp .eq 305, 3) := by decide +kernel
theorem dL_law_1113 : decode cL_law 1113 = .ok (.iconst 0, 1) := by decide +kernel
theorem dL_law_1114 : decode cL_law 1114 = .ok (.ireturn, 1) := by decide +kernel
theorem dL_law_1115 : decode cL_law 1115 = .ok (.aload_n 1, 1) := by decide +kernel
theorem dL_law_1116 : decode cL_law 1116 = .ok (.aload_n 0, 1) := by decide +kernel
theorem dL_law_1117 : decode cL_law 1117 = .ok (.iload_n 3, 1) := by decide +kernel
theorem dL_law_1118 : decode cL_law 1118 = .ok (.iconst 1, 1) := by decide +kernel
theorem dL_law_1119 : decode cL_law 1119 = .ok (.iadd, 1) := by decide +kernel
theorem dL_law_1120 : decode cL_law 1120 = .ok (.iaload, 1) := by decide +kernel
theorem dL_law_1121 : decode cL_law 1121 = .ok (.aload_n 0, 1) := by decide +kernel
theorem dL_law_1122 : decode cL_law 1122 = .ok (.iload_n 3, 1) := by decide +kernel
theorem dL_law_1123 : decode cL_law 1123 = .ok (.iconst 2, 1) := by decide +kernel
theorem dL_law_1124 : decode cL_law 1124 = .ok (.iadd, 1) := by decide +kernel
theorem dL_law_1125 : decode cL_law 1125 = .ok (.iaload, 1) := by decide +kernel
theorem dL_law_1126 : decode cL_law 1126 = .ok (.aload_n 0, 1) := by decide +kernel
theorem dL_law_1127 : decode cL_law 1127 = .ok (.iload_n 3, 1) := by decide +kernel
theorem dL_law_1128 : decode cL_law 1128 = .ok (.iconst 3, 1) := by decide +kernel
theorem dL_law_1129 : decode cL_law 1129 = .ok (.iadd, 1) := by decide +kernel
theorem dL_law_1130 : decode cL_law 1130 = .ok (.iaload, 1) := by decide +kernel
theorem dL_law_1131 : decode cL_law 1131 = .ok (.aload_n 0, 1) := by decide +kernel
theorem dL_law_1132 : decode cL_law 1132 = .ok (.iload_n 3, 1) := by decide +kernel
theorem dL_law_1133 : decode cL_law 1133 = .ok (.iconst 4, 1) := by decide +kernel
theorem dL_law_1134 : decode cL_law 1134 = .ok (.iadd, 1) := by decide +kernel
theorem dL_law_1135 : decode cL_law 1135 = .ok (.iaload, 1) := by decide +kernel
theorem dL_law_1136 : decode cL_law 1136 = .ok (.aload_n 0, 1) := by decide +kernel
theorem dL_law_1137 : decode cL_law 1137 = .ok (.iload_n 3, 1) := by decide +kernel
theorem dL_law_1138 : decode cL_law 1138 = .ok (.iconst 5, 1) := by decide +kernel
theorem dL_law_1139 : decode cL_law 1139 = .ok (.iadd, 1) := by decide +kernel
theorem dL_law_1140 : decode cL_law 1140 = .ok (.iaload, 1) := by decide +kernel
theorem dL_law_1141 : decode cL_law 1141 = .ok (.invokevirtual 141, 3) := by decide +kernel
theorem dL_law_1144 : decode cL_law 1144 = .ok (.aload_n 2, 1) := by decide +kernel
theorem dL_law_1145 : decode cL_law 1145 = .ok (.aload_n 0, 1) := by decide +kernel
theorem dL_law_1146 : decode cL_law 1146 = .ok (.iload_n 3, 1) := by decide +kernel
theorem dL_law_1147 : decode cL_law 1147 = .ok (.iconst 1, 1) := by decide +kernel
theorem dL_law_1148 : decode cL_law 1148 = .ok (.iadd, 1) := by decide +kernel
theorem dL_law_1149 : decode cL_law 1149 = .ok (.iaload, 1) := by decide +kernel
theorem dL_law_1150 : decode cL_law 1150 = .ok (.aload_n 0, 1) := by decide +kernel
theorem dL_law_1151 : decode cL_law 1151 = .ok (.iload_n 3, 1) := by decide +kernel
theorem dL_law_1152 : decode cL_law 1152 = .ok (.iconst 2, 1) := by decide +kernel
theorem dL_law_1153 : decode cL_law 1153 = .ok (.iadd, 1) := by decide +kernel
theorem dL_law_1154 : decode cL_law 1154 = .ok (.iaload, 1) := by decide +kernel
theorem dL_law_1155 : decode cL_law 1155 = .ok (.aload_n 0, 1) := by decide +kernel
theorem dL_law_1156 : decode cL_law 1156 = .ok (.iload_n 3, 1) := by decide +kernel
theorem dL_law_1157 : decode cL_law 1157 = .ok (.iconst 3, 1) := by decide +kernel
theorem dL_law_1158 : decode cL_law 1158 = .ok (.iadd, 1) := by decide +kernel
theorem dL_law_1159 : decode cL_law 1159 = .ok (.iaload, 1) := by decide +kernel
theorem dL_law_1160 : decode cL_law 1160 = .ok (.aload_n 0, 1) := by decide +kernel
theorem dL_law_1161 : decode cL_law 1161 = .ok (.iload_n 3, 1) := by decide +kernel
theorem dL_law_1162 : decode cL_law 1162 = .ok (.iconst 4, 1) := by decide +kernel
theorem dL_law_1163 : decode cL_law 1163 = .ok (.iadd, 1) := by decide +kernel
theorem dL_law_1164 : decode cL_law 1164 = .ok (.iaload, 1) := by decide +kernel
theorem dL_law_1165 : decode cL_law 1165 = .ok (.aload_n 0, 1) := by decide +kernel
theorem dL_law_1166 : decode cL_law 1166 = .ok (.iload_n 3, 1) := by decide +kernel
theorem dL_law_1167 : decode cL_law 1167 = .ok (.iconst 5, 1) := by decide +kernel
theorem dL_law_1168 : decode cL_law 1168 = .ok (.iadd, 1) := by decide +kernel
theorem dL_law_1169 : decode cL_law 1169 = .ok (.iaload, 1) := by decide +kernel
theorem dL_law_1170 : decode cL_law 1170 = .ok (.invokevirtual 145, 3) := by decide +kernel
theorem dL_law_1173 : decode cL_law 1173 = .ok (.if_icmp .eq 242, 3) := by decide +kernel
theorem dL_law_1176 : decode cL_law 1176 = .ok (.iconst 0, 1) := by decide +kernel
theorem dL_law_1177 : decode cL_law 1177 = .ok (.ireturn, 1) := by decide +kernel
theorem dL_law_1178 : decode cL_law 1178 = .ok (.aload_n 1, 1) := by decide +kernel
theorem dL_law_1179 : decode cL_law 1179 = .ok (.aload_n 0, 1) := by decide +kernel
theorem dL_law_1180 : decode cL_law 1180 = .ok (.iload_n 3, 1) := by decide +kernel
theorem dL_law_1181 : decode cL_law 1181 = .ok (.iconst 1, 1) := by decide +kernel
theorem dL_law_1182 : decode cL_law 1182 = .ok (.iadd, 1) := by decide +kernel
theorem dL_law_1183 : decode cL_law 1183 = .ok (.iaload, 1) := by decide +kernel
theorem dL_law_1184 : decode cL_law 1184 = .ok (.aload_n 0, 1) := by decide +kernel
theorem dL_law_1185 : decode cL_law 1185 = .ok (.iload_n 3, 1) := by decide +kernel
theorem dL_law_1186 : decode cL_law 1186 = .ok (.iconst 2, 1) := by decide +kernel
theorem dL_law_1187 : decode cL_law 1187 = .ok (.iadd, 1) := by decide +kernel
theorem dL_law_1188 : decode cL_law 1188 = .ok (.iaload, 1) := by decide +kernel
theorem dL_law_1189 : decode cL_law 1189 = .ok (.aload_n 0, 1) := by decide +kernel
theorem dL_law_1190 : decode cL_law 1190 = .ok (.iload_n 3, 1) := by decide +kernel
theorem dL_law_1191 : decode cL_law 1191 = .ok (.iconst 3, 1) := by decide +kernel
theorem dL_law_1192 : decode cL_law 1192 = .ok (.iadd, 1) := by decide +kernel
theorem dL_law_1193 : decode cL_law 1193 = .ok (.iaload, 1) := by decide +kernel
theorem dL_law_1194 : decode cL_law 1194 = .ok (.invokevirtual 146, 3) := by decide +kernel
theorem dL_law_1197 : decode cL_law 1197 = .ok (.aload_n 2, 1) := by decide +kernel
theorem dL_law_1198 : decode cL_law 1198 = .ok (.aload_n 0, 1) := by decide +kernel
theorem dL_law_1199 : decode cL_law 1199 = .ok (.iload_n 3, 1) := by decide +kernel
theorem dL_law_1200 : decode cL_law 1200 = .ok (.iconst 1, 1) := by decide +kernel
theorem dL_law_1201 : decode cL_law 1201 = .ok (.iadd, 1) := by decide +kernel
theorem dL_law_1202 : decode cL_law 1202 = .ok (.iaload, 1) := by decide +kernel
theorem dL_law_1203 : decode cL_law 1203 = .ok (.aload_n 0, 1) := by decide +kernel
theorem dL_law_1204 : decode cL_law 1204 = .ok (.iload_n 3, 1) := by decide +kernel
theorem dL_law_1205 : decode cL_law 1205 = .ok (.iconst 2, 1) := by decide +kernel
theorem dL_law_1206 : decode cL_law 1206 = .ok (.iadd, 1) := by decide +kernel
theorem dL_law_1207 : decode cL_law 1207 = .ok (.iaload, 1) := by decide +kernel
theorem dL_law_1208 : decode cL_law 1208 = .ok (.aload_n 0, 1) := by decide +kernel
theorem dL_law_1209 : decode cL_law 1209 = .ok (.iload_n 3, 1) := by decide +kernel
theorem dL_law_1210 : decode cL_law 1210 = .ok (.iconst 3, 1) := by decide +kernel
theorem dL_law_1211 : decode cL_law 1211 = .ok (.iadd, 1) := by decide +kernel
theorem dL_law_1212 : decode cL_law 1212 = .ok (.iaload, 1) := by decide +kernel
theorem dL_law_1213 : decode cL_law 1213 = .ok (.invokevirtual 149, 3) := by decide +kernel
theorem dL_law_1216 : decode cL_law 1216 = .ok (.if_icmp .eq 199, 3) := by decide +kernel
theorem dL_law_1219 : decode cL_law 1219 = .ok (.iconst 0, 1) := by decide +kernel
theorem dL_law_1220 : decode cL_law 1220 = .ok (.ireturn, 1) := by decide +kernel
theorem dL_law_1221 : decode cL_law 1221 = .ok (.aload_n 1, 1) := by decide +kernel
theorem dL_law_1222 : decode cL_law 1222 = .ok (.aload_n 0, 1) := by decide +kernel
theorem dL_law_1223 : decode cL_law 1223 = .ok (.iload_n 3, 1) := by decide +kernel
theorem dL_law_1224 : decode cL_law 1224 = .ok (.iconst 1, 1) := by decide +kernel
theorem dL_law_1225 : decode cL_law 1225 = .ok (.iadd, 1) := by decide +kernel
theorem dL_law_1226 : decode cL_law 1226 = .ok (.iaload, 1) := by decide +kernel
theorem dL_law_1227 : decode cL_law 1227 = .ok (.aload_n 0, 1) := by decide +kernel
theorem dL_law_1228 : decode cL_law 1228 = .ok (.iload_n 3, 1) := by decide +kernel
theorem dL_law_1229 : decode cL_law 1229 = .ok (.iconst 2, 1) := by decide +kernel
theorem dL_law_1230 : decode cL_law 1230 = .ok (.iadd, 1) := by decide +kernel
theorem dL_law_1231 : decode cL_law 1231 = .ok (.iaload, 1) := by decide +kernel
theorem dL_law_1232 : decode cL_law 1232 = .ok (.invokevirtual 150, 3) := by decide +kernel
theorem dL_law_1235 : decode cL_law 1235 = .ok (.aload_n 2, 1) := by decide +kernel
theorem dL_law_1236 : decode cL_law 1236 = .ok (.aload_n 0, 1) := by decide +kernel
theorem dL_law_1237 : decode cL_law 1237 = .ok (.iload_n 3, 1) := by decide +kernel
theorem dL_law_1238 : decode cL_law 1238 = .ok (.iconst 1, 1) := by decide +kernel
theorem dL_law_1239 : decode cL_law 1239 = .ok (.iadd, 1) := by decide +kernel
theorem dL_law_1240 : decode cL_law 1240 = .ok (.iaload, 1) := by decide +kernel
theorem dL_law_1241 : decode cL_law 1241 = .ok (.aload_n 0, 1) := by decide +kernel
theorem dL_law_1242 : decode cL_law 1242 = .ok (.iload_n 3, 1) := by decide +kernel
theorem dL_law_1243 : decode cL_law 1243 = .ok (.iconst 2, 1) := by decide +kernel
theorem dL_law_1244 : decode cL_law 1244 = .ok (.iadd, 1) := by decide +kernel
theorem dL_law_1245 : decode cL_law 1245 = .ok (.iaload, 1) := by decide +kernel
theorem dL_law_1246 : decode cL_law 1246 = .ok (.invokevirtual 153, 3) := by decide +kernel
theorem dL_law_1249 : decode cL_law 1249 = .ok (.if_icmp .eq 166, 3) := by decide +kernel
theorem dL_law_1252 : decode cL_law 1252 = .ok (.iconst 0, 1) := by decide +kernel
theorem dL_law_1253 : decode cL_law 1253 = .ok (.ireturn, 1) := by decide +kernel
theorem dL_law_1254 : decode cL_law 1254 = .ok (.aload_n 1, 1) := by decide +kernel
theorem dL_law_1255 : decode cL_law 1255 = .ok (.aload_n 0, 1) := by decide +kernel
theorem dL_law_1256 : decode cL_law 1256 = .ok (.iload_n 3, 1) := by decide +kernel
theorem dL_law_1257 : decode cL_law 1257 = .ok (.iconst 1, 1) := by decide +kernel
theorem dL_law_1258 : decode cL_law 1258 = .ok (.iadd, 1) := by decide +kernel
theorem dL_law_1259 : decode cL_law 1259 = .ok (.iaload, 1) := by decide +kernel
theorem dL_law_1260 : decode cL_law 1260 = .ok (.aload_n 0, 1) := by decide +kernel
theorem dL_law_1261 : decode cL_law 1261 = .ok (.iload_n 3, 1) := by decide +kernel
theorem dL_law_1262 : decode cL_law 1262 = .ok (.iconst 2, 1) := by decide +kernel
theorem dL_law_1263 : decode cL_law 1263 = .ok (.iadd, 1) := by decide +kernel
theorem dL_law_1264 : decode cL_law 1264 = .ok (.iaload, 1) := by decide +kernel
theorem dL_law_1265 : decode cL_law 1265 = .ok (.invokevirtual 154, 3) := by decide +kernel
theorem dL_law_1268 : decode cL_law 1268 = .ok (.aload_n 2, 1) := by decide +kernel
theorem dL_law_1269 : decode cL_law 1269 = .ok (.aload_n 0, 1) := by decide +kernel
theorem dL_law_1270 : decode cL_law 1270 = .ok (.iload_n 3, 1) := by decide +kernel
theorem dL_law_1271 : decode cL_law 1271 = .ok (.iconst 1, 1) := by decide +kernel
theorem dL_law_1272 : decode cL_law 1272 = .ok (.iadd, 1) := by decide +kernel
theorem dL_law_1273 : decode cL_law 1273 = .ok (.iaload, 1) := by decide +kernel
theorem dL_law_1274 : decode cL_law 1274 = .ok (.aload_n 0, 1) := by decide +kernel
theorem dL_law_1275 : decode cL_law 1275 = .ok (.iload_n 3, 1) := by decide +kernel
theorem dL_law_1276 : decode cL_law 1276 = .ok (.iconst 2, 1) := by decide +kernel
theorem dL_law_1277 : decode cL_law 1277 = .ok (.iadd, 1) := by decide +kernel
theorem dL_law_1278 : decode cL_law 1278 = .ok (.iaload, 1) := by decide +kernel
theorem dL_law_1279 : decode cL_law 1279 = .ok (.invokevirtual 157, 3) := by decide +kernel
theorem dL_law_1282 : decode cL_law 1282 = .ok (.if_icmp .eq 133, 3) := by decide +kernel
theorem dL_law_1285 : decode cL_law 1285 = .ok (.iconst 0, 1) := by decide +kernel
theorem dL_law_1286 : decode cL_law 1286 = .ok (.ireturn, 1) := by decide +kernel
theorem dL_law_1287 : decode cL_law 1287 = .ok (.aload_n 1, 1) := by decide +kernel
theorem dL_law_1288 : decode cL_law 1288 = .ok (.aload_n 0, 1) := by decide +kernel
theorem dL_law_1289 : decode cL_law 1289 = .ok (.iload_n 3, 1) := by decide +kernel
theorem dL_law_1290 : decode cL_law 1290 = .ok (.iconst 1, 1) := by decide +kernel
theorem dL_law_1291 : decode cL_law 1291 = .ok (.iadd, 1) := by decide +kernel
theorem dL_law_1292 : decode cL_law 1292 = .ok (.iaload, 1) := by decide +kernel
theorem dL_law_1293 : decode cL_law 1293 = .ok (.aload_n 0, 1) := by decide +kernel
theorem dL_law_1294 : decode cL_law 1294 = .ok (.iload_n 3, 1) := by decide +kernel
theorem dL_law_1295 : decode cL_law 1295 = .ok (.iconst 2, 1) := by decide +kernel
theorem dL_law_1296 : decode cL_law 1296 = .ok (.iadd, 1) := by decide +kernel
theorem dL_law_1297 : decode cL_law 1297 = .ok (.iaload, 1) := by decide +kernel
theorem dL_law_1298 : decode cL_law 1298 = .ok (.invokevirtual 158, 3) := by decide +kernel
theorem dL_law_1301 : decode cL_law 1301 = .ok (.aload_n 2, 1) := by decide +kernel
theorem dL_law_1302 : decode cL_law 1302 = .ok (.aload_n 0, 1) := by decide +kernel
theorem dL_law_1303 : decode cL_law 1303 = .ok (.iload_n 3, 1) := by decide +kernel
theorem dL_law_1304 : decode cL_law 1304 = .ok (.iconst 1, 1) := by decide +kernel
theorem dL_law_1305 : decode cL_law 1305 = .ok (.iadd, 1) := by decide +kernel
theorem dL_law_1306 : decode cL_law 1306 = .ok (.iaload, 1) := by decide +kernel
theorem dL_law_1307 : decode cL_law 1307 = .ok (.aload_n 0, 1) := by decide +kernel
theorem dL_law_1308 : decode cL_law 1308 = .ok (.iload_n 3, 1) := by decide +kernel
theorem dL_law_1309 : decode cL_law 1309 = .ok (.iconst 2, 1) := by decide +kernel
theorem dL_law_1310 : decode cL_law 1310 = .ok (.iadd, 1) := by decide +kernel
theorem dL_law_1311 : decode cL_law 1311 = .ok (.iaload, 1) := by decide +kernel
theorem dL_law_1312 : decode cL_law 1312 = .ok (.invokevirtual 161, 3) := by decide +kernel
theorem dL_law_1315 : decode cL_law 1315 = .ok (.if_icmp .eq 100, 3) := by decide +kernel
theorem dL_law_1318 : decode cL_law 1318 = .ok (.iconst 0, 1) := by decide +kernel
theorem dL_law_1319 : decode cL_law 1319 = .ok (.ireturn, 1) := by decide +kernel
theorem dL_law_1320 : decode cL_law 1320 = .ok (.aload_n 1, 1) := by decide +kernel
theorem dL_law_1321 : decode cL_law 1321 = .ok (.aload_n 0, 1) := by decide +kernel
theorem dL_law_1322 : decode cL_law 1322 = .ok (.iload_n 3, 1) := by decide +kernel
theorem dL_law_1323 : decode cL_law 1323 = .ok (.iconst 1, 1) := by decide +kernel
theorem dL_law_1324 : decode cL_law 1324 = .ok (.iadd, 1) := by decide +kernel
theorem dL_law_1325 : decode cL_law 1325 = .ok (.iaload, 1) := by decide +kernel
theorem dL_law_1326 : decode cL_law 1326 = .ok (.invokevirtual 162, 3) := by decide +kernel
theorem dL_law_1329 : decode cL_law 1329 = .ok (.aload_n 2, 1) := by decide +kernel
theorem dL_law_1330 : decode cL_law 1330 = .ok (.aload_n 0, 1) := by decide +kernel
theorem dL_law_1331 : decode cL_law 1331 = .ok (.iload_n 3, 1) := by decide +kernel
theorem dL_law_1332 : decode cL_law 1332 = .ok (.iconst 1, 1) := by decide +kernel
theorem dL_law_1333 : decode cL_law 1333 = .ok (.iadd, 1) := by decide +kernel
theorem dL_law_1334 : decode cL_law 1334 = .ok (.iaload, 1) := by decide +kernel
theorem dL_law_1335 : decode cL_law 1335 = .ok (.invokevirtual 165, 3) := by decide +kernel
theorem dL_law_1338 : decode cL_law 1338 = .ok (.if_icmp .eq 77, 3) := by decide +kernel
theorem dL_law_1341 : decode cL_law 1341 = .ok (.iconst 0, 1) := by decide +kernel
theorem dL_law_1342 : decode cL_law 1342 = .ok (.ireturn, 1) := by decide +kernel
theorem dL_law_1343 : decode cL_law 1343 = .ok (.aload_n 1, 1) := by decide +kernel
theorem dL_law_1344 : decode cL_law 1344 = .ok (.aload_n 0, 1) := by decide +kernel
theorem dL_law_1345 : decode cL_law 1345 = .ok (.iload_n 3, 1) := by decide +kernel
theorem dL_law_1346 : decode cL_law 1346 = .ok (.iconst 1, 1) := by decide +kernel
theorem dL_law_1347 : decode cL_law 1347 = .ok (.iadd, 1) := by decide +kernel
theorem dL_law_1348 : decode cL_law 1348 = .ok (.iaload, 1) := by decide +kernel
theorem dL_law_1349 : decode cL_law 1349 = .ok (.invokevirtual 166, 3) := by decide +kernel
theorem dL_law_1352 : decode cL_law 1352 = .ok (.aload_n 2, 1) := by decide +kernel
theorem dL_law_1353 : decode cL_law 1353 = .ok (.aload_n 0, 1) := by decide +kernel
theorem dL_law_1354 : decode cL_law 1354 = .ok (.iload_n 3, 1) := by decide +kernel
theorem dL_law_1355 : decode cL_law 1355 = .ok (.iconst 1, 1) := by decide +kernel
theorem dL_law_1356 : decode cL_law 1356 = .ok (.iadd, 1) := by decide +kernel
theorem dL_law_1357 : decode cL_law 1357 = .ok (.iaload, 1) := by decide +kernel
theorem dL_law_1358 : decode cL_law 1358 = .ok (.invokevirtual 169, 3) := by decide +kernel
theorem dL_law_1361 : decode cL_law 1361 = .ok (.if_icmp .eq 54, 3) := by decide +kernel
theorem dL_law_1364 : decode cL_law 1364 = .ok (.iconst 0, 1) := by decide +kernel
theorem dL_law_1365 : decode cL_law 1365 = .ok (.ireturn, 1) := by decide +kernel
theorem dL_law_1366 : decode cL_law 1366 = .ok (.aload_n 1, 1) := by decide +kernel
theorem dL_law_1367 : decode cL_law 1367 = .ok (.invokevirtual 170, 3) := by decide +kernel
theorem dL_law_1370 : decode cL_law 1370 = .ok (.aload_n 2, 1) := by decide +kernel
theorem dL_law_1371 : decode cL_law 1371 = .ok (.invokevirtual 173, 3) := by decide +kernel
theorem dL_law_1374 : decode cL_law 1374 = .ok (.if_icmp .eq 41, 3) := by decide +kernel
theorem dL_law_1377 : decode cL_law 1377 = .ok (.iconst 0, 1) := by decide +kernel
theorem dL_law_1378 : decode cL_law 1378 = .ok (.ireturn, 1) := by decide +kernel
theorem dL_law_1379 : decode cL_law 1379 = .ok (.aload_n 1, 1) := by decide +kernel
theorem dL_law_1380 : decode cL_law 1380 = .ok (.invokevirtual 174, 3) := by decide +kernel
theorem dL_law_1383 : decode cL_law 1383 = .ok (.aload_n 2, 1) := by decide +kernel
theorem dL_law_1384 : decode cL_law 1384 = .ok (.invokevirtual 177, 3) := by decide +kernel
theorem dL_law_1387 : decode cL_law 1387 = .ok (.if_icmp .eq 28, 3) := by decide +kernel
theorem dL_law_1390 : decode cL_law 1390 = .ok (.iconst 0, 1) := by decide +kernel
theorem dL_law_1391 : decode cL_law 1391 = .ok (.ireturn, 1) := by decide +kernel
theorem dL_law_1392 : decode cL_law 1392 = .ok (.aload_n 1, 1) := by decide +kernel
theorem dL_law_1393 : decode cL_law 1393 = .ok (.aload_n 0, 1) := by decide +kernel
theorem dL_law_1394 : decode cL_law 1394 = .ok (.iload_n 3, 1) := by decide +kernel
theorem dL_law_1395 : decode cL_law 1395 = .ok (.iconst 1, 1) := by decide +kernel
theorem dL_law_1396 : decode cL_law 1396 = .ok (.iadd, 1) := by decide +kernel
theorem dL_law_1397 : decode cL_law 1397 = .ok (.iaload, 1) := by decide +kernel
theorem dL_law_1398 : decode cL_law 1398 = .ok (.invokevirtual 178, 3) := by decide +kernel
theorem dL_law_1401 : decode cL_law 1401 = .ok (.aload_n 2, 1) := by decide +kernel
theorem dL_law_1402 : decode cL_law 1402 = .ok (.aload_n 0, 1) := by decide +kernel
theorem dL_law_1403 : decode cL_law 1403 = .ok (.iload_n 3, 1) := by decide +kernel
theorem dL_law_1404 : decode cL_law 1404 = .ok (.iconst 1, 1) := by decide +kernel
theorem dL_law_1405 : decode cL_law 1405 = .ok (.iadd, 1) := by decide +kernel
theorem dL_law_1406 : decode cL_law 1406 = .ok (.iaload, 1) := by decide +kernel
theorem dL_law_1407 : decode cL_law 1407 = .ok (.invokevirtual 181, 3) := by decide +kernel
theorem dL_law_1410 : decode cL_law 1410 = .ok (.if_icmp .eq 5, 3) := by decide +kernel
theorem dL_law_1413 : decode cL_law 1413 = .ok (.iconst 0, 1) := by decide +kernel
theorem dL_law_1414 : decode cL_law 1414 = .ok (.ireturn, 1) := by decide +kernel
theorem dL_law_1415 : decode cL_law 1415 = .ok (.iinc 3 6, 3) := by decide +kernel
theorem dL_law_1418 : decode cL_law 1418 = .ok (.goto (-1400), 3) := by decide +kernel
theorem dL_law_1421 : decode cL_law 1421 = .ok (.iconst 1, 1) := by decide +kernel
theorem dL_law_1422 : decode cL_law 1422 = .ok (.ireturn, 1) := by decide +kernel
end
section
theorem zz_end : True := trivial
end
