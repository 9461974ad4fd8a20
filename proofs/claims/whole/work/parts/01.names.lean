/-! whole: names -/
-- ===== PART A: goes FIRST, ahead of the names: the tables' words, and 'selects' of the private methods out of them =====
/-- a private method of a class that the tables say can be made, by its rows of tables_1 -/
def lw_okq (q : MethodName × Nat) : Prop := (q.1.cls ≠ "java/lang/invoke/MethodHandle" ∧ q.1.cls ≠ "java/lang/invoke/VarHandle") ∧ Cond.instantiable q.1.cls q.2 ∈ tables_1 ∧ Cond.privateMethod q.1 ∈ tables_1 ∧ Cond.instanceMethod q.1 ∈ tables_1
theorem lw_p0 : lw_okq (⟨"LampYear", "refuse", "(I)Z"⟩, 11) := ⟨⟨by decide +kernel, by decide +kernel⟩, List.mem_of_getElem? (i := 24) (by decide +kernel), List.mem_of_getElem? (i := 612) (by decide +kernel), List.mem_of_getElem? (i := 613) (by decide +kernel)⟩
theorem lw_p1 : lw_okq (⟨"LampYear", "agree", "()Z"⟩, 11) := ⟨⟨by decide +kernel, by decide +kernel⟩, List.mem_of_getElem? (i := 24) (by decide +kernel), List.mem_of_getElem? (i := 626) (by decide +kernel), List.mem_of_getElem? (i := 627) (by decide +kernel)⟩
theorem lw_p2 : lw_okq (⟨"LampYear", "deny", "(I)I"⟩, 11) := ⟨⟨by decide +kernel, by decide +kernel⟩, List.mem_of_getElem? (i := 24) (by decide +kernel), List.mem_of_getElem? (i := 654) (by decide +kernel), List.mem_of_getElem? (i := 655) (by decide +kernel)⟩
theorem lw_p3 : lw_okq (⟨"LampYear", "answer", "(I)I"⟩, 11) := ⟨⟨by decide +kernel, by decide +kernel⟩, List.mem_of_getElem? (i := 24) (by decide +kernel), List.mem_of_getElem? (i := 693) (by decide +kernel), List.mem_of_getElem? (i := 694) (by decide +kernel)⟩
theorem lw_p4 : lw_okq (⟨"LampYear$Land", "walk", "(III)Z"⟩, 18) := ⟨⟨by decide +kernel, by decide +kernel⟩, List.mem_of_getElem? (i := 53) (by decide +kernel), List.mem_of_getElem? (i := 736) (by decide +kernel), List.mem_of_getElem? (i := 737) (by decide +kernel)⟩
theorem lw_p5 : lw_okq (⟨"LampYear$Land", "isShut", "(II)Z"⟩, 18) := ⟨⟨by decide +kernel, by decide +kernel⟩, List.mem_of_getElem? (i := 53) (by decide +kernel), List.mem_of_getElem? (i := 740) (by decide +kernel), List.mem_of_getElem? (i := 741) (by decide +kernel)⟩
theorem lw_p6 : lw_okq (⟨"LampYear", "answerOr", "(II)I"⟩, 11) := ⟨⟨by decide +kernel, by decide +kernel⟩, List.mem_of_getElem? (i := 24) (by decide +kernel), List.mem_of_getElem? (i := 748) (by decide +kernel), List.mem_of_getElem? (i := 749) (by decide +kernel)⟩
theorem lw_p7 : lw_okq (⟨"LampYear", "canBeNoted", "(III)Z"⟩, 11) := ⟨⟨by decide +kernel, by decide +kernel⟩, List.mem_of_getElem? (i := 24) (by decide +kernel), List.mem_of_getElem? (i := 780) (by decide +kernel), List.mem_of_getElem? (i := 781) (by decide +kernel)⟩
theorem lw_p8 : lw_okq (⟨"LampYear$Notes", "tellsOf", "(II)Z"⟩, 13) := ⟨⟨by decide +kernel, by decide +kernel⟩, List.mem_of_getElem? (i := 133) (by decide +kernel), List.mem_of_getElem? (i := 825) (by decide +kernel), List.mem_of_getElem? (i := 826) (by decide +kernel)⟩
theorem lw_p9 : lw_okq (⟨"LampYear$Notes", "gatherAtLamps", "()V"⟩, 13) := ⟨⟨by decide +kernel, by decide +kernel⟩, List.mem_of_getElem? (i := 133) (by decide +kernel), List.mem_of_getElem? (i := 829) (by decide +kernel), List.mem_of_getElem? (i := 830) (by decide +kernel)⟩
theorem lw_p10 : lw_okq (⟨"LampYear$Reader", "scan", "(I)V"⟩, 17) := ⟨⟨by decide +kernel, by decide +kernel⟩, List.mem_of_getElem? (i := 309) (by decide +kernel), List.mem_of_getElem? (i := 861) (by decide +kernel), List.mem_of_getElem? (i := 862) (by decide +kernel)⟩
theorem lw_p11 : lw_okq (⟨"LampYear$Reader", "scanWord", "(I)V"⟩, 17) := ⟨⟨by decide +kernel, by decide +kernel⟩, List.mem_of_getElem? (i := 309) (by decide +kernel), List.mem_of_getElem? (i := 868) (by decide +kernel), List.mem_of_getElem? (i := 869) (by decide +kernel)⟩
theorem lw_p12 : lw_okq (⟨"LampYear$Reader", "scanNumber", "(I)V"⟩, 17) := ⟨⟨by decide +kernel, by decide +kernel⟩, List.mem_of_getElem? (i := 309) (by decide +kernel), List.mem_of_getElem? (i := 875) (by decide +kernel), List.mem_of_getElem? (i := 876) (by decide +kernel)⟩
theorem lw_p13 : lw_okq (⟨"LampYear$Reader", "take", "()I"⟩, 17) := ⟨⟨by decide +kernel, by decide +kernel⟩, List.mem_of_getElem? (i := 309) (by decide +kernel), List.mem_of_getElem? (i := 935) (by decide +kernel), List.mem_of_getElem? (i := 936) (by decide +kernel)⟩
theorem lw_p14 : lw_okq (⟨"LampYear$Reader", "takeRule", "()I"⟩, 17) := ⟨⟨by decide +kernel, by decide +kernel⟩, List.mem_of_getElem? (i := 309) (by decide +kernel), List.mem_of_getElem? (i := 939) (by decide +kernel), List.mem_of_getElem? (i := 940) (by decide +kernel)⟩
theorem lw_p15 : lw_okq (⟨"LampYear$Reader", "goOn", "(I)I"⟩, 17) := ⟨⟨by decide +kernel, by decide +kernel⟩, List.mem_of_getElem? (i := 309) (by decide +kernel), List.mem_of_getElem? (i := 956) (by decide +kernel), List.mem_of_getElem? (i := 957) (by decide +kernel)⟩
def lw_privs_1 : List (MethodName × Nat) := [(⟨"LampYear", "refuse", "(I)Z"⟩, 11), (⟨"LampYear", "agree", "()Z"⟩, 11), (⟨"LampYear", "deny", "(I)I"⟩, 11), (⟨"LampYear", "answer", "(I)I"⟩, 11), (⟨"LampYear$Land", "walk", "(III)Z"⟩, 18), (⟨"LampYear$Land", "isShut", "(II)Z"⟩, 18), (⟨"LampYear", "answerOr", "(II)I"⟩, 11), (⟨"LampYear", "canBeNoted", "(III)Z"⟩, 11), (⟨"LampYear$Notes", "tellsOf", "(II)Z"⟩, 13), (⟨"LampYear$Notes", "gatherAtLamps", "()V"⟩, 13), (⟨"LampYear$Reader", "scan", "(I)V"⟩, 17), (⟨"LampYear$Reader", "scanWord", "(I)V"⟩, 17), (⟨"LampYear$Reader", "scanNumber", "(I)V"⟩, 17), (⟨"LampYear$Reader", "take", "()I"⟩, 17), (⟨"LampYear$Reader", "takeRule", "()I"⟩, 17), (⟨"LampYear$Reader", "goOn", "(I)I"⟩, 17)]
theorem lw_r1 : ∀ q ∈ lw_privs_1, lw_okq q := List.forall_mem_cons.mpr ⟨lw_p0, List.forall_mem_cons.mpr ⟨lw_p1, List.forall_mem_cons.mpr ⟨lw_p2, List.forall_mem_cons.mpr ⟨lw_p3, List.forall_mem_cons.mpr ⟨lw_p4, List.forall_mem_cons.mpr ⟨lw_p5, List.forall_mem_cons.mpr ⟨lw_p6, List.forall_mem_cons.mpr ⟨lw_p7, List.forall_mem_cons.mpr ⟨lw_p8, List.forall_mem_cons.mpr ⟨lw_p9, List.forall_mem_cons.mpr ⟨lw_p10, List.forall_mem_cons.mpr ⟨lw_p11, List.forall_mem_cons.mpr ⟨lw_p12, List.forall_mem_cons.mpr ⟨lw_p13, List.forall_mem_cons.mpr ⟨lw_p14, List.forall_mem_cons.mpr ⟨lw_p15, fun _ h => absurd h List.not_mem_nil⟩⟩⟩⟩⟩⟩⟩⟩⟩⟩⟩⟩⟩⟩⟩⟩
theorem lw_p16 : lw_okq (⟨"LampYear$Reader", "takeOnly", "(II)I"⟩, 17) := ⟨⟨by decide +kernel, by decide +kernel⟩, List.mem_of_getElem? (i := 309) (by decide +kernel), List.mem_of_getElem? (i := 960) (by decide +kernel), List.mem_of_getElem? (i := 961) (by decide +kernel)⟩
theorem lw_p17 : lw_okq (⟨"LampYear$Reader", "takeStruckLabel", "()I"⟩, 17) := ⟨⟨by decide +kernel, by decide +kernel⟩, List.mem_of_getElem? (i := 309) (by decide +kernel), List.mem_of_getElem? (i := 964) (by decide +kernel), List.mem_of_getElem? (i := 965) (by decide +kernel)⟩
theorem lw_p18 : lw_okq (⟨"LampYear$Book", "draft", "()I"⟩, 18) := ⟨⟨by decide +kernel, by decide +kernel⟩, List.mem_of_getElem? (i := 189) (by decide +kernel), List.mem_of_getElem? (i := 972) (by decide +kernel), List.mem_of_getElem? (i := 973) (by decide +kernel)⟩
theorem lw_p19 : lw_okq (⟨"LampYear$Reader", "takeDoes", "()I"⟩, 17) := ⟨⟨by decide +kernel, by decide +kernel⟩, List.mem_of_getElem? (i := 309) (by decide +kernel), List.mem_of_getElem? (i := 977) (by decide +kernel), List.mem_of_getElem? (i := 978) (by decide +kernel)⟩
theorem lw_p20 : lw_okq (⟨"LampYear$Reader", "openSum", "(II)I"⟩, 17) := ⟨⟨by decide +kernel, by decide +kernel⟩, List.mem_of_getElem? (i := 309) (by decide +kernel), List.mem_of_getElem? (i := 985) (by decide +kernel), List.mem_of_getElem? (i := 986) (by decide +kernel)⟩
theorem lw_p21 : lw_okq (⟨"LampYear$Reader", "takeLimit", "()I"⟩, 17) := ⟨⟨by decide +kernel, by decide +kernel⟩, List.mem_of_getElem? (i := 309) (by decide +kernel), List.mem_of_getElem? (i := 989) (by decide +kernel), List.mem_of_getElem? (i := 990) (by decide +kernel)⟩
theorem lw_p22 : lw_okq (⟨"LampYear$Reader", "takeOne", "()I"⟩, 17) := ⟨⟨by decide +kernel, by decide +kernel⟩, List.mem_of_getElem? (i := 309) (by decide +kernel), List.mem_of_getElem? (i := 998) (by decide +kernel), List.mem_of_getElem? (i := 999) (by decide +kernel)⟩
theorem lw_p23 : lw_okq (⟨"LampYear$Reader", "await", "(I)V"⟩, 17) := ⟨⟨by decide +kernel, by decide +kernel⟩, List.mem_of_getElem? (i := 309) (by decide +kernel), List.mem_of_getElem? (i := 1002) (by decide +kernel), List.mem_of_getElem? (i := 1003) (by decide +kernel)⟩
theorem lw_p24 : lw_okq (⟨"LampYear$Reader", "takeAtom", "()I"⟩, 17) := ⟨⟨by decide +kernel, by decide +kernel⟩, List.mem_of_getElem? (i := 309) (by decide +kernel), List.mem_of_getElem? (i := 1006) (by decide +kernel), List.mem_of_getElem? (i := 1007) (by decide +kernel)⟩
theorem lw_p25 : lw_okq (⟨"LampYear$Reader", "takeInSum", "()I"⟩, 17) := ⟨⟨by decide +kernel, by decide +kernel⟩, List.mem_of_getElem? (i := 309) (by decide +kernel), List.mem_of_getElem? (i := 1017) (by decide +kernel), List.mem_of_getElem? (i := 1018) (by decide +kernel)⟩
theorem lw_p26 : lw_okq (⟨"LampYear$Reader", "takeOperator", "(II)I"⟩, 17) := ⟨⟨by decide +kernel, by decide +kernel⟩, List.mem_of_getElem? (i := 309) (by decide +kernel), List.mem_of_getElem? (i := 1021) (by decide +kernel), List.mem_of_getElem? (i := 1022) (by decide +kernel)⟩
theorem lw_p27 : lw_okq (⟨"LampYear$Reader", "release", "(I)V"⟩, 17) := ⟨⟨by decide +kernel, by decide +kernel⟩, List.mem_of_getElem? (i := 309) (by decide +kernel), List.mem_of_getElem? (i := 1028) (by decide +kernel), List.mem_of_getElem? (i := 1029) (by decide +kernel)⟩
theorem lw_p28 : lw_okq (⟨"LampYear$Reader", "takeBehindSum", "()I"⟩, 17) := ⟨⟨by decide +kernel, by decide +kernel⟩, List.mem_of_getElem? (i := 309) (by decide +kernel), List.mem_of_getElem? (i := 1032) (by decide +kernel), List.mem_of_getElem? (i := 1033) (by decide +kernel)⟩
theorem lw_p29 : lw_okq (⟨"LampYear$Reader", "openUnless", "()I"⟩, 17) := ⟨⟨by decide +kernel, by decide +kernel⟩, List.mem_of_getElem? (i := 309) (by decide +kernel), List.mem_of_getElem? (i := 1040) (by decide +kernel), List.mem_of_getElem? (i := 1041) (by decide +kernel)⟩
theorem lw_p30 : lw_okq (⟨"LampYear$Reader", "closeRule", "()I"⟩, 17) := ⟨⟨by decide +kernel, by decide +kernel⟩, List.mem_of_getElem? (i := 309) (by decide +kernel), List.mem_of_getElem? (i := 1048) (by decide +kernel), List.mem_of_getElem? (i := 1049) (by decide +kernel)⟩
theorem lw_p31 : lw_okq (⟨"LampYear$Standing", "strike", "(LLampYear$Book;)V"⟩, 11) := ⟨⟨by decide +kernel, by decide +kernel⟩, List.mem_of_getElem? (i := 196) (by decide +kernel), List.mem_of_getElem? (i := 1076) (by decide +kernel), List.mem_of_getElem? (i := 1077) (by decide +kernel)⟩
def lw_privs_2 : List (MethodName × Nat) := [(⟨"LampYear$Reader", "takeOnly", "(II)I"⟩, 17), (⟨"LampYear$Reader", "takeStruckLabel", "()I"⟩, 17), (⟨"LampYear$Book", "draft", "()I"⟩, 18), (⟨"LampYear$Reader", "takeDoes", "()I"⟩, 17), (⟨"LampYear$Reader", "openSum", "(II)I"⟩, 17), (⟨"LampYear$Reader", "takeLimit", "()I"⟩, 17), (⟨"LampYear$Reader", "takeOne", "()I"⟩, 17), (⟨"LampYear$Reader", "await", "(I)V"⟩, 17), (⟨"LampYear$Reader", "takeAtom", "()I"⟩, 17), (⟨"LampYear$Reader", "takeInSum", "()I"⟩, 17), (⟨"LampYear$Reader", "takeOperator", "(II)I"⟩, 17), (⟨"LampYear$Reader", "release", "(I)V"⟩, 17), (⟨"LampYear$Reader", "takeBehindSum", "()I"⟩, 17), (⟨"LampYear$Reader", "openUnless", "()I"⟩, 17), (⟨"LampYear$Reader", "closeRule", "()I"⟩, 17), (⟨"LampYear$Standing", "strike", "(LLampYear$Book;)V"⟩, 11)]
theorem lw_r2 : ∀ q ∈ lw_privs_2, lw_okq q := List.forall_mem_cons.mpr ⟨lw_p16, List.forall_mem_cons.mpr ⟨lw_p17, List.forall_mem_cons.mpr ⟨lw_p18, List.forall_mem_cons.mpr ⟨lw_p19, List.forall_mem_cons.mpr ⟨lw_p20, List.forall_mem_cons.mpr ⟨lw_p21, List.forall_mem_cons.mpr ⟨lw_p22, List.forall_mem_cons.mpr ⟨lw_p23, List.forall_mem_cons.mpr ⟨lw_p24, List.forall_mem_cons.mpr ⟨lw_p25, List.forall_mem_cons.mpr ⟨lw_p26, List.forall_mem_cons.mpr ⟨lw_p27, List.forall_mem_cons.mpr ⟨lw_p28, List.forall_mem_cons.mpr ⟨lw_p29, List.forall_mem_cons.mpr ⟨lw_p30, List.forall_mem_cons.mpr ⟨lw_p31, fun _ h => absurd h List.not_mem_nil⟩⟩⟩⟩⟩⟩⟩⟩⟩⟩⟩⟩⟩⟩⟩⟩
theorem lw_p32 : lw_okq (⟨"LampYear$Standing", "listen", "(LLampYear$Book;)V"⟩, 11) := ⟨⟨by decide +kernel, by decide +kernel⟩, List.mem_of_getElem? (i := 196) (by decide +kernel), List.mem_of_getElem? (i := 1080) (by decide +kernel), List.mem_of_getElem? (i := 1081) (by decide +kernel)⟩
theorem lw_p33 : lw_okq (⟨"LampYear", "answerWhether", "(Z)I"⟩, 11) := ⟨⟨by decide +kernel, by decide +kernel⟩, List.mem_of_getElem? (i := 24) (by decide +kernel), List.mem_of_getElem? (i := 1088) (by decide +kernel), List.mem_of_getElem? (i := 1089) (by decide +kernel)⟩
theorem lw_p34 : lw_okq (⟨"LampYear$Year", "live", "(I)V"⟩, 11) := ⟨⟨by decide +kernel, by decide +kernel⟩, List.mem_of_getElem? (i := 444) (by decide +kernel), List.mem_of_getElem? (i := 1100) (by decide +kernel), List.mem_of_getElem? (i := 1101) (by decide +kernel)⟩
theorem lw_p35 : lw_okq (⟨"LampYear$Year", "judge", "(II)I"⟩, 11) := ⟨⟨by decide +kernel, by decide +kernel⟩, List.mem_of_getElem? (i := 444) (by decide +kernel), List.mem_of_getElem? (i := 1106) (by decide +kernel), List.mem_of_getElem? (i := 1107) (by decide +kernel)⟩
theorem lw_p36 : lw_okq (⟨"LampYear$Year", "gatherFacts", "(III)V"⟩, 11) := ⟨⟨by decide +kernel, by decide +kernel⟩, List.mem_of_getElem? (i := 444) (by decide +kernel), List.mem_of_getElem? (i := 1115) (by decide +kernel), List.mem_of_getElem? (i := 1116) (by decide +kernel)⟩
theorem lw_p37 : lw_okq (⟨"LampYear$Proofs", "measure", "(II)V"⟩, 8) := ⟨⟨by decide +kernel, by decide +kernel⟩, List.mem_of_getElem? (i := 485) (by decide +kernel), List.mem_of_getElem? (i := 1245) (by decide +kernel), List.mem_of_getElem? (i := 1246) (by decide +kernel)⟩
theorem lw_p38 : lw_okq (⟨"LampYear$Proofs", "slipOf", "(II)I"⟩, 8) := ⟨⟨by decide +kernel, by decide +kernel⟩, List.mem_of_getElem? (i := 485) (by decide +kernel), List.mem_of_getElem? (i := 1249) (by decide +kernel), List.mem_of_getElem? (i := 1250) (by decide +kernel)⟩
theorem lw_p39 : lw_okq (⟨"LampYear$Proofs", "fewestAt", "(II)I"⟩, 8) := ⟨⟨by decide +kernel, by decide +kernel⟩, List.mem_of_getElem? (i := 485) (by decide +kernel), List.mem_of_getElem? (i := 1253) (by decide +kernel), List.mem_of_getElem? (i := 1254) (by decide +kernel)⟩
theorem lw_p40 : lw_okq (⟨"LampYear$Proofs", "walk", "(II)V"⟩, 8) := ⟨⟨by decide +kernel, by decide +kernel⟩, List.mem_of_getElem? (i := 485) (by decide +kernel), List.mem_of_getElem? (i := 1258) (by decide +kernel), List.mem_of_getElem? (i := 1259) (by decide +kernel)⟩
theorem lw_p41 : lw_okq (⟨"LampYear$Proofs", "slip", "(I)V"⟩, 8) := ⟨⟨by decide +kernel, by decide +kernel⟩, List.mem_of_getElem? (i := 485) (by decide +kernel), List.mem_of_getElem? (i := 1262) (by decide +kernel), List.mem_of_getElem? (i := 1263) (by decide +kernel)⟩
theorem lw_p42 : lw_okq (⟨"LampYear", "owedSlips", "(I)I"⟩, 11) := ⟨⟨by decide +kernel, by decide +kernel⟩, List.mem_of_getElem? (i := 24) (by decide +kernel), List.mem_of_getElem? (i := 1275) (by decide +kernel), List.mem_of_getElem? (i := 1276) (by decide +kernel)⟩
theorem lw_p43 : lw_okq (⟨"LampYear", "doneAheadOf", "(I)I"⟩, 11) := ⟨⟨by decide +kernel, by decide +kernel⟩, List.mem_of_getElem? (i := 24) (by decide +kernel), List.mem_of_getElem? (i := 1279) (by decide +kernel), List.mem_of_getElem? (i := 1280) (by decide +kernel)⟩
theorem lw_p44 : lw_okq (⟨"LampYear", "isPassed", "(I)Z"⟩, 11) := ⟨⟨by decide +kernel, by decide +kernel⟩, List.mem_of_getElem? (i := 24) (by decide +kernel), List.mem_of_getElem? (i := 1291) (by decide +kernel), List.mem_of_getElem? (i := 1292) (by decide +kernel)⟩
theorem lw_p45 : lw_okq (⟨"LampYear", "canRead", "(II)Z"⟩, 11) := ⟨⟨by decide +kernel, by decide +kernel⟩, List.mem_of_getElem? (i := 24) (by decide +kernel), List.mem_of_getElem? (i := 1303) (by decide +kernel), List.mem_of_getElem? (i := 1304) (by decide +kernel)⟩
theorem lw_p46 : lw_okq (⟨"LampYear$Sending", "leastLatest", "(I)I"⟩, 8) := ⟨⟨by decide +kernel, by decide +kernel⟩, List.mem_of_getElem? (i := 520) (by decide +kernel), List.mem_of_getElem? (i := 1345) (by decide +kernel), List.mem_of_getElem? (i := 1346) (by decide +kernel)⟩
theorem lw_p47 : lw_okq (⟨"LampYear$Sending", "arrivalFor", "(II)I"⟩, 8) := ⟨⟨by decide +kernel, by decide +kernel⟩, List.mem_of_getElem? (i := 520) (by decide +kernel), List.mem_of_getElem? (i := 1349) (by decide +kernel), List.mem_of_getElem? (i := 1350) (by decide +kernel)⟩
def lw_privs_3 : List (MethodName × Nat) := [(⟨"LampYear$Standing", "listen", "(LLampYear$Book;)V"⟩, 11), (⟨"LampYear", "answerWhether", "(Z)I"⟩, 11), (⟨"LampYear$Year", "live", "(I)V"⟩, 11), (⟨"LampYear$Year", "judge", "(II)I"⟩, 11), (⟨"LampYear$Year", "gatherFacts", "(III)V"⟩, 11), (⟨"LampYear$Proofs", "measure", "(II)V"⟩, 8), (⟨"LampYear$Proofs", "slipOf", "(II)I"⟩, 8), (⟨"LampYear$Proofs", "fewestAt", "(II)I"⟩, 8), (⟨"LampYear$Proofs", "walk", "(II)V"⟩, 8), (⟨"LampYear$Proofs", "slip", "(I)V"⟩, 8), (⟨"LampYear", "owedSlips", "(I)I"⟩, 11), (⟨"LampYear", "doneAheadOf", "(I)I"⟩, 11), (⟨"LampYear", "isPassed", "(I)Z"⟩, 11), (⟨"LampYear", "canRead", "(II)Z"⟩, 11), (⟨"LampYear$Sending", "leastLatest", "(I)I"⟩, 8), (⟨"LampYear$Sending", "arrivalFor", "(II)I"⟩, 8)]
theorem lw_r3 : ∀ q ∈ lw_privs_3, lw_okq q := List.forall_mem_cons.mpr ⟨lw_p32, List.forall_mem_cons.mpr ⟨lw_p33, List.forall_mem_cons.mpr ⟨lw_p34, List.forall_mem_cons.mpr ⟨lw_p35, List.forall_mem_cons.mpr ⟨lw_p36, List.forall_mem_cons.mpr ⟨lw_p37, List.forall_mem_cons.mpr ⟨lw_p38, List.forall_mem_cons.mpr ⟨lw_p39, List.forall_mem_cons.mpr ⟨lw_p40, List.forall_mem_cons.mpr ⟨lw_p41, List.forall_mem_cons.mpr ⟨lw_p42, List.forall_mem_cons.mpr ⟨lw_p43, List.forall_mem_cons.mpr ⟨lw_p44, List.forall_mem_cons.mpr ⟨lw_p45, List.forall_mem_cons.mpr ⟨lw_p46, List.forall_mem_cons.mpr ⟨lw_p47, fun _ h => absurd h List.not_mem_nil⟩⟩⟩⟩⟩⟩⟩⟩⟩⟩⟩⟩⟩⟩⟩⟩
theorem lw_p48 : lw_okq (⟨"LampYear$Sending", "leastSum", "(II)I"⟩, 8) := ⟨⟨by decide +kernel, by decide +kernel⟩, List.mem_of_getElem? (i := 520) (by decide +kernel), List.mem_of_getElem? (i := 1356) (by decide +kernel), List.mem_of_getElem? (i := 1357) (by decide +kernel)⟩
theorem lw_p49 : lw_okq (⟨"LampYear$Sending", "keep", "(I)V"⟩, 8) := ⟨⟨by decide +kernel, by decide +kernel⟩, List.mem_of_getElem? (i := 520) (by decide +kernel), List.mem_of_getElem? (i := 1360) (by decide +kernel), List.mem_of_getElem? (i := 1361) (by decide +kernel)⟩
theorem lw_p50 : lw_okq (⟨"LampYear$Draws", "hasChance", "(IIIII)Z"⟩, 1) := ⟨⟨by decide +kernel, by decide +kernel⟩, List.mem_of_getElem? (i := 553) (by decide +kernel), List.mem_of_getElem? (i := 1376) (by decide +kernel), List.mem_of_getElem? (i := 1377) (by decide +kernel)⟩
theorem lw_p51 : lw_okq (⟨"LampYear$Draws", "choose", "(II)J"⟩, 1) := ⟨⟨by decide +kernel, by decide +kernel⟩, List.mem_of_getElem? (i := 553) (by decide +kernel), List.mem_of_getElem? (i := 1380) (by decide +kernel), List.mem_of_getElem? (i := 1381) (by decide +kernel)⟩
theorem lw_p52 : lw_okq (⟨"LampYear", "hasSeat", "(II)Z"⟩, 11) := ⟨⟨by decide +kernel, by decide +kernel⟩, List.mem_of_getElem? (i := 24) (by decide +kernel), List.mem_of_getElem? (i := 1393) (by decide +kernel), List.mem_of_getElem? (i := 1394) (by decide +kernel)⟩
theorem lw_p53 : lw_okq (⟨"LampYearModel", "is", "(I)Z"⟩, 108) := ⟨⟨by decide +kernel, by decide +kernel⟩, List.mem_of_getElem? (i := 1397) (by decide +kernel), List.mem_of_getElem? (i := 1750) (by decide +kernel), List.mem_of_getElem? (i := 1751) (by decide +kernel)⟩
theorem lw_p54 : lw_okq (⟨"LampYearModel", "wrongPlace", "(II)I"⟩, 108) := ⟨⟨by decide +kernel, by decide +kernel⟩, List.mem_of_getElem? (i := 1397) (by decide +kernel), List.mem_of_getElem? (i := 1758) (by decide +kernel), List.mem_of_getElem? (i := 1759) (by decide +kernel)⟩
theorem lw_p55 : lw_okq (⟨"LampYearModel", "refuse", "(I)I"⟩, 108) := ⟨⟨by decide +kernel, by decide +kernel⟩, List.mem_of_getElem? (i := 1397) (by decide +kernel), List.mem_of_getElem? (i := 1781) (by decide +kernel), List.mem_of_getElem? (i := 1782) (by decide +kernel)⟩
theorem lw_p56 : lw_okq (⟨"LampYearModel", "gives", "(I)I"⟩, 108) := ⟨⟨by decide +kernel, by decide +kernel⟩, List.mem_of_getElem? (i := 1397) (by decide +kernel), List.mem_of_getElem? (i := 1785) (by decide +kernel), List.mem_of_getElem? (i := 1786) (by decide +kernel)⟩
theorem lw_p57 : lw_okq (⟨"LampYearModel", "isPlace", "(I)Z"⟩, 108) := ⟨⟨by decide +kernel, by decide +kernel⟩, List.mem_of_getElem? (i := 1397) (by decide +kernel), List.mem_of_getElem? (i := 1793) (by decide +kernel), List.mem_of_getElem? (i := 1794) (by decide +kernel)⟩
theorem lw_p58 : lw_okq (⟨"LampYearModel", "travel", "(II)V"⟩, 108) := ⟨⟨by decide +kernel, by decide +kernel⟩, List.mem_of_getElem? (i := 1397) (by decide +kernel), List.mem_of_getElem? (i := 1804) (by decide +kernel), List.mem_of_getElem? (i := 1805) (by decide +kernel)⟩
theorem lw_p59 : lw_okq (⟨"LampYearModel", "isShut", "(II)Z"⟩, 108) := ⟨⟨by decide +kernel, by decide +kernel⟩, List.mem_of_getElem? (i := 1397) (by decide +kernel), List.mem_of_getElem? (i := 1808) (by decide +kernel), List.mem_of_getElem? (i := 1809) (by decide +kernel)⟩
theorem lw_p60 : lw_okq (⟨"LampYearModel", "isTeacher", "(I)Z"⟩, 108) := ⟨⟨by decide +kernel, by decide +kernel⟩, List.mem_of_getElem? (i := 1397) (by decide +kernel), List.mem_of_getElem? (i := 1828) (by decide +kernel), List.mem_of_getElem? (i := 1829) (by decide +kernel)⟩
theorem lw_p61 : lw_okq (⟨"LampYearModel", "isLearner", "(I)Z"⟩, 108) := ⟨⟨by decide +kernel, by decide +kernel⟩, List.mem_of_getElem? (i := 1397) (by decide +kernel), List.mem_of_getElem? (i := 1832) (by decide +kernel), List.mem_of_getElem? (i := 1833) (by decide +kernel)⟩
theorem lw_p62 : lw_okq (⟨"LampYearModel", "isLamp", "(I)Z"⟩, 108) := ⟨⟨by decide +kernel, by decide +kernel⟩, List.mem_of_getElem? (i := 1397) (by decide +kernel), List.mem_of_getElem? (i := 1836) (by decide +kernel), List.mem_of_getElem? (i := 1837) (by decide +kernel)⟩
theorem lw_p63 : lw_okq (⟨"LampYearModel", "lampOf", "(III)I"⟩, 108) := ⟨⟨by decide +kernel, by decide +kernel⟩, List.mem_of_getElem? (i := 1397) (by decide +kernel), List.mem_of_getElem? (i := 1848) (by decide +kernel), List.mem_of_getElem? (i := 1849) (by decide +kernel)⟩
def lw_privs_4 : List (MethodName × Nat) := [(⟨"LampYear$Sending", "leastSum", "(II)I"⟩, 8), (⟨"LampYear$Sending", "keep", "(I)V"⟩, 8), (⟨"LampYear$Draws", "hasChance", "(IIIII)Z"⟩, 1), (⟨"LampYear$Draws", "choose", "(II)J"⟩, 1), (⟨"LampYear", "hasSeat", "(II)Z"⟩, 11), (⟨"LampYearModel", "is", "(I)Z"⟩, 108), (⟨"LampYearModel", "wrongPlace", "(II)I"⟩, 108), (⟨"LampYearModel", "refuse", "(I)I"⟩, 108), (⟨"LampYearModel", "gives", "(I)I"⟩, 108), (⟨"LampYearModel", "isPlace", "(I)Z"⟩, 108), (⟨"LampYearModel", "travel", "(II)V"⟩, 108), (⟨"LampYearModel", "isShut", "(II)Z"⟩, 108), (⟨"LampYearModel", "isTeacher", "(I)Z"⟩, 108), (⟨"LampYearModel", "isLearner", "(I)Z"⟩, 108), (⟨"LampYearModel", "isLamp", "(I)Z"⟩, 108), (⟨"LampYearModel", "lampOf", "(III)I"⟩, 108)]
theorem lw_r4 : ∀ q ∈ lw_privs_4, lw_okq q := List.forall_mem_cons.mpr ⟨lw_p48, List.forall_mem_cons.mpr ⟨lw_p49, List.forall_mem_cons.mpr ⟨lw_p50, List.forall_mem_cons.mpr ⟨lw_p51, List.forall_mem_cons.mpr ⟨lw_p52, List.forall_mem_cons.mpr ⟨lw_p53, List.forall_mem_cons.mpr ⟨lw_p54, List.forall_mem_cons.mpr ⟨lw_p55, List.forall_mem_cons.mpr ⟨lw_p56, List.forall_mem_cons.mpr ⟨lw_p57, List.forall_mem_cons.mpr ⟨lw_p58, List.forall_mem_cons.mpr ⟨lw_p59, List.forall_mem_cons.mpr ⟨lw_p60, List.forall_mem_cons.mpr ⟨lw_p61, List.forall_mem_cons.mpr ⟨lw_p62, List.forall_mem_cons.mpr ⟨lw_p63, fun _ h => absurd h List.not_mem_nil⟩⟩⟩⟩⟩⟩⟩⟩⟩⟩⟩⟩⟩⟩⟩⟩
theorem lw_p64 : lw_okq (⟨"LampYearModel", "teacherAt", "(II)I"⟩, 108) := ⟨⟨by decide +kernel, by decide +kernel⟩, List.mem_of_getElem? (i := 1397) (by decide +kernel), List.mem_of_getElem? (i := 1856) (by decide +kernel), List.mem_of_getElem? (i := 1857) (by decide +kernel)⟩
theorem lw_p65 : lw_okq (⟨"LampYearModel", "four", "(I)V"⟩, 108) := ⟨⟨by decide +kernel, by decide +kernel⟩, List.mem_of_getElem? (i := 1397) (by decide +kernel), List.mem_of_getElem? (i := 1864) (by decide +kernel), List.mem_of_getElem? (i := 1865) (by decide +kernel)⟩
theorem lw_p66 : lw_okq (⟨"LampYearModel", "next", "()V"⟩, 108) := ⟨⟨by decide +kernel, by decide +kernel⟩, List.mem_of_getElem? (i := 1397) (by decide +kernel), List.mem_of_getElem? (i := 1872) (by decide +kernel), List.mem_of_getElem? (i := 1873) (by decide +kernel)⟩
theorem lw_p67 : lw_okq (⟨"LampYearModel", "at", "(I)I"⟩, 108) := ⟨⟨by decide +kernel, by decide +kernel⟩, List.mem_of_getElem? (i := 1397) (by decide +kernel), List.mem_of_getElem? (i := 1876) (by decide +kernel), List.mem_of_getElem? (i := 1877) (by decide +kernel)⟩
theorem lw_p68 : lw_okq (⟨"LampYearModel", "rule", "()Z"⟩, 108) := ⟨⟨by decide +kernel, by decide +kernel⟩, List.mem_of_getElem? (i := 1397) (by decide +kernel), List.mem_of_getElem? (i := 1888) (by decide +kernel), List.mem_of_getElem? (i := 1889) (by decide +kernel)⟩
theorem lw_p69 : lw_okq (⟨"LampYearModel", "labelHere", "()J"⟩, 108) := ⟨⟨by decide +kernel, by decide +kernel⟩, List.mem_of_getElem? (i := 1397) (by decide +kernel), List.mem_of_getElem? (i := 1892) (by decide +kernel), List.mem_of_getElem? (i := 1893) (by decide +kernel)⟩
theorem lw_p70 : lw_okq (⟨"LampYearModel", "inWords", "(Ljava/lang/String;)I"⟩, 108) := ⟨⟨by decide +kernel, by decide +kernel⟩, List.mem_of_getElem? (i := 1397) (by decide +kernel), List.mem_of_getElem? (i := 1897) (by decide +kernel), List.mem_of_getElem? (i := 1898) (by decide +kernel)⟩
theorem lw_p71 : lw_okq (⟨"LampYearModel", "fails", "(I)Z"⟩, 108) := ⟨⟨by decide +kernel, by decide +kernel⟩, List.mem_of_getElem? (i := 1397) (by decide +kernel), List.mem_of_getElem? (i := 1904) (by decide +kernel), List.mem_of_getElem? (i := 1905) (by decide +kernel)⟩
theorem lw_p72 : lw_okq (⟨"LampYearModel", "isKey", "(I)Z"⟩, 108) := ⟨⟨by decide +kernel, by decide +kernel⟩, List.mem_of_getElem? (i := 1397) (by decide +kernel), List.mem_of_getElem? (i := 1908) (by decide +kernel), List.mem_of_getElem? (i := 1909) (by decide +kernel)⟩
theorem lw_p73 : lw_okq (⟨"LampYearModel", "want", "(I)Z"⟩, 108) := ⟨⟨by decide +kernel, by decide +kernel⟩, List.mem_of_getElem? (i := 1397) (by decide +kernel), List.mem_of_getElem? (i := 1912) (by decide +kernel), List.mem_of_getElem? (i := 1913) (by decide +kernel)⟩
theorem lw_p74 : lw_okq (⟨"LampYearModel", "isSign", "(I)Z"⟩, 108) := ⟨⟨by decide +kernel, by decide +kernel⟩, List.mem_of_getElem? (i := 1397) (by decide +kernel), List.mem_of_getElem? (i := 1916) (by decide +kernel), List.mem_of_getElem? (i := 1917) (by decide +kernel)⟩
theorem lw_p75 : lw_okq (⟨"LampYearModel", "numberIn", "(III)Z"⟩, 108) := ⟨⟨by decide +kernel, by decide +kernel⟩, List.mem_of_getElem? (i := 1397) (by decide +kernel), List.mem_of_getElem? (i := 1920) (by decide +kernel), List.mem_of_getElem? (i := 1921) (by decide +kernel)⟩
theorem lw_p76 : lw_okq (⟨"LampYearModel", "says", "(I)Z"⟩, 108) := ⟨⟨by decide +kernel, by decide +kernel⟩, List.mem_of_getElem? (i := 1397) (by decide +kernel), List.mem_of_getElem? (i := 1924) (by decide +kernel), List.mem_of_getElem? (i := 1925) (by decide +kernel)⟩
theorem lw_p77 : lw_okq (⟨"LampYearModel", "sum", "()Z"⟩, 108) := ⟨⟨by decide +kernel, by decide +kernel⟩, List.mem_of_getElem? (i := 1397) (by decide +kernel), List.mem_of_getElem? (i := 1928) (by decide +kernel), List.mem_of_getElem? (i := 1929) (by decide +kernel)⟩
theorem lw_p78 : lw_okq (⟨"LampYearModel", "puts", "(II)V"⟩, 108) := ⟨⟨by decide +kernel, by decide +kernel⟩, List.mem_of_getElem? (i := 1397) (by decide +kernel), List.mem_of_getElem? (i := 1932) (by decide +kernel), List.mem_of_getElem? (i := 1933) (by decide +kernel)⟩
theorem lw_p79 : lw_okq (⟨"LampYearModel", "test", "()Z"⟩, 108) := ⟨⟨by decide +kernel, by decide +kernel⟩, List.mem_of_getElem? (i := 1397) (by decide +kernel), List.mem_of_getElem? (i := 1936) (by decide +kernel), List.mem_of_getElem? (i := 1937) (by decide +kernel)⟩
def lw_privs_5 : List (MethodName × Nat) := [(⟨"LampYearModel", "teacherAt", "(II)I"⟩, 108), (⟨"LampYearModel", "four", "(I)V"⟩, 108), (⟨"LampYearModel", "next", "()V"⟩, 108), (⟨"LampYearModel", "at", "(I)I"⟩, 108), (⟨"LampYearModel", "rule", "()Z"⟩, 108), (⟨"LampYearModel", "labelHere", "()J"⟩, 108), (⟨"LampYearModel", "inWords", "(Ljava/lang/String;)I"⟩, 108), (⟨"LampYearModel", "fails", "(I)Z"⟩, 108), (⟨"LampYearModel", "isKey", "(I)Z"⟩, 108), (⟨"LampYearModel", "want", "(I)Z"⟩, 108), (⟨"LampYearModel", "isSign", "(I)Z"⟩, 108), (⟨"LampYearModel", "numberIn", "(III)Z"⟩, 108), (⟨"LampYearModel", "says", "(I)Z"⟩, 108), (⟨"LampYearModel", "sum", "()Z"⟩, 108), (⟨"LampYearModel", "puts", "(II)V"⟩, 108), (⟨"LampYearModel", "test", "()Z"⟩, 108)]
theorem lw_r5 : ∀ q ∈ lw_privs_5, lw_okq q := List.forall_mem_cons.mpr ⟨lw_p64, List.forall_mem_cons.mpr ⟨lw_p65, List.forall_mem_cons.mpr ⟨lw_p66, List.forall_mem_cons.mpr ⟨lw_p67, List.forall_mem_cons.mpr ⟨lw_p68, List.forall_mem_cons.mpr ⟨lw_p69, List.forall_mem_cons.mpr ⟨lw_p70, List.forall_mem_cons.mpr ⟨lw_p71, List.forall_mem_cons.mpr ⟨lw_p72, List.forall_mem_cons.mpr ⟨lw_p73, List.forall_mem_cons.mpr ⟨lw_p74, List.forall_mem_cons.mpr ⟨lw_p75, List.forall_mem_cons.mpr ⟨lw_p76, List.forall_mem_cons.mpr ⟨lw_p77, List.forall_mem_cons.mpr ⟨lw_p78, List.forall_mem_cons.mpr ⟨lw_p79, fun _ h => absurd h List.not_mem_nil⟩⟩⟩⟩⟩⟩⟩⟩⟩⟩⟩⟩⟩⟩⟩⟩
theorem lw_p80 : lw_okq (⟨"LampYearModel", "one", "(Z)Z"⟩, 108) := ⟨⟨by decide +kernel, by decide +kernel⟩, List.mem_of_getElem? (i := 1397) (by decide +kernel), List.mem_of_getElem? (i := 1940) (by decide +kernel), List.mem_of_getElem? (i := 1941) (by decide +kernel)⟩
theorem lw_p81 : lw_okq (⟨"LampYearModel", "stand", "(II)V"⟩, 108) := ⟨⟨by decide +kernel, by decide +kernel⟩, List.mem_of_getElem? (i := 1397) (by decide +kernel), List.mem_of_getElem? (i := 1952) (by decide +kernel), List.mem_of_getElem? (i := 1953) (by decide +kernel)⟩
theorem lw_p82 : lw_okq (⟨"LampYearModel", "lastOf", "(II)I"⟩, 108) := ⟨⟨by decide +kernel, by decide +kernel⟩, List.mem_of_getElem? (i := 1397) (by decide +kernel), List.mem_of_getElem? (i := 1956) (by decide +kernel), List.mem_of_getElem? (i := 1957) (by decide +kernel)⟩
theorem lw_p83 : lw_okq (⟨"LampYearModel", "goAlong", "(I)V"⟩, 108) := ⟨⟨by decide +kernel, by decide +kernel⟩, List.mem_of_getElem? (i := 1397) (by decide +kernel), List.mem_of_getElem? (i := 1977) (by decide +kernel), List.mem_of_getElem? (i := 1978) (by decide +kernel)⟩
theorem lw_p84 : lw_okq (⟨"LampYearModel", "teach", "(I)V"⟩, 108) := ⟨⟨by decide +kernel, by decide +kernel⟩, List.mem_of_getElem? (i := 1397) (by decide +kernel), List.mem_of_getElem? (i := 1981) (by decide +kernel), List.mem_of_getElem? (i := 1982) (by decide +kernel)⟩
theorem lw_p85 : lw_okq (⟨"LampYearModel", "asks", "(II)V"⟩, 108) := ⟨⟨by decide +kernel, by decide +kernel⟩, List.mem_of_getElem? (i := 1397) (by decide +kernel), List.mem_of_getElem? (i := 1985) (by decide +kernel), List.mem_of_getElem? (i := 1986) (by decide +kernel)⟩
theorem lw_p86 : lw_okq (⟨"LampYearModel", "doneSet", "(I)I"⟩, 108) := ⟨⟨by decide +kernel, by decide +kernel⟩, List.mem_of_getElem? (i := 1397) (by decide +kernel), List.mem_of_getElem? (i := 1989) (by decide +kernel), List.mem_of_getElem? (i := 1990) (by decide +kernel)⟩
theorem lw_p87 : lw_okq (⟨"LampYearModel", "isDone", "(II)Z"⟩, 108) := ⟨⟨by decide +kernel, by decide +kernel⟩, List.mem_of_getElem? (i := 1397) (by decide +kernel), List.mem_of_getElem? (i := 1993) (by decide +kernel), List.mem_of_getElem? (i := 1994) (by decide +kernel)⟩
theorem lw_p88 : lw_okq (⟨"LampYearModel", "allShut", "(II)Z"⟩, 108) := ⟨⟨by decide +kernel, by decide +kernel⟩, List.mem_of_getElem? (i := 1397) (by decide +kernel), List.mem_of_getElem? (i := 2000) (by decide +kernel), List.mem_of_getElem? (i := 2001) (by decide +kernel)⟩
theorem lw_p89 : lw_okq (⟨"LampYearModel", "holds", "(II)Z"⟩, 108) := ⟨⟨by decide +kernel, by decide +kernel⟩, List.mem_of_getElem? (i := 1397) (by decide +kernel), List.mem_of_getElem? (i := 2004) (by decide +kernel), List.mem_of_getElem? (i := 2005) (by decide +kernel)⟩
theorem lw_p90 : lw_okq (⟨"LampYearModel", "work", "(II)J"⟩, 108) := ⟨⟨by decide +kernel, by decide +kernel⟩, List.mem_of_getElem? (i := 1397) (by decide +kernel), List.mem_of_getElem? (i := 2008) (by decide +kernel), List.mem_of_getElem? (i := 2009) (by decide +kernel)⟩
theorem lw_p91 : lw_okq (⟨"LampYearModel", "isUnless", "(I)Z"⟩, 108) := ⟨⟨by decide +kernel, by decide +kernel⟩, List.mem_of_getElem? (i := 1397) (by decide +kernel), List.mem_of_getElem? (i := 2012) (by decide +kernel), List.mem_of_getElem? (i := 2013) (by decide +kernel)⟩
theorem lw_p92 : lw_okq (⟨"LampYearModel", "learns", "(II)V"⟩, 108) := ⟨⟨by decide +kernel, by decide +kernel⟩, List.mem_of_getElem? (i := 1397) (by decide +kernel), List.mem_of_getElem? (i := 2019) (by decide +kernel), List.mem_of_getElem? (i := 2020) (by decide +kernel)⟩
theorem lw_p93 : lw_okq (⟨"LampYearModel", "misses", "(I)V"⟩, 108) := ⟨⟨by decide +kernel, by decide +kernel⟩, List.mem_of_getElem? (i := 1397) (by decide +kernel), List.mem_of_getElem? (i := 2023) (by decide +kernel), List.mem_of_getElem? (i := 2024) (by decide +kernel)⟩
theorem lw_p94 : lw_okq (⟨"LampYearModel", "isProof", "(I)Z"⟩, 108) := ⟨⟨by decide +kernel, by decide +kernel⟩, List.mem_of_getElem? (i := 1397) (by decide +kernel), List.mem_of_getElem? (i := 2057) (by decide +kernel), List.mem_of_getElem? (i := 2058) (by decide +kernel)⟩
theorem lw_p95 : lw_okq (⟨"LampYearModel", "isPassed", "(I)Z"⟩, 108) := ⟨⟨by decide +kernel, by decide +kernel⟩, List.mem_of_getElem? (i := 1397) (by decide +kernel), List.mem_of_getElem? (i := 2061) (by decide +kernel), List.mem_of_getElem? (i := 2062) (by decide +kernel)⟩
def lw_privs_6 : List (MethodName × Nat) := [(⟨"LampYearModel", "one", "(Z)Z"⟩, 108), (⟨"LampYearModel", "stand", "(II)V"⟩, 108), (⟨"LampYearModel", "lastOf", "(II)I"⟩, 108), (⟨"LampYearModel", "goAlong", "(I)V"⟩, 108), (⟨"LampYearModel", "teach", "(I)V"⟩, 108), (⟨"LampYearModel", "asks", "(II)V"⟩, 108), (⟨"LampYearModel", "doneSet", "(I)I"⟩, 108), (⟨"LampYearModel", "isDone", "(II)Z"⟩, 108), (⟨"LampYearModel", "allShut", "(II)Z"⟩, 108), (⟨"LampYearModel", "holds", "(II)Z"⟩, 108), (⟨"LampYearModel", "work", "(II)J"⟩, 108), (⟨"LampYearModel", "isUnless", "(I)Z"⟩, 108), (⟨"LampYearModel", "learns", "(II)V"⟩, 108), (⟨"LampYearModel", "misses", "(I)V"⟩, 108), (⟨"LampYearModel", "isProof", "(I)Z"⟩, 108), (⟨"LampYearModel", "isPassed", "(I)Z"⟩, 108)]
theorem lw_r6 : ∀ q ∈ lw_privs_6, lw_okq q := List.forall_mem_cons.mpr ⟨lw_p80, List.forall_mem_cons.mpr ⟨lw_p81, List.forall_mem_cons.mpr ⟨lw_p82, List.forall_mem_cons.mpr ⟨lw_p83, List.forall_mem_cons.mpr ⟨lw_p84, List.forall_mem_cons.mpr ⟨lw_p85, List.forall_mem_cons.mpr ⟨lw_p86, List.forall_mem_cons.mpr ⟨lw_p87, List.forall_mem_cons.mpr ⟨lw_p88, List.forall_mem_cons.mpr ⟨lw_p89, List.forall_mem_cons.mpr ⟨lw_p90, List.forall_mem_cons.mpr ⟨lw_p91, List.forall_mem_cons.mpr ⟨lw_p92, List.forall_mem_cons.mpr ⟨lw_p93, List.forall_mem_cons.mpr ⟨lw_p94, List.forall_mem_cons.mpr ⟨lw_p95, fun _ h => absurd h List.not_mem_nil⟩⟩⟩⟩⟩⟩⟩⟩⟩⟩⟩⟩⟩⟩⟩⟩
theorem lw_p96 : lw_okq (⟨"LampYearModel", "spellOut", "(I)V"⟩, 108) := ⟨⟨by decide +kernel, by decide +kernel⟩, List.mem_of_getElem? (i := 1397) (by decide +kernel), List.mem_of_getElem? (i := 2065) (by decide +kernel), List.mem_of_getElem? (i := 2066) (by decide +kernel)⟩
theorem lw_p97 : lw_okq (⟨"LampYearModel", "pairs", "(II)I"⟩, 108) := ⟨⟨by decide +kernel, by decide +kernel⟩, List.mem_of_getElem? (i := 1397) (by decide +kernel), List.mem_of_getElem? (i := 2072) (by decide +kernel), List.mem_of_getElem? (i := 2073) (by decide +kernel)⟩
theorem lw_p98 : lw_okq (⟨"LampYearModel", "slips0", "(I)V"⟩, 108) := ⟨⟨by decide +kernel, by decide +kernel⟩, List.mem_of_getElem? (i := 1397) (by decide +kernel), List.mem_of_getElem? (i := 2076) (by decide +kernel), List.mem_of_getElem? (i := 2077) (by decide +kernel)⟩
theorem lw_p99 : lw_okq (⟨"LampYearModel", "owe", "(I)V"⟩, 108) := ⟨⟨by decide +kernel, by decide +kernel⟩, List.mem_of_getElem? (i := 1397) (by decide +kernel), List.mem_of_getElem? (i := 2080) (by decide +kernel), List.mem_of_getElem? (i := 2081) (by decide +kernel)⟩
theorem lw_p100 : lw_okq (⟨"LampYearModel", "doesRead", "(II)Z"⟩, 108) := ⟨⟨by decide +kernel, by decide +kernel⟩, List.mem_of_getElem? (i := 1397) (by decide +kernel), List.mem_of_getElem? (i := 2092) (by decide +kernel), List.mem_of_getElem? (i := 2093) (by decide +kernel)⟩
theorem lw_p101 : lw_okq (⟨"LampYearModel", "isRow", "(III[I)Z"⟩, 108) := ⟨⟨by decide +kernel, by decide +kernel⟩, List.mem_of_getElem? (i := 1397) (by decide +kernel), List.mem_of_getElem? (i := 2104) (by decide +kernel), List.mem_of_getElem? (i := 2105) (by decide +kernel)⟩
theorem lw_p102 : lw_okq (⟨"LampYearModel", "tongueOf", "(II)I"⟩, 108) := ⟨⟨by decide +kernel, by decide +kernel⟩, List.mem_of_getElem? (i := 1397) (by decide +kernel), List.mem_of_getElem? (i := 2108) (by decide +kernel), List.mem_of_getElem? (i := 2109) (by decide +kernel)⟩
theorem lw_p103 : lw_okq (⟨"LampYearModel", "keyOf", "(I)I"⟩, 108) := ⟨⟨by decide +kernel, by decide +kernel⟩, List.mem_of_getElem? (i := 1397) (by decide +kernel), List.mem_of_getElem? (i := 2112) (by decide +kernel), List.mem_of_getElem? (i := 2113) (by decide +kernel)⟩
theorem lw_p104 : lw_okq (⟨"LampYearModel", "isLesser", "(I)Z"⟩, 108) := ⟨⟨by decide +kernel, by decide +kernel⟩, List.mem_of_getElem? (i := 1397) (by decide +kernel), List.mem_of_getElem? (i := 2117) (by decide +kernel), List.mem_of_getElem? (i := 2118) (by decide +kernel)⟩
theorem lw_p105 : lw_okq (⟨"LampYearModel", "fillChoose", "()V"⟩, 108) := ⟨⟨by decide +kernel, by decide +kernel⟩, List.mem_of_getElem? (i := 1397) (by decide +kernel), List.mem_of_getElem? (i := 2129) (by decide +kernel), List.mem_of_getElem? (i := 2130) (by decide +kernel)⟩
def lw_privs_7 : List (MethodName × Nat) := [(⟨"LampYearModel", "spellOut", "(I)V"⟩, 108), (⟨"LampYearModel", "pairs", "(II)I"⟩, 108), (⟨"LampYearModel", "slips0", "(I)V"⟩, 108), (⟨"LampYearModel", "owe", "(I)V"⟩, 108), (⟨"LampYearModel", "doesRead", "(II)Z"⟩, 108), (⟨"LampYearModel", "isRow", "(III[I)Z"⟩, 108), (⟨"LampYearModel", "tongueOf", "(II)I"⟩, 108), (⟨"LampYearModel", "keyOf", "(I)I"⟩, 108), (⟨"LampYearModel", "isLesser", "(I)Z"⟩, 108), (⟨"LampYearModel", "fillChoose", "()V"⟩, 108)]
theorem lw_r7 : ∀ q ∈ lw_privs_7, lw_okq q := List.forall_mem_cons.mpr ⟨lw_p96, List.forall_mem_cons.mpr ⟨lw_p97, List.forall_mem_cons.mpr ⟨lw_p98, List.forall_mem_cons.mpr ⟨lw_p99, List.forall_mem_cons.mpr ⟨lw_p100, List.forall_mem_cons.mpr ⟨lw_p101, List.forall_mem_cons.mpr ⟨lw_p102, List.forall_mem_cons.mpr ⟨lw_p103, List.forall_mem_cons.mpr ⟨lw_p104, List.forall_mem_cons.mpr ⟨lw_p105, fun _ h => absurd h List.not_mem_nil⟩⟩⟩⟩⟩⟩⟩⟩⟩⟩
def lw_privs : List (MethodName × Nat) := lw_privs_1 ++ (lw_privs_2 ++ (lw_privs_3 ++ (lw_privs_4 ++ (lw_privs_5 ++ (lw_privs_6 ++ (lw_privs_7))))))
def lw_tbl : List Cond := k2_sels lw_privs ++ tables_1
theorem lw_privs_ok : ∀ q ∈ lw_privs, lw_okq q := by
  show ∀ q ∈ lw_privs_1 ++ (lw_privs_2 ++ (lw_privs_3 ++ (lw_privs_4 ++ (lw_privs_5 ++ (lw_privs_6 ++ (lw_privs_7)))))), lw_okq q
  exact List.forall_mem_append.mpr ⟨lw_r1, List.forall_mem_append.mpr ⟨lw_r2, List.forall_mem_append.mpr ⟨lw_r3, List.forall_mem_append.mpr ⟨lw_r4, List.forall_mem_append.mpr ⟨lw_r5, List.forall_mem_append.mpr ⟨lw_r6, lw_r7⟩⟩⟩⟩⟩⟩
def RX0 : String := "LampYear$Book"
def TX0 : u_T := fun k => match k with
  | 0 => ("LampYear$Book", "texts", "I", false)
  | 1 => ("LampYear$Book", "beganIn", "[I", true)
  | 2 => ("LampYear$Book", "shiresOf", "[I", true)
  | 3 => ("LampYear$Book", "firstRule", "[I", true)
  | 4 => ("LampYear$Book", "byBegin", "[I", true)
  | 5 => ("LampYear$Book", "label", "[J", true)
  | 6 => ("LampYear$Book", "strikes", "[J", true)
  | 7 => ("LampYear$Book", "does", "[I", true)
  | 8 => ("LampYear$Book", "limit", "[I", true)
  | 9 => ("LampYear$Book", "begin", "[I", true)
  | 10 => ("LampYear$Book", "unless", "[I", true)
  | 11 => ("LampYear$Book", "end", "[I", true)
  | 12 => ("LampYear$Book", "codes", "[I", true)
  | 13 => ("LampYear$Book", "codesKept", "I", false)
  | 14 => ("LampYear$Book", "draftRules", "I", false)
  | 15 => ("LampYear$Book", "draftCodes", "I", false)
  | 16 => ("LampYear$Book", "standings", "[LLampYear$Standing;", true)
  | _ => ("LampYear$Book", "stack", "[J", true)
def tyX0 : Nat → FieldType := fun k => match k with
  | 0 => .int
  | 1 => .array .int
  | 2 => .array .int
  | 3 => .array .int
  | 4 => .array .int
  | 5 => .array .long
  | 6 => .array .long
  | 7 => .array .int
  | 8 => .array .int
  | 9 => .array .int
  | 10 => .array .int
  | 11 => .array .int
  | 12 => .array .int
  | 13 => .int
  | 14 => .int
  | 15 => .int
  | 16 => .array (.object "LampYear$Standing")
  | _ => .array .long
theorem nmX0 : ∀ a, a < 18 → ∀ b, b < 18 → a ≠ b → (TX0 a).2.1 ≠ (TX0 b).2.1 := by decide +kernel
theorem tyX0_ok : ∀ k, k < 18 → parseFieldDescriptor (TX0 k).2.2.1 = some (tyX0 k) := by decide +kernel
abbrev cX0_init : ByteArray := prog_2_method_1_code
def yX0_init : MethodName := ⟨RX0, "<init>", "()V"⟩
abbrev cX0_openText : ByteArray := prog_2_method_2_code
def yX0_openText : MethodName := ⟨RX0, "openText", "()V"⟩
abbrev cX0_isFull : ByteArray := prog_2_method_3_code
def yX0_isFull : MethodName := ⟨RX0, "isFull", "()Z"⟩
abbrev cX0_hasDraft : ByteArray := prog_2_method_4_code
def yX0_hasDraft : MethodName := ⟨RX0, "hasDraft", "(J)Z"⟩
abbrev cX0_openRule : ByteArray := prog_2_method_5_code
def yX0_openRule : MethodName := ⟨RX0, "openRule", "(J)V"⟩
abbrev cX0_draft : ByteArray := prog_2_method_6_code
def yX0_draft : MethodName := ⟨RX0, "draft", "()I"⟩
abbrev cX0_draftStrikes : ByteArray := prog_2_method_7_code
def yX0_draftStrikes : MethodName := ⟨RX0, "draftStrikes", "(J)V"⟩
abbrev cX0_draftDoes : ByteArray := prog_2_method_8_code
def yX0_draftDoes : MethodName := ⟨RX0, "draftDoes", "(I)V"⟩
abbrev cX0_draftLimit : ByteArray := prog_2_method_9_code
def yX0_draftLimit : MethodName := ⟨RX0, "draftLimit", "(I)V"⟩
abbrev cX0_draftUnless : ByteArray := prog_2_method_10_code
def yX0_draftUnless : MethodName := ⟨RX0, "draftUnless", "()V"⟩
abbrev cX0_hasUnless : ByteArray := prog_2_method_11_code
def yX0_hasUnless : MethodName := ⟨RX0, "hasUnless", "()Z"⟩
abbrev cX0_closeRule : ByteArray := prog_2_method_12_code
def yX0_closeRule : MethodName := ⟨RX0, "closeRule", "()V"⟩
abbrev cX0_addCode : ByteArray := prog_2_method_13_code
def yX0_addCode : MethodName := ⟨RX0, "addCode", "(I)V"⟩
abbrev cX0_keepText : ByteArray := prog_2_method_14_code
def yX0_keepText : MethodName := ⟨RX0, "keepText", "(II)I"⟩
abbrev cX0_standingIn : ByteArray := prog_2_method_15_code
def yX0_standingIn : MethodName := ⟨RX0, "standingIn", "(II)LLampYear$Standing;"⟩
abbrev cX0_run : ByteArray := prog_2_method_16_code
def yX0_run : MethodName := ⟨RX0, "run", "(II[J)J"⟩
abbrev cX0_reckon : ByteArray := prog_2_method_17_code
def yX0_reckon : MethodName := ⟨RX0, "reckon", "(IJJ)J"⟩
def RX1 : String := "LampYear$Draws"
def TX1 : u_T := fun k => match k with
  | _ => ("LampYear$Draws", "choices", "[J", true)
def tyX1 : Nat → FieldType := fun k => match k with
  | _ => .array .long
theorem nmX1 : ∀ a, a < 1 → ∀ b, b < 1 → a ≠ b → (TX1 a).2.1 ≠ (TX1 b).2.1 := by decide +kernel
theorem tyX1_ok : ∀ k, k < 1 → parseFieldDescriptor (TX1 k).2.2.1 = some (tyX1 k) := by decide +kernel
abbrev cX1_init : ByteArray := prog_3_method_1_code
def yX1_init : MethodName := ⟨RX1, "<init>", "()V"⟩
abbrev cX1_choose : ByteArray := prog_3_method_2_code
def yX1_choose : MethodName := ⟨RX1, "choose", "(II)J"⟩
abbrev cX1_hasChance : ByteArray := prog_3_method_3_code
def yX1_hasChance : MethodName := ⟨RX1, "hasChance", "(IIIII)Z"⟩
abbrev cX1_low : ByteArray := prog_3_method_4_code
def yX1_low : MethodName := ⟨RX1, "low", "(III)I"⟩
abbrev cX1_high : ByteArray := prog_3_method_5_code
def yX1_high : MethodName := ⟨RX1, "high", "(III)I"⟩
def RX2 : String := "LampYear$Land"
def TX2 : u_T := fun k => match k with
  | 0 => ("LampYear$Land", "places", "I", false)
  | 1 => ("LampYear$Land", "shireOf", "[I", true)
  | 2 => ("LampYear$Land", "ways", "I", false)
  | 3 => ("LampYear$Land", "wayA", "[I", true)
  | 4 => ("LampYear$Land", "wayB", "[I", true)
  | 5 => ("LampYear$Land", "wayWeeks", "[I", true)
  | 6 => ("LampYear$Land", "shutFrom", "[I", true)
  | 7 => ("LampYear$Land", "shutTo", "[I", true)
  | 8 => ("LampYear$Land", "learners", "I", false)
  | 9 => ("LampYear$Land", "home", "[I", true)
  | 10 => ("LampYear$Land", "age", "[I", true)
  | 11 => ("LampYear$Land", "tongue", "[I", true)
  | 12 => ("LampYear$Land", "teachers", "I", false)
  | 13 => ("LampYear$Land", "tongues", "[I", true)
  | 14 => ("LampYear$Land", "waitsAt", "[I", true)
  | 15 => ("LampYear$Land", "lamps", "I", false)
  | 16 => ("LampYear$Land", "lampPlace", "[I", true)
  | _ => ("LampYear$Land", "arrivals", "[I", true)
def tyX2 : Nat → FieldType := fun k => match k with
  | 0 => .int
  | 1 => .array .int
  | 2 => .int
  | 3 => .array .int
  | 4 => .array .int
  | 5 => .array .int
  | 6 => .array .int
  | 7 => .array .int
  | 8 => .int
  | 9 => .array .int
  | 10 => .array .int
  | 11 => .array .int
  | 12 => .int
  | 13 => .array .int
  | 14 => .array .int
  | 15 => .int
  | 16 => .array .int
  | _ => .array .int
theorem nmX2 : ∀ a, a < 18 → ∀ b, b < 18 → a ≠ b → (TX2 a).2.1 ≠ (TX2 b).2.1 := by decide +kernel
theorem tyX2_ok : ∀ k, k < 18 → parseFieldDescriptor (TX2 k).2.2.1 = some (tyX2 k) := by decide +kernel
abbrev cX2_init : ByteArray := prog_4_method_1_code
def yX2_init : MethodName := ⟨RX2, "<init>", "()V"⟩
abbrev cX2_isPlace : ByteArray := prog_4_method_2_code
def yX2_isPlace : MethodName := ⟨RX2, "isPlace", "(I)Z"⟩
abbrev cX2_isLearner : ByteArray := prog_4_method_3_code
def yX2_isLearner : MethodName := ⟨RX2, "isLearner", "(I)Z"⟩
abbrev cX2_isTeacher : ByteArray := prog_4_method_4_code
def yX2_isTeacher : MethodName := ⟨RX2, "isTeacher", "(I)Z"⟩
abbrev cX2_isLamp : ByteArray := prog_4_method_5_code
def yX2_isLamp : MethodName := ⟨RX2, "isLamp", "(I)Z"⟩
abbrev cX2_addPlace : ByteArray := prog_4_method_6_code
def yX2_addPlace : MethodName := ⟨RX2, "addPlace", "(I)I"⟩
abbrev cX2_addWay : ByteArray := prog_4_method_7_code
def yX2_addWay : MethodName := ⟨RX2, "addWay", "(IIIII)I"⟩
abbrev cX2_addLearner : ByteArray := prog_4_method_8_code
def yX2_addLearner : MethodName := ⟨RX2, "addLearner", "(III)I"⟩
abbrev cX2_addTeacher : ByteArray := prog_4_method_9_code
def yX2_addTeacher : MethodName := ⟨RX2, "addTeacher", "(II)I"⟩
abbrev cX2_addLamp : ByteArray := prog_4_method_10_code
def yX2_addLamp : MethodName := ⟨RX2, "addLamp", "(I)I"⟩
abbrev cX2_areJoined : ByteArray := prog_4_method_11_code
def yX2_areJoined : MethodName := ⟨RX2, "areJoined", "(II)Z"⟩
abbrev cX2_isShut : ByteArray := prog_4_method_12_code
def yX2_isShut : MethodName := ⟨RX2, "isShut", "(II)Z"⟩
abbrev cX2_rainsIn : ByteArray := prog_4_method_13_code
def yX2_rainsIn : MethodName := ⟨RX2, "rainsIn", "(II)Z"⟩
abbrev cX2_travel : ByteArray := prog_4_method_14_code
def yX2_travel : MethodName := ⟨RX2, "travel", "(II)V"⟩
abbrev cX2_walk : ByteArray := prog_4_method_15_code
def yX2_walk : MethodName := ⟨RX2, "walk", "(III)Z"⟩
abbrev cX2_reached : ByteArray := prog_4_method_16_code
def yX2_reached : MethodName := ⟨RX2, "reached", "(I)I"⟩
def RX3 : String := "LampYear$Lessons"
def TX3 : u_T := fun k => match k with
  | 0 => ("LampYear$Lessons", "needs", "[I", true)
  | 1 => ("LampYear$Lessons", "leans", "[I", true)
  | 2 => ("LampYear$Lessons", "letters", "[I", true)
  | _ => ("LampYear$Lessons", "fade", "I", false)
def tyX3 : Nat → FieldType := fun k => match k with
  | 0 => .array .int
  | 1 => .array .int
  | 2 => .array .int
  | _ => .int
theorem nmX3 : ∀ a, a < 4 → ∀ b, b < 4 → a ≠ b → (TX3 a).2.1 ≠ (TX3 b).2.1 := by decide +kernel
theorem tyX3_ok : ∀ k, k < 4 → parseFieldDescriptor (TX3 k).2.2.1 = some (tyX3 k) := by decide +kernel
abbrev cX3_init : ByteArray := prog_5_method_1_code
def yX3_init : MethodName := ⟨RX3, "<init>", "()V"⟩
abbrev cX3_set : ByteArray := prog_5_method_2_code
def yX3_set : MethodName := ⟨RX3, "set", "(IIII)V"⟩
abbrev cX3_firstFor : ByteArray := prog_5_method_3_code
def yX3_firstFor : MethodName := ⟨RX3, "firstFor", "(I)I"⟩
abbrev cX3_worthAt : ByteArray := prog_5_method_4_code
def yX3_worthAt : MethodName := ⟨RX3, "worthAt", "(II)I"⟩
abbrev cX3_doneIn : ByteArray := prog_5_method_5_code
def yX3_doneIn : MethodName := ⟨RX3, "doneIn", "([BI)I"⟩
abbrev cX3_learn : ByteArray := prog_5_method_6_code
def yX3_learn : MethodName := ⟨RX3, "learn", "([BII)V"⟩
abbrev cX3_forget : ByteArray := prog_5_method_7_code
def yX3_forget : MethodName := ⟨RX3, "forget", "([BI)V"⟩
def RX4 : String := "LampYear$Notes"
def TX4 : u_T := fun k => match k with
  | 0 => ("LampYear$Notes", "many", "I", false)
  | 1 => ("LampYear$Notes", "sortOf", "[I", true)
  | 2 => ("LampYear$Notes", "who", "[I", true)
  | 3 => ("LampYear$Notes", "lampOf", "[I", true)
  | 4 => ("LampYear$Notes", "from", "[I", true)
  | 5 => ("LampYear$Notes", "to", "[I", true)
  | 6 => ("LampYear$Notes", "knownBy", "[I", true)
  | 7 => ("LampYear$Notes", "asOf", "I", false)
  | 8 => ("LampYear$Notes", "weekCalled", "I", false)
  | 9 => ("LampYear$Notes", "teacherLamp", "[I", true)
  | 10 => ("LampYear$Notes", "learnerLamp", "[I", true)
  | 11 => ("LampYear$Notes", "lampTeacher", "[I", true)
  | _ => ("LampYear$Notes", "lampLearners", "[I", true)
def tyX4 : Nat → FieldType := fun k => match k with
  | 0 => .int
  | 1 => .array .int
  | 2 => .array .int
  | 3 => .array .int
  | 4 => .array .int
  | 5 => .array .int
  | 6 => .array .int
  | 7 => .int
  | 8 => .int
  | 9 => .array .int
  | 10 => .array .int
  | 11 => .array .int
  | _ => .array .int
theorem nmX4 : ∀ a, a < 13 → ∀ b, b < 13 → a ≠ b → (TX4 a).2.1 ≠ (TX4 b).2.1 := by decide +kernel
theorem tyX4_ok : ∀ k, k < 13 → parseFieldDescriptor (TX4 k).2.2.1 = some (tyX4 k) := by decide +kernel
abbrev cX4_init : ByteArray := prog_6_method_1_code
def yX4_init : MethodName := ⟨RX4, "<init>", "()V"⟩
abbrev cX4_latestKnown : ByteArray := prog_6_method_2_code
def yX4_latestKnown : MethodName := ⟨RX4, "latestKnown", "()I"⟩
abbrev cX4_add : ByteArray := prog_6_method_3_code
def yX4_add : MethodName := ⟨RX4, "add", "(IIIIII)V"⟩
abbrev cX4_lookFrom : ByteArray := prog_6_method_4_code
def yX4_lookFrom : MethodName := ⟨RX4, "lookFrom", "(I)I"⟩
abbrev cX4_callUp : ByteArray := prog_6_method_5_code
def yX4_callUp : MethodName := ⟨RX4, "callUp", "(I)V"⟩
abbrev cX4_tellsOf : ByteArray := prog_6_method_6_code
def yX4_tellsOf : MethodName := ⟨RX4, "tellsOf", "(II)Z"⟩
abbrev cX4_gatherAtLamps : ByteArray := prog_6_method_7_code
def yX4_gatherAtLamps : MethodName := ⟨RX4, "gatherAtLamps", "()V"⟩
def RX5 : String := "LampYear$Proofs"
def TX5 : u_T := fun k => match k with
  | 0 => ("LampYear$Proofs", "many", "I", false)
  | 1 => ("LampYear$Proofs", "learnerOf", "[I", true)
  | 2 => ("LampYear$Proofs", "weekOf", "[I", true)
  | 3 => ("LampYear$Proofs", "slipsOf", "[I", true)
  | 4 => ("LampYear$Proofs", "slipLetters", "[B", true)
  | 5 => ("LampYear$Proofs", "told", "[I", true)
  | 6 => ("LampYear$Proofs", "written", "[I", true)
  | _ => ("LampYear$Proofs", "fewest", "[I", true)
def tyX5 : Nat → FieldType := fun k => match k with
  | 0 => .int
  | 1 => .array .int
  | 2 => .array .int
  | 3 => .array .int
  | 4 => .array .byte
  | 5 => .array .int
  | 6 => .array .int
  | _ => .array .int
theorem nmX5 : ∀ a, a < 8 → ∀ b, b < 8 → a ≠ b → (TX5 a).2.1 ≠ (TX5 b).2.1 := by decide +kernel
theorem tyX5_ok : ∀ k, k < 8 → parseFieldDescriptor (TX5 k).2.2.1 = some (tyX5 k) := by decide +kernel
abbrev cX5_init : ByteArray := prog_7_method_1_code
def yX5_init : MethodName := ⟨RX5, "<init>", "()V"⟩
abbrev cX5_isProof : ByteArray := prog_7_method_2_code
def yX5_isProof : MethodName := ⟨RX5, "isProof", "(I)Z"⟩
abbrev cX5_lengthOf : ByteArray := prog_7_method_3_code
def yX5_lengthOf : MethodName := ⟨RX5, "lengthOf", "(J)I"⟩
abbrev cX5_spell : ByteArray := prog_7_method_4_code
def yX5_spell : MethodName := ⟨RX5, "spell", "(J[I)I"⟩
abbrev cX5_add : ByteArray := prog_7_method_5_code
def yX5_add : MethodName := ⟨RX5, "add", "(IIJJ)I"⟩
abbrev cX5_measure : ByteArray := prog_7_method_6_code
def yX5_measure : MethodName := ⟨RX5, "measure", "(II)V"⟩
abbrev cX5_fewestAt : ByteArray := prog_7_method_7_code
def yX5_fewestAt : MethodName := ⟨RX5, "fewestAt", "(II)I"⟩
abbrev cX5_slipOf : ByteArray := prog_7_method_8_code
def yX5_slipOf : MethodName := ⟨RX5, "slipOf", "(II)I"⟩
abbrev cX5_walk : ByteArray := prog_7_method_9_code
def yX5_walk : MethodName := ⟨RX5, "walk", "(II)V"⟩
abbrev cX5_slip : ByteArray := prog_7_method_10_code
def yX5_slip : MethodName := ⟨RX5, "slip", "(I)V"⟩
abbrev cX5_countOwed : ByteArray := prog_7_method_11_code
def yX5_countOwed : MethodName := ⟨RX5, "countOwed", "(IILLampYear$Lessons;I)I"⟩
abbrev cX5_latestBy : ByteArray := prog_7_method_12_code
def yX5_latestBy : MethodName := ⟨RX5, "latestBy", "(II)I"⟩
def RX6 : String := "LampYear$Reader"
def TX6 : u_T := fun k => match k with
  | 0 => ("LampYear$Reader", "book", "LLampYear$Book;", true)
  | 1 => ("LampYear$Reader", "tape", "[B", true)
  | 2 => ("LampYear$Reader", "length", "I", false)
  | 3 => ("LampYear$Reader", "words", "[J", true)
  | 4 => ("LampYear$Reader", "faultKind", "I", false)
  | 5 => ("LampYear$Reader", "faultPlace", "I", false)
  | 6 => ("LampYear$Reader", "next", "I", false)
  | 7 => ("LampYear$Reader", "token", "I", false)
  | 8 => ("LampYear$Reader", "tokenPlace", "I", false)
  | 9 => ("LampYear$Reader", "tokenWord", "J", false)
  | 10 => ("LampYear$Reader", "tokenNumber", "I", false)
  | 11 => ("LampYear$Reader", "state", "I", false)
  | 12 => ("LampYear$Reader", "sum", "I", false)
  | 13 => ("LampYear$Reader", "does", "I", false)
  | 14 => ("LampYear$Reader", "brackets", "I", false)
  | 15 => ("LampYear$Reader", "waiting", "[I", true)
  | _ => ("LampYear$Reader", "waits", "I", false)
def tyX6 : Nat → FieldType := fun k => match k with
  | 0 => .object "LampYear$Book"
  | 1 => .array .byte
  | 2 => .int
  | 3 => .array .long
  | 4 => .int
  | 5 => .int
  | 6 => .int
  | 7 => .int
  | 8 => .int
  | 9 => .long
  | 10 => .int
  | 11 => .int
  | 12 => .int
  | 13 => .int
  | 14 => .int
  | 15 => .array .int
  | _ => .int
theorem nmX6 : ∀ a, a < 17 → ∀ b, b < 17 → a ≠ b → (TX6 a).2.1 ≠ (TX6 b).2.1 := by decide +kernel
theorem tyX6_ok : ∀ k, k < 17 → parseFieldDescriptor (TX6 k).2.2.1 = some (tyX6 k) := by decide +kernel
abbrev cX6_init : ByteArray := prog_8_method_1_code
def yX6_init : MethodName := ⟨RX6, "<init>", "(LLampYear$Book;)V"⟩
abbrev cX6_pack : ByteArray := prog_8_method_2_code
def yX6_pack : MethodName := ⟨RX6, "pack", "(JI)J"⟩
abbrev cX6_hasRoomForFive : ByteArray := prog_8_method_3_code
def yX6_hasRoomForFive : MethodName := ⟨RX6, "hasRoomForFive", "()Z"⟩
abbrev cX6_append : ByteArray := prog_8_method_4_code
def yX6_append : MethodName := ⟨RX6, "append", "(I)V"⟩
abbrev cX6_parse : ByteArray := prog_8_method_5_code
def yX6_parse : MethodName := ⟨RX6, "parse", "(I)V"⟩
abbrev cX6_scan : ByteArray := prog_8_method_6_code
def yX6_scan : MethodName := ⟨RX6, "scan", "(I)V"⟩
abbrev cX6_isLetter : ByteArray := prog_8_method_7_code
def yX6_isLetter : MethodName := ⟨RX6, "isLetter", "(I)Z"⟩
abbrev cX6_isDigit : ByteArray := prog_8_method_8_code
def yX6_isDigit : MethodName := ⟨RX6, "isDigit", "(I)Z"⟩
abbrev cX6_scanWord : ByteArray := prog_8_method_9_code
def yX6_scanWord : MethodName := ⟨RX6, "scanWord", "(I)V"⟩
abbrev cX6_scanNumber : ByteArray := prog_8_method_10_code
def yX6_scanNumber : MethodName := ⟨RX6, "scanNumber", "(I)V"⟩
abbrev cX6_take : ByteArray := prog_8_method_11_code
def yX6_take : MethodName := ⟨RX6, "take", "()I"⟩
abbrev cX6_goOn : ByteArray := prog_8_method_12_code
def yX6_goOn : MethodName := ⟨RX6, "goOn", "(I)I"⟩
abbrev cX6_takeOnly : ByteArray := prog_8_method_13_code
def yX6_takeOnly : MethodName := ⟨RX6, "takeOnly", "(II)I"⟩
abbrev cX6_takeRule : ByteArray := prog_8_method_14_code
def yX6_takeRule : MethodName := ⟨RX6, "takeRule", "()I"⟩
abbrev cX6_takeStruckLabel : ByteArray := prog_8_method_15_code
def yX6_takeStruckLabel : MethodName := ⟨RX6, "takeStruckLabel", "()I"⟩
abbrev cX6_takeDoes : ByteArray := prog_8_method_16_code
def yX6_takeDoes : MethodName := ⟨RX6, "takeDoes", "()I"⟩
abbrev cX6_openSum : ByteArray := prog_8_method_17_code
def yX6_openSum : MethodName := ⟨RX6, "openSum", "(II)I"⟩
abbrev cX6_takeLimit : ByteArray := prog_8_method_18_code
def yX6_takeLimit : MethodName := ⟨RX6, "takeLimit", "()I"⟩
abbrev cX6_takeOne : ByteArray := prog_8_method_19_code
def yX6_takeOne : MethodName := ⟨RX6, "takeOne", "()I"⟩
abbrev cX6_takeAtom : ByteArray := prog_8_method_20_code
def yX6_takeAtom : MethodName := ⟨RX6, "takeAtom", "()I"⟩
abbrev cX6_isReckoner : ByteArray := prog_8_method_21_code
def yX6_isReckoner : MethodName := ⟨RX6, "isReckoner", "(I)Z"⟩
abbrev cX6_takeInSum : ByteArray := prog_8_method_22_code
def yX6_takeInSum : MethodName := ⟨RX6, "takeInSum", "()I"⟩
abbrev cX6_takeBehindSum : ByteArray := prog_8_method_23_code
def yX6_takeBehindSum : MethodName := ⟨RX6, "takeBehindSum", "()I"⟩
abbrev cX6_openUnless : ByteArray := prog_8_method_24_code
def yX6_openUnless : MethodName := ⟨RX6, "openUnless", "()I"⟩
abbrev cX6_closeRule : ByteArray := prog_8_method_25_code
def yX6_closeRule : MethodName := ⟨RX6, "closeRule", "()I"⟩
abbrev cX6_bindingOf : ByteArray := prog_8_method_26_code
def yX6_bindingOf : MethodName := ⟨RX6, "bindingOf", "(I)I"⟩
abbrev cX6_takeOperator : ByteArray := prog_8_method_27_code
def yX6_takeOperator : MethodName := ⟨RX6, "takeOperator", "(II)I"⟩
abbrev cX6_await : ByteArray := prog_8_method_28_code
def yX6_await : MethodName := ⟨RX6, "await", "(I)V"⟩
abbrev cX6_release : ByteArray := prog_8_method_29_code
def yX6_release : MethodName := ⟨RX6, "release", "(I)V"⟩
def RX7 : String := "LampYear$Sending"
def TX7 : u_T := fun k => match k with
  | 0 => ("LampYear$Sending", "many", "I", false)
  | 1 => ("LampYear$Sending", "lamp", "[I", true)
  | 2 => ("LampYear$Sending", "teacher", "[I", true)
  | 3 => ("LampYear$Sending", "arrivalAt", "[I", true)
  | 4 => ("LampYear$Sending", "latest", "[I", true)
  | 5 => ("LampYear$Sending", "sums", "[I", true)
  | 6 => ("LampYear$Sending", "sentMany", "I", false)
  | _ => ("LampYear$Sending", "sentTo", "[I", true)
def tyX7 : Nat → FieldType := fun k => match k with
  | 0 => .int
  | 1 => .array .int
  | 2 => .array .int
  | 3 => .array .int
  | 4 => .array .int
  | 5 => .array .int
  | 6 => .int
  | _ => .array .int
theorem nmX7 : ∀ a, a < 8 → ∀ b, b < 8 → a ≠ b → (TX7 a).2.1 ≠ (TX7 b).2.1 := by decide +kernel
theorem tyX7_ok : ∀ k, k < 8 → parseFieldDescriptor (TX7 k).2.2.1 = some (tyX7 k) := by decide +kernel
abbrev cX7_init : ByteArray := prog_9_method_1_code
def yX7_init : MethodName := ⟨RX7, "<init>", "()V"⟩
abbrev cX7_begin : ByteArray := prog_9_method_2_code
def yX7_begin : MethodName := ⟨RX7, "begin", "(I)V"⟩
abbrev cX7_name : ByteArray := prog_9_method_3_code
def yX7_name : MethodName := ⟨RX7, "name", "(III)V"⟩
abbrev cX7_measure : ByteArray := prog_9_method_4_code
def yX7_measure : MethodName := ⟨RX7, "measure", "(LLampYear$Land;LLampYear$Notes;I)V"⟩
abbrev cX7_speaks : ByteArray := prog_9_method_5_code
def yX7_speaks : MethodName := ⟨RX7, "speaks", "(LLampYear$Land;LLampYear$Notes;II)Z"⟩
abbrev cX7_choose : ByteArray := prog_9_method_6_code
def yX7_choose : MethodName := ⟨RX7, "choose", "()I"⟩
abbrev cX7_arrivalFor : ByteArray := prog_9_method_7_code
def yX7_arrivalFor : MethodName := ⟨RX7, "arrivalFor", "(II)I"⟩
abbrev cX7_leastLatest : ByteArray := prog_9_method_8_code
def yX7_leastLatest : MethodName := ⟨RX7, "leastLatest", "(I)I"⟩
abbrev cX7_leastSum : ByteArray := prog_9_method_9_code
def yX7_leastSum : MethodName := ⟨RX7, "leastSum", "(II)I"⟩
abbrev cX7_keep : ByteArray := prog_9_method_10_code
def yX7_keep : MethodName := ⟨RX7, "keep", "(I)V"⟩
def RX8 : String := "LampYear$Standing"
def TX8 : u_T := fun k => match k with
  | 0 => ("LampYear$Standing", "inForce", "I", false)
  | 1 => ("LampYear$Standing", "many", "I", false)
  | 2 => ("LampYear$Standing", "ruleAt", "[I", true)
  | 3 => ("LampYear$Standing", "isStruck", "[Z", true)
  | 4 => ("LampYear$Standing", "mays", "I", false)
  | 5 => ("LampYear$Standing", "mayRules", "[I", true)
  | 6 => ("LampYear$Standing", "tellers", "I", false)
  | 7 => ("LampYear$Standing", "hoursRules", "[I", true)
  | 8 => ("LampYear$Standing", "room", "I", false)
  | 9 => ("LampYear$Standing", "pass", "I", false)
  | _ => ("LampYear$Standing", "flag", "I", false)
def tyX8 : Nat → FieldType := fun k => match k with
  | 0 => .int
  | 1 => .int
  | 2 => .array .int
  | 3 => .array .boolean
  | 4 => .int
  | 5 => .array .int
  | 6 => .int
  | 7 => .array .int
  | 8 => .int
  | 9 => .int
  | _ => .int
theorem nmX8 : ∀ a, a < 11 → ∀ b, b < 11 → a ≠ b → (TX8 a).2.1 ≠ (TX8 b).2.1 := by decide +kernel
theorem tyX8_ok : ∀ k, k < 11 → parseFieldDescriptor (TX8 k).2.2.1 = some (tyX8 k) := by decide +kernel
abbrev cX8_init : ByteArray := prog_10_method_1_code
def yX8_init : MethodName := ⟨RX8, "<init>", "()V"⟩
abbrev cX8_gather : ByteArray := prog_10_method_2_code
def yX8_gather : MethodName := ⟨RX8, "gather", "(LLampYear$Book;I)V"⟩
abbrev cX8_strike : ByteArray := prog_10_method_3_code
def yX8_strike : MethodName := ⟨RX8, "strike", "(LLampYear$Book;)V"⟩
abbrev cX8_listen : ByteArray := prog_10_method_4_code
def yX8_listen : MethodName := ⟨RX8, "listen", "(LLampYear$Book;)V"⟩
abbrev cX8_asksForFacts : ByteArray := prog_10_method_5_code
def yX8_asksForFacts : MethodName := ⟨RX8, "asksForFacts", "()Z"⟩
abbrev cX8_admits : ByteArray := prog_10_method_6_code
def yX8_admits : MethodName := ⟨RX8, "admits", "(LLampYear$Book;[J)Z"⟩
abbrev cX8_hoursFor : ByteArray := prog_10_method_7_code
def yX8_hoursFor : MethodName := ⟨RX8, "hoursFor", "(LLampYear$Book;[J)I"⟩
def RX9 : String := "LampYear$Trays"
def TX9 : u_T := fun k => match k with
  | 0 => ("LampYear$Trays", "numbers", "[J", true)
  | 1 => ("LampYear$Trays", "sortOf", "[I", true)
  | _ => ("LampYear$Trays", "sizeOf", "[I", true)
def tyX9 : Nat → FieldType := fun k => match k with
  | 0 => .array .long
  | 1 => .array .int
  | _ => .array .int
theorem nmX9 : ∀ a, a < 3 → ∀ b, b < 3 → a ≠ b → (TX9 a).2.1 ≠ (TX9 b).2.1 := by decide +kernel
theorem tyX9_ok : ∀ k, k < 3 → parseFieldDescriptor (TX9 k).2.2.1 = some (tyX9 k) := by decide +kernel
abbrev cX9_init : ByteArray := prog_11_method_1_code
def yX9_init : MethodName := ⟨RX9, "<init>", "()V"⟩
abbrev cX9_isTray : ByteArray := prog_11_method_2_code
def yX9_isTray : MethodName := ⟨RX9, "isTray", "(I)Z"⟩
abbrev cX9_isMissing : ByteArray := prog_11_method_3_code
def yX9_isMissing : MethodName := ⟨RX9, "isMissing", "(I)Z"⟩
abbrev cX9_alike : ByteArray := prog_11_method_4_code
def yX9_alike : MethodName := ⟨RX9, "alike", "(II)Z"⟩
abbrev cX9_reaches : ByteArray := prog_11_method_5_code
def yX9_reaches : MethodName := ⟨RX9, "reaches", "(III)Z"⟩
abbrev cX9_whyNot : ByteArray := prog_11_method_6_code
def yX9_whyNot : MethodName := ⟨RX9, "whyNot", "(II)I"⟩
abbrev cX9_lay : ByteArray := prog_11_method_7_code
def yX9_lay : MethodName := ⟨RX9, "lay", "(III)V"⟩
abbrev cX9_put : ByteArray := prog_11_method_8_code
def yX9_put : MethodName := ⟨RX9, "put", "(IIJ)V"⟩
abbrev cX9_cut : ByteArray := prog_11_method_9_code
def yX9_cut : MethodName := ⟨RX9, "cut", "(JI)J"⟩
abbrev cX9_at : ByteArray := prog_11_method_10_code
def yX9_at : MethodName := ⟨RX9, "at", "(II)J"⟩
abbrev cX9_carry : ByteArray := prog_11_method_11_code
def yX9_carry : MethodName := ⟨RX9, "carry", "(IIIII)V"⟩
abbrev cX9_startsWithUnlike : ByteArray := prog_11_method_12_code
def yX9_startsWithUnlike : MethodName := ⟨RX9, "startsWithUnlike", "(III)Z"⟩
def RX10 : String := "LampYear$Year"
def TX10 : u_T := fun k => match k with
  | 0 => ("LampYear$Year", "land", "LLampYear$Land;", true)
  | 1 => ("LampYear$Year", "notes", "LLampYear$Notes;", true)
  | 2 => ("LampYear$Year", "book", "LLampYear$Book;", true)
  | 3 => ("LampYear$Year", "lessons", "LLampYear$Lessons;", true)
  | 4 => ("LampYear$Year", "lived", "I", false)
  | 5 => ("LampYear$Year", "outcomes", "[B", true)
  | 6 => ("LampYear$Year", "hours", "[B", true)
  | 7 => ("LampYear$Year", "gaps", "[B", true)
  | 8 => ("LampYear$Year", "facts", "[J", true)
  | 9 => ("LampYear$Year", "seated", "[I", true)
  | _ => ("LampYear$Year", "foretold", "[B", true)
def tyX10 : Nat → FieldType := fun k => match k with
  | 0 => .object "LampYear$Land"
  | 1 => .object "LampYear$Notes"
  | 2 => .object "LampYear$Book"
  | 3 => .object "LampYear$Lessons"
  | 4 => .int
  | 5 => .array .byte
  | 6 => .array .byte
  | 7 => .array .byte
  | 8 => .array .long
  | 9 => .array .int
  | _ => .array .byte
theorem nmX10 : ∀ a, a < 11 → ∀ b, b < 11 → a ≠ b → (TX10 a).2.1 ≠ (TX10 b).2.1 := by decide +kernel
theorem tyX10_ok : ∀ k, k < 11 → parseFieldDescriptor (TX10 k).2.2.1 = some (tyX10 k) := by decide +kernel
abbrev cX10_init : ByteArray := prog_12_method_1_code
def yX10_init : MethodName := ⟨RX10, "<init>", "(LLampYear$Land;LLampYear$Notes;LLampYear$Book;LLampYear$Lessons;)V"⟩
abbrev cX10_relive : ByteArray := prog_12_method_2_code
def yX10_relive : MethodName := ⟨RX10, "relive", "(I)V"⟩
abbrev cX10_reach : ByteArray := prog_12_method_3_code
def yX10_reach : MethodName := ⟨RX10, "reach", "(I)V"⟩
abbrev cX10_outcomeOf : ByteArray := prog_12_method_4_code
def yX10_outcomeOf : MethodName := ⟨RX10, "outcomeOf", "(II)I"⟩
abbrev cX10_doneBehind : ByteArray := prog_12_method_5_code
def yX10_doneBehind : MethodName := ⟨RX10, "doneBehind", "(II)I"⟩
abbrev cX10_hoursBehind : ByteArray := prog_12_method_6_code
def yX10_hoursBehind : MethodName := ⟨RX10, "hoursBehind", "(III)I"⟩
abbrev cX10_gapsBehind : ByteArray := prog_12_method_7_code
def yX10_gapsBehind : MethodName := ⟨RX10, "gapsBehind", "(II)I"⟩
abbrev cX10_cell : ByteArray := prog_12_method_8_code
def yX10_cell : MethodName := ⟨RX10, "cell", "(II)I"⟩
abbrev cX10_live : ByteArray := prog_12_method_9_code
def yX10_live : MethodName := ⟨RX10, "live", "(I)V"⟩
abbrev cX10_judge : ByteArray := prog_12_method_10_code
def yX10_judge : MethodName := ⟨RX10, "judge", "(II)I"⟩
abbrev cX10_gatherFacts : ByteArray := prog_12_method_11_code
def yX10_gatherFacts : MethodName := ⟨RX10, "gatherFacts", "(III)V"⟩
abbrev cX10_foretell : ByteArray := prog_12_method_12_code
def yX10_foretell : MethodName := ⟨RX10, "foretell", "(IIII)I"⟩
def RX11 : String := "LampYear"
def TX11 : u_T := fun k => match k with
  | 0 => ("LampYear", "trays", "LLampYear$Trays;", true)
  | 1 => ("LampYear", "land", "LLampYear$Land;", true)
  | 2 => ("LampYear", "notes", "LLampYear$Notes;", true)
  | 3 => ("LampYear", "book", "LLampYear$Book;", true)
  | 4 => ("LampYear", "reader", "LLampYear$Reader;", true)
  | 5 => ("LampYear", "lessons", "LLampYear$Lessons;", true)
  | 6 => ("LampYear", "year", "LLampYear$Year;", true)
  | 7 => ("LampYear", "proofs", "LLampYear$Proofs;", true)
  | 8 => ("LampYear", "sending", "LLampYear$Sending;", true)
  | 9 => ("LampYear", "draws", "LLampYear$Draws;", true)
  | _ => ("LampYear", "status", "I", false)
def tyX11 : Nat → FieldType := fun k => match k with
  | 0 => .object "LampYear$Trays"
  | 1 => .object "LampYear$Land"
  | 2 => .object "LampYear$Notes"
  | 3 => .object "LampYear$Book"
  | 4 => .object "LampYear$Reader"
  | 5 => .object "LampYear$Lessons"
  | 6 => .object "LampYear$Year"
  | 7 => .object "LampYear$Proofs"
  | 8 => .object "LampYear$Sending"
  | 9 => .object "LampYear$Draws"
  | _ => .int
theorem nmX11 : ∀ a, a < 11 → ∀ b, b < 11 → a ≠ b → (TX11 a).2.1 ≠ (TX11 b).2.1 := by decide +kernel
theorem tyX11_ok : ∀ k, k < 11 → parseFieldDescriptor (TX11 k).2.2.1 = some (tyX11 k) := by decide +kernel
abbrev cX11_init : ByteArray := prog_1_method_1_code
def yX11_init : MethodName := ⟨RX11, "<init>", "()V"⟩
abbrev cX11_status : ByteArray := prog_1_method_2_code
def yX11_status : MethodName := ⟨RX11, "status", "()I"⟩
abbrev cX11_tray : ByteArray := prog_1_method_3_code
def yX11_tray : MethodName := ⟨RX11, "tray", "(III)Z"⟩
abbrev cX11_write : ByteArray := prog_1_method_4_code
def yX11_write : MethodName := ⟨RX11, "write", "(IIJ)Z"⟩
abbrev cX11_read : ByteArray := prog_1_method_5_code
def yX11_read : MethodName := ⟨RX11, "read", "(II)J"⟩
abbrev cX11_pour : ByteArray := prog_1_method_6_code
def yX11_pour : MethodName := ⟨RX11, "pour", "(IIIII)Z"⟩
abbrev cX11_place : ByteArray := prog_1_method_7_code
def yX11_place : MethodName := ⟨RX11, "place", "(I)I"⟩
abbrev cX11_way : ByteArray := prog_1_method_8_code
def yX11_way : MethodName := ⟨RX11, "way", "(IIIII)I"⟩
abbrev cX11_arrival : ByteArray := prog_1_method_9_code
def yX11_arrival : MethodName := ⟨RX11, "arrival", "(III)I"⟩
abbrev cX11_learner : ByteArray := prog_1_method_10_code
def yX11_learner : MethodName := ⟨RX11, "learner", "(III)I"⟩
abbrev cX11_teacher : ByteArray := prog_1_method_11_code
def yX11_teacher : MethodName := ⟨RX11, "teacher", "(II)I"⟩
abbrev cX11_lamp : ByteArray := prog_1_method_12_code
def yX11_lamp : MethodName := ⟨RX11, "lamp", "(I)I"⟩
abbrev cX11_note : ByteArray := prog_1_method_13_code
def yX11_note : MethodName := ⟨RX11, "note", "(IIIIII)Z"⟩
abbrev cX11_canBeNoted : ByteArray := prog_1_method_14_code
def yX11_canBeNoted : MethodName := ⟨RX11, "canBeNoted", "(III)Z"⟩
abbrev cX11_asof : ByteArray := prog_1_method_15_code
def yX11_asof : MethodName := ⟨RX11, "asof", "(I)Z"⟩
abbrev cX11_where : ByteArray := prog_1_method_16_code
def yX11_where : MethodName := ⟨RX11, "where", "(III)I"⟩
abbrev cX11_lit : ByteArray := prog_1_method_17_code
def yX11_lit : MethodName := ⟨RX11, "lit", "(II)I"⟩
abbrev cX11_feed : ByteArray := prog_1_method_18_code
def yX11_feed : MethodName := ⟨RX11, "feed", "(IIIII)I"⟩
abbrev cX11_orders : ByteArray := prog_1_method_19_code
def yX11_orders : MethodName := ⟨RX11, "orders", "(III)I"⟩
abbrev cX11_fault : ByteArray := prog_1_method_20_code
def yX11_fault : MethodName := ⟨RX11, "fault", "(I)I"⟩
abbrev cX11_rules : ByteArray := prog_1_method_21_code
def yX11_rules : MethodName := ⟨RX11, "rules", "(III)I"⟩
abbrev cX11_struck : ByteArray := prog_1_method_22_code
def yX11_struck : MethodName := ⟨RX11, "struck", "(III)I"⟩
abbrev cX11_taught : ByteArray := prog_1_method_23_code
def yX11_taught : MethodName := ⟨RX11, "taught", "(III)I"⟩
abbrev cX11_lesson : ByteArray := prog_1_method_24_code
def yX11_lesson : MethodName := ⟨RX11, "lesson", "(IIII)Z"⟩
abbrev cX11_fade : ByteArray := prog_1_method_25_code
def yX11_fade : MethodName := ⟨RX11, "fade", "(I)Z"⟩
abbrev cX11_knows : ByteArray := prog_1_method_26_code
def yX11_knows : MethodName := ⟨RX11, "knows", "(II)I"⟩
abbrev cX11_hours : ByteArray := prog_1_method_27_code
def yX11_hours : MethodName := ⟨RX11, "hours", "(III)I"⟩
abbrev cX11_gap : ByteArray := prog_1_method_28_code
def yX11_gap : MethodName := ⟨RX11, "gap", "(II)I"⟩
abbrev cX11_foretold : ByteArray := prog_1_method_29_code
def yX11_foretold : MethodName := ⟨RX11, "foretold", "(IIII)I"⟩
abbrev cX11_proof : ByteArray := prog_1_method_30_code
def yX11_proof : MethodName := ⟨RX11, "proof", "(IIJJ)I"⟩
abbrev cX11_slips : ByteArray := prog_1_method_31_code
def yX11_slips : MethodName := ⟨RX11, "slips", "(II)I"⟩
abbrev cX11_owed : ByteArray := prog_1_method_32_code
def yX11_owed : MethodName := ⟨RX11, "owed", "(II)I"⟩
abbrev cX11_owedSlips : ByteArray := prog_1_method_33_code
def yX11_owedSlips : MethodName := ⟨RX11, "owedSlips", "(I)I"⟩
abbrev cX11_doneAheadOf : ByteArray := prog_1_method_34_code
def yX11_doneAheadOf : MethodName := ⟨RX11, "doneAheadOf", "(I)I"⟩
abbrev cX11_isPassed : ByteArray := prog_1_method_35_code
def yX11_isPassed : MethodName := ⟨RX11, "isPassed", "(I)Z"⟩
abbrev cX11_canRead : ByteArray := prog_1_method_36_code
def yX11_canRead : MethodName := ⟨RX11, "canRead", "(II)Z"⟩
abbrev cX11_reads : ByteArray := prog_1_method_37_code
def yX11_reads : MethodName := ⟨RX11, "reads", "(II)I"⟩
abbrev cX11_flag : ByteArray := prog_1_method_38_code
def yX11_flag : MethodName := ⟨RX11, "flag", "(II)I"⟩
abbrev cX11_send : ByteArray := prog_1_method_39_code
def yX11_send : MethodName := ⟨RX11, "send", "(IIII)I"⟩
abbrev cX11_sent : ByteArray := prog_1_method_40_code
def yX11_sent : MethodName := ⟨RX11, "sent", "(I)I"⟩
abbrev cX11_count : ByteArray := prog_1_method_41_code
def yX11_count : MethodName := ⟨RX11, "count", "(IIII)I"⟩
abbrev cX11_near : ByteArray := prog_1_method_42_code
def yX11_near : MethodName := ⟨RX11, "near", "(II)I"⟩
abbrev cX11_hasSeat : ByteArray := prog_1_method_43_code
def yX11_hasSeat : MethodName := ⟨RX11, "hasSeat", "(II)Z"⟩
abbrev cX11_answer : ByteArray := prog_1_method_44_code
def yX11_answer : MethodName := ⟨RX11, "answer", "(I)I"⟩
abbrev cX11_answerWhether : ByteArray := prog_1_method_45_code
def yX11_answerWhether : MethodName := ⟨RX11, "answerWhether", "(Z)I"⟩
abbrev cX11_answerOr : ByteArray := prog_1_method_46_code
def yX11_answerOr : MethodName := ⟨RX11, "answerOr", "(II)I"⟩
abbrev cX11_deny : ByteArray := prog_1_method_47_code
def yX11_deny : MethodName := ⟨RX11, "deny", "(I)I"⟩
abbrev cX11_agree : ByteArray := prog_1_method_48_code
def yX11_agree : MethodName := ⟨RX11, "agree", "()Z"⟩
abbrev cX11_refuse : ByteArray := prog_1_method_49_code
def yX11_refuse : MethodName := ⟨RX11, "refuse", "(I)Z"⟩
abbrev cX11_within : ByteArray := prog_1_method_50_code
def yX11_within : MethodName := ⟨RX11, "within", "(III)Z"⟩
abbrev cX11_isWeek : ByteArray := prog_1_method_51_code
def yX11_isWeek : MethodName := ⟨RX11, "isWeek", "(I)Z"⟩
abbrev cX11_isSpan : ByteArray := prog_1_method_52_code
def yX11_isSpan : MethodName := ⟨RX11, "isSpan", "(II)Z"⟩
abbrev cX11_isShire : ByteArray := prog_1_method_53_code
def yX11_isShire : MethodName := ⟨RX11, "isShire", "(I)Z"⟩
abbrev cX11_isLesson : ByteArray := prog_1_method_54_code
def yX11_isLesson : MethodName := ⟨RX11, "isLesson", "(I)Z"⟩
def RX12 : String := "LampYearModel"
def TX12 : u_T := fun k => match k with
  | 0 => ("LampYearModel", "status", "I", false)
  | 1 => ("LampYearModel", "sort", "[I", true)
  | 2 => ("LampYearModel", "many", "[I", true)
  | 3 => ("LampYearModel", "trays", "[J", true)
  | 4 => ("LampYearModel", "places", "I", false)
  | 5 => ("LampYearModel", "wayMany", "I", false)
  | 6 => ("LampYearModel", "learners", "I", false)
  | 7 => ("LampYearModel", "teachers", "I", false)
  | 8 => ("LampYearModel", "lamps", "I", false)
  | 9 => ("LampYearModel", "notes", "I", false)
  | 10 => ("LampYearModel", "latest", "I", false)
  | 11 => ("LampYearModel", "asof", "I", false)
  | 12 => ("LampYearModel", "shireOf", "[I", true)
  | 13 => ("LampYearModel", "wayA", "[I", true)
  | 14 => ("LampYearModel", "wayB", "[I", true)
  | 15 => ("LampYearModel", "wayLong", "[I", true)
  | 16 => ("LampYearModel", "shutFrom", "[I", true)
  | 17 => ("LampYearModel", "shutTo", "[I", true)
  | 18 => ("LampYearModel", "come", "[I", true)
  | 19 => ("LampYearModel", "home", "[I", true)
  | 20 => ("LampYearModel", "age", "[I", true)
  | 21 => ("LampYearModel", "tongue", "[I", true)
  | 22 => ("LampYearModel", "tongues", "[I", true)
  | 23 => ("LampYearModel", "waitsAt", "[I", true)
  | 24 => ("LampYearModel", "lampAt", "[I", true)
  | 25 => ("LampYearModel", "nSort", "[I", true)
  | 26 => ("LampYearModel", "nWho", "[I", true)
  | 27 => ("LampYearModel", "nLamp", "[I", true)
  | 28 => ("LampYearModel", "nFrom", "[I", true)
  | 29 => ("LampYearModel", "nTo", "[I", true)
  | 30 => ("LampYearModel", "nKnown", "[I", true)
  | 31 => ("LampYearModel", "tape", "[B", true)
  | 32 => ("LampYearModel", "text", "[B", true)
  | 33 => ("LampYearModel", "taped", "I", false)
  | 34 => ("LampYearModel", "size", "I", false)
  | 35 => ("LampYearModel", "token", "I", false)
  | 36 => ("LampYearModel", "from", "I", false)
  | 37 => ("LampYearModel", "end", "I", false)
  | 38 => ("LampYearModel", "value", "I", false)
  | 39 => ("LampYearModel", "faultKind", "I", false)
  | 40 => ("LampYearModel", "faultPlace", "I", false)
  | 41 => ("LampYearModel", "faults", "I", false)
  | 42 => ("LampYearModel", "texts", "I", false)
  | 43 => ("LampYearModel", "signs", "I", false)
  | 44 => ("LampYearModel", "ones", "I", false)
  | 45 => ("LampYearModel", "tWeek", "[I", true)
  | 46 => ("LampYearModel", "tShires", "[I", true)
  | 47 => ("LampYearModel", "tRules", "[I", true)
  | 48 => ("LampYearModel", "does", "[I", true)
  | 49 => ("LampYearModel", "number", "[I", true)
  | 50 => ("LampYearModel", "sumFrom", "[I", true)
  | 51 => ("LampYearModel", "sumTo", "[I", true)
  | 52 => ("LampYearModel", "testFrom", "[I", true)
  | 53 => ("LampYearModel", "testTo", "[I", true)
  | 54 => ("LampYearModel", "unlessTo", "[I", true)
  | 55 => ("LampYearModel", "label", "[J", true)
  | 56 => ("LampYearModel", "strikes", "[J", true)
  | 57 => ("LampYearModel", "leftFrom", "[I", true)
  | 58 => ("LampYearModel", "leftTo", "[I", true)
  | 59 => ("LampYearModel", "rightTo", "[I", true)
  | 60 => ("LampYearModel", "compares", "[I", true)
  | 61 => ("LampYearModel", "isNot", "[Z", true)
  | 62 => ("LampYearModel", "begins", "[Z", true)
  | 63 => ("LampYearModel", "sign", "[I", true)
  | 64 => ("LampYearModel", "signOf", "[I", true)
  | 65 => ("LampYearModel", "waitsSum", "[I", true)
  | 66 => ("LampYearModel", "waitsItem", "[I", true)
  | 67 => ("LampYearModel", "standing", "[I", true)
  | 68 => ("LampYearModel", "order", "[I", true)
  | 69 => ("LampYearModel", "isStruck", "[Z", true)
  | 70 => ("LampYearModel", "standMany", "I", false)
  | 71 => ("LampYearModel", "needs", "[I", true)
  | 72 => ("LampYearModel", "leans", "[I", true)
  | 73 => ("LampYearModel", "letters", "[I", true)
  | 74 => ("LampYearModel", "got", "[I", true)
  | 75 => ("LampYearModel", "gaps", "[I", true)
  | 76 => ("LampYearModel", "atLamp", "[I", true)
  | 77 => ("LampYearModel", "hoursNow", "[I", true)
  | 78 => ("LampYearModel", "crowd", "[I", true)
  | 79 => ("LampYearModel", "taken", "[I", true)
  | 80 => ("LampYearModel", "lightBy", "[I", true)
  | 81 => ("LampYearModel", "mayNow", "[Z", true)
  | 82 => ("LampYearModel", "isTaught", "[Z", true)
  | 83 => ("LampYearModel", "fade", "I", false)
  | 84 => ("LampYearModel", "variables", "[J", true)
  | 85 => ("LampYearModel", "stack", "[J", true)
  | 86 => ("LampYearModel", "proofs", "I", false)
  | 87 => ("LampYearModel", "rLearner", "[I", true)
  | 88 => ("LampYearModel", "rWeek", "[I", true)
  | 89 => ("LampYearModel", "toldLetter", "[I", true)
  | 90 => ("LampYearModel", "writtenLetter", "[I", true)
  | 91 => ("LampYearModel", "least", "[I", true)
  | 92 => ("LampYearModel", "slipOf", "[I", true)
  | 93 => ("LampYearModel", "owedTo", "[I", true)
  | 94 => ("LampYearModel", "rTold", "[J", true)
  | 95 => ("LampYearModel", "rWritten", "[J", true)
  | 96 => ("LampYearModel", "toldMany", "I", false)
  | 97 => ("LampYearModel", "writtenMany", "I", false)
  | 98 => ("LampYearModel", "slipMany", "I", false)
  | 99 => ("LampYearModel", "lampRow", "[I", true)
  | 100 => ("LampYearModel", "teacherRow", "[I", true)
  | 101 => ("LampYearModel", "tongueRow", "[I", true)
  | 102 => ("LampYearModel", "comes", "[I", true)
  | 103 => ("LampYearModel", "row", "[I", true)
  | 104 => ("LampYearModel", "sentTo", "[I", true)
  | 105 => ("LampYearModel", "sentMany", "I", false)
  | 106 => ("LampYearModel", "sending", "[I", true)
  | _ => ("LampYearModel", "choose", "[J", true)
def tyX12 : Nat → FieldType := fun k => match k with
  | 0 => .int
  | 1 => .array .int
  | 2 => .array .int
  | 3 => .array .long
  | 4 => .int
  | 5 => .int
  | 6 => .int
  | 7 => .int
  | 8 => .int
  | 9 => .int
  | 10 => .int
  | 11 => .int
  | 12 => .array .int
  | 13 => .array .int
  | 14 => .array .int
  | 15 => .array .int
  | 16 => .array .int
  | 17 => .array .int
  | 18 => .array .int
  | 19 => .array .int
  | 20 => .array .int
  | 21 => .array .int
  | 22 => .array .int
  | 23 => .array .int
  | 24 => .array .int
  | 25 => .array .int
  | 26 => .array .int
  | 27 => .array .int
  | 28 => .array .int
  | 29 => .array .int
  | 30 => .array .int
  | 31 => .array .byte
  | 32 => .array .byte
  | 33 => .int
  | 34 => .int
  | 35 => .int
  | 36 => .int
  | 37 => .int
  | 38 => .int
  | 39 => .int
  | 40 => .int
  | 41 => .int
  | 42 => .int
  | 43 => .int
  | 44 => .int
  | 45 => .array .int
  | 46 => .array .int
  | 47 => .array .int
  | 48 => .array .int
  | 49 => .array .int
  | 50 => .array .int
  | 51 => .array .int
  | 52 => .array .int
  | 53 => .array .int
  | 54 => .array .int
  | 55 => .array .long
  | 56 => .array .long
  | 57 => .array .int
  | 58 => .array .int
  | 59 => .array .int
  | 60 => .array .int
  | 61 => .array .boolean
  | 62 => .array .boolean
  | 63 => .array .int
  | 64 => .array .int
  | 65 => .array .int
  | 66 => .array .int
  | 67 => .array .int
  | 68 => .array .int
  | 69 => .array .boolean
  | 70 => .int
  | 71 => .array .int
  | 72 => .array .int
  | 73 => .array .int
  | 74 => .array .int
  | 75 => .array .int
  | 76 => .array .int
  | 77 => .array .int
  | 78 => .array .int
  | 79 => .array .int
  | 80 => .array .int
  | 81 => .array .boolean
  | 82 => .array .boolean
  | 83 => .int
  | 84 => .array .long
  | 85 => .array .long
  | 86 => .int
  | 87 => .array .int
  | 88 => .array .int
  | 89 => .array .int
  | 90 => .array .int
  | 91 => .array .int
  | 92 => .array .int
  | 93 => .array .int
  | 94 => .array .long
  | 95 => .array .long
  | 96 => .int
  | 97 => .int
  | 98 => .int
  | 99 => .array .int
  | 100 => .array .int
  | 101 => .array .int
  | 102 => .array .int
  | 103 => .array .int
  | 104 => .array .int
  | 105 => .int
  | 106 => .array .int
  | _ => .array .long
theorem nmX12 : ∀ a, a < 108 → ∀ b, b < 108 → a ≠ b → (TX12 a).2.1 ≠ (TX12 b).2.1 := by decide +kernel
theorem tyX12_ok : ∀ k, k < 108 → parseFieldDescriptor (TX12 k).2.2.1 = some (tyX12 k) := by decide +kernel
abbrev cX12_init : ByteArray := prog_14_method_1_code
def yX12_init : MethodName := ⟨RX12, "<init>", "()V"⟩
abbrev cX12_status : ByteArray := prog_14_method_2_code
def yX12_status : MethodName := ⟨RX12, "status", "()I"⟩
abbrev cX12_is : ByteArray := prog_14_method_3_code
def yX12_is : MethodName := ⟨RX12, "is", "(I)Z"⟩
abbrev cX12_refuse : ByteArray := prog_14_method_4_code
def yX12_refuse : MethodName := ⟨RX12, "refuse", "(I)I"⟩
abbrev cX12_gives : ByteArray := prog_14_method_5_code
def yX12_gives : MethodName := ⟨RX12, "gives", "(I)I"⟩
abbrev cX12_isTray : ByteArray := prog_14_method_6_code
def yX12_isTray : MethodName := ⟨RX12, "isTray", "(I)Z"⟩
abbrev cX12_cut : ByteArray := prog_14_method_7_code
def yX12_cut : MethodName := ⟨RX12, "cut", "(JI)J"⟩
abbrev cX12_tray : ByteArray := prog_14_method_8_code
def yX12_tray : MethodName := ⟨RX12, "tray", "(III)Z"⟩
abbrev cX12_wrongPlace : ByteArray := prog_14_method_9_code
def yX12_wrongPlace : MethodName := ⟨RX12, "wrongPlace", "(II)I"⟩
abbrev cX12_write : ByteArray := prog_14_method_10_code
def yX12_write : MethodName := ⟨RX12, "write", "(IIJ)Z"⟩
abbrev cX12_read : ByteArray := prog_14_method_11_code
def yX12_read : MethodName := ⟨RX12, "read", "(II)J"⟩
abbrev cX12_pour : ByteArray := prog_14_method_12_code
def yX12_pour : MethodName := ⟨RX12, "pour", "(IIIII)Z"⟩
abbrev cX12_isWeek : ByteArray := prog_14_method_13_code
def yX12_isWeek : MethodName := ⟨RX12, "isWeek", "(I)Z"⟩
abbrev cX12_isPlace : ByteArray := prog_14_method_14_code
def yX12_isPlace : MethodName := ⟨RX12, "isPlace", "(I)Z"⟩
abbrev cX12_isLearner : ByteArray := prog_14_method_15_code
def yX12_isLearner : MethodName := ⟨RX12, "isLearner", "(I)Z"⟩
abbrev cX12_isTeacher : ByteArray := prog_14_method_16_code
def yX12_isTeacher : MethodName := ⟨RX12, "isTeacher", "(I)Z"⟩
abbrev cX12_isLamp : ByteArray := prog_14_method_17_code
def yX12_isLamp : MethodName := ⟨RX12, "isLamp", "(I)Z"⟩
abbrev cX12_isShire : ByteArray := prog_14_method_18_code
def yX12_isShire : MethodName := ⟨RX12, "isShire", "(I)Z"⟩
abbrev cX12_place : ByteArray := prog_14_method_19_code
def yX12_place : MethodName := ⟨RX12, "place", "(I)I"⟩
abbrev cX12_way : ByteArray := prog_14_method_20_code
def yX12_way : MethodName := ⟨RX12, "way", "(IIIII)I"⟩
abbrev cX12_isShut : ByteArray := prog_14_method_21_code
def yX12_isShut : MethodName := ⟨RX12, "isShut", "(II)Z"⟩
abbrev cX12_travel : ByteArray := prog_14_method_22_code
def yX12_travel : MethodName := ⟨RX12, "travel", "(II)V"⟩
abbrev cX12_arrival : ByteArray := prog_14_method_23_code
def yX12_arrival : MethodName := ⟨RX12, "arrival", "(III)I"⟩
abbrev cX12_learner : ByteArray := prog_14_method_24_code
def yX12_learner : MethodName := ⟨RX12, "learner", "(III)I"⟩
abbrev cX12_teacher : ByteArray := prog_14_method_25_code
def yX12_teacher : MethodName := ⟨RX12, "teacher", "(II)I"⟩
abbrev cX12_lamp : ByteArray := prog_14_method_26_code
def yX12_lamp : MethodName := ⟨RX12, "lamp", "(I)I"⟩
abbrev cX12_note : ByteArray := prog_14_method_27_code
def yX12_note : MethodName := ⟨RX12, "note", "(IIIIII)Z"⟩
abbrev cX12_asof : ByteArray := prog_14_method_28_code
def yX12_asof : MethodName := ⟨RX12, "asof", "(I)Z"⟩
abbrev cX12_lampOf : ByteArray := prog_14_method_29_code
def yX12_lampOf : MethodName := ⟨RX12, "lampOf", "(III)I"⟩
abbrev cX12_where : ByteArray := prog_14_method_30_code
def yX12_where : MethodName := ⟨RX12, "where", "(III)I"⟩
abbrev cX12_teacherAt : ByteArray := prog_14_method_31_code
def yX12_teacherAt : MethodName := ⟨RX12, "teacherAt", "(II)I"⟩
abbrev cX12_lit : ByteArray := prog_14_method_32_code
def yX12_lit : MethodName := ⟨RX12, "lit", "(II)I"⟩
abbrev cX12_feed : ByteArray := prog_14_method_33_code
def yX12_feed : MethodName := ⟨RX12, "feed", "(IIIII)I"⟩
abbrev cX12_four : ByteArray := prog_14_method_34_code
def yX12_four : MethodName := ⟨RX12, "four", "(I)V"⟩
abbrev cX12_at : ByteArray := prog_14_method_35_code
def yX12_at : MethodName := ⟨RX12, "at", "(I)I"⟩
abbrev cX12_isSmall : ByteArray := prog_14_method_36_code
def yX12_isSmall : MethodName := ⟨RX12, "isSmall", "(I)Z"⟩
abbrev cX12_isDigit : ByteArray := prog_14_method_37_code
def yX12_isDigit : MethodName := ⟨RX12, "isDigit", "(I)Z"⟩
abbrev cX12_next : ByteArray := prog_14_method_38_code
def yX12_next : MethodName := ⟨RX12, "next", "()V"⟩
abbrev cX12_isSign : ByteArray := prog_14_method_39_code
def yX12_isSign : MethodName := ⟨RX12, "isSign", "(I)Z"⟩
abbrev cX12_inWords : ByteArray := prog_14_method_40_code
def yX12_inWords : MethodName := ⟨RX12, "inWords", "(Ljava/lang/String;)I"⟩
abbrev cX12_isKey : ByteArray := prog_14_method_41_code
def yX12_isKey : MethodName := ⟨RX12, "isKey", "(I)Z"⟩
abbrev cX12_fails : ByteArray := prog_14_method_42_code
def yX12_fails : MethodName := ⟨RX12, "fails", "(I)Z"⟩
abbrev cX12_want : ByteArray := prog_14_method_43_code
def yX12_want : MethodName := ⟨RX12, "want", "(I)Z"⟩
abbrev cX12_puts : ByteArray := prog_14_method_44_code
def yX12_puts : MethodName := ⟨RX12, "puts", "(II)V"⟩
abbrev cX12_sum : ByteArray := prog_14_method_45_code
def yX12_sum : MethodName := ⟨RX12, "sum", "()Z"⟩
abbrev cX12_one : ByteArray := prog_14_method_46_code
def yX12_one : MethodName := ⟨RX12, "one", "(Z)Z"⟩
abbrev cX12_test : ByteArray := prog_14_method_47_code
def yX12_test : MethodName := ⟨RX12, "test", "()Z"⟩
abbrev cX12_labelHere : ByteArray := prog_14_method_48_code
def yX12_labelHere : MethodName := ⟨RX12, "labelHere", "()J"⟩
abbrev cX12_numberIn : ByteArray := prog_14_method_49_code
def yX12_numberIn : MethodName := ⟨RX12, "numberIn", "(III)Z"⟩
abbrev cX12_rule : ByteArray := prog_14_method_50_code
def yX12_rule : MethodName := ⟨RX12, "rule", "()Z"⟩
abbrev cX12_says : ByteArray := prog_14_method_51_code
def yX12_says : MethodName := ⟨RX12, "says", "(I)Z"⟩
abbrev cX12_orders : ByteArray := prog_14_method_52_code
def yX12_orders : MethodName := ⟨RX12, "orders", "(III)I"⟩
abbrev cX12_fault : ByteArray := prog_14_method_53_code
def yX12_fault : MethodName := ⟨RX12, "fault", "(I)I"⟩
abbrev cX12_stand : ByteArray := prog_14_method_54_code
def yX12_stand : MethodName := ⟨RX12, "stand", "(II)V"⟩
abbrev cX12_lastOf : ByteArray := prog_14_method_55_code
def yX12_lastOf : MethodName := ⟨RX12, "lastOf", "(II)I"⟩
abbrev cX12_rules : ByteArray := prog_14_method_56_code
def yX12_rules : MethodName := ⟨RX12, "rules", "(III)I"⟩
abbrev cX12_struck : ByteArray := prog_14_method_57_code
def yX12_struck : MethodName := ⟨RX12, "struck", "(III)I"⟩
abbrev cX12_lesson : ByteArray := prog_14_method_58_code
def yX12_lesson : MethodName := ⟨RX12, "lesson", "(IIII)Z"⟩
abbrev cX12_fade : ByteArray := prog_14_method_59_code
def yX12_fade : MethodName := ⟨RX12, "fade", "(I)Z"⟩
abbrev cX12_isDone : ByteArray := prog_14_method_60_code
def yX12_isDone : MethodName := ⟨RX12, "isDone", "(II)Z"⟩
abbrev cX12_doneSet : ByteArray := prog_14_method_61_code
def yX12_doneSet : MethodName := ⟨RX12, "doneSet", "(I)I"⟩
abbrev cX12_bits : ByteArray := prog_14_method_62_code
def yX12_bits : MethodName := ⟨RX12, "bits", "(I)I"⟩
abbrev cX12_learns : ByteArray := prog_14_method_63_code
def yX12_learns : MethodName := ⟨RX12, "learns", "(II)V"⟩
abbrev cX12_misses : ByteArray := prog_14_method_64_code
def yX12_misses : MethodName := ⟨RX12, "misses", "(I)V"⟩
abbrev cX12_work : ByteArray := prog_14_method_65_code
def yX12_work : MethodName := ⟨RX12, "work", "(II)J"⟩
abbrev cX12_holds : ByteArray := prog_14_method_66_code
def yX12_holds : MethodName := ⟨RX12, "holds", "(II)Z"⟩
abbrev cX12_isUnless : ByteArray := prog_14_method_67_code
def yX12_isUnless : MethodName := ⟨RX12, "isUnless", "(I)Z"⟩
abbrev cX12_allShut : ByteArray := prog_14_method_68_code
def yX12_allShut : MethodName := ⟨RX12, "allShut", "(II)Z"⟩
abbrev cX12_asks : ByteArray := prog_14_method_69_code
def yX12_asks : MethodName := ⟨RX12, "asks", "(II)V"⟩
abbrev cX12_teach : ByteArray := prog_14_method_70_code
def yX12_teach : MethodName := ⟨RX12, "teach", "(I)V"⟩
abbrev cX12_goAlong : ByteArray := prog_14_method_71_code
def yX12_goAlong : MethodName := ⟨RX12, "goAlong", "(I)V"⟩
abbrev cX12_taught : ByteArray := prog_14_method_72_code
def yX12_taught : MethodName := ⟨RX12, "taught", "(III)I"⟩
abbrev cX12_knows : ByteArray := prog_14_method_73_code
def yX12_knows : MethodName := ⟨RX12, "knows", "(II)I"⟩
abbrev cX12_hours : ByteArray := prog_14_method_74_code
def yX12_hours : MethodName := ⟨RX12, "hours", "(III)I"⟩
abbrev cX12_gap : ByteArray := prog_14_method_75_code
def yX12_gap : MethodName := ⟨RX12, "gap", "(II)I"⟩
abbrev cX12_foretold : ByteArray := prog_14_method_76_code
def yX12_foretold : MethodName := ⟨RX12, "foretold", "(IIII)I"⟩
abbrev cX12_isWord : ByteArray := prog_14_method_77_code
def yX12_isWord : MethodName := ⟨RX12, "isWord", "(J)Z"⟩
abbrev cX12_proof : ByteArray := prog_14_method_78_code
def yX12_proof : MethodName := ⟨RX12, "proof", "(IIJJ)I"⟩
abbrev cX12_spell : ByteArray := prog_14_method_79_code
def yX12_spell : MethodName := ⟨RX12, "spell", "(J[I)I"⟩
abbrev cX12_spellOut : ByteArray := prog_14_method_80_code
def yX12_spellOut : MethodName := ⟨RX12, "spellOut", "(I)V"⟩
abbrev cX12_slips0 : ByteArray := prog_14_method_81_code
def yX12_slips0 : MethodName := ⟨RX12, "slips0", "(I)V"⟩
abbrev cX12_pairs : ByteArray := prog_14_method_82_code
def yX12_pairs : MethodName := ⟨RX12, "pairs", "(II)I"⟩
abbrev cX12_owe : ByteArray := prog_14_method_83_code
def yX12_owe : MethodName := ⟨RX12, "owe", "(I)V"⟩
abbrev cX12_isPassed : ByteArray := prog_14_method_84_code
def yX12_isPassed : MethodName := ⟨RX12, "isPassed", "(I)Z"⟩
abbrev cX12_isProof : ByteArray := prog_14_method_85_code
def yX12_isProof : MethodName := ⟨RX12, "isProof", "(I)Z"⟩
abbrev cX12_slips : ByteArray := prog_14_method_86_code
def yX12_slips : MethodName := ⟨RX12, "slips", "(II)I"⟩
abbrev cX12_owed : ByteArray := prog_14_method_87_code
def yX12_owed : MethodName := ⟨RX12, "owed", "(II)I"⟩
abbrev cX12_doesRead : ByteArray := prog_14_method_88_code
def yX12_doesRead : MethodName := ⟨RX12, "doesRead", "(II)Z"⟩
abbrev cX12_reads : ByteArray := prog_14_method_89_code
def yX12_reads : MethodName := ⟨RX12, "reads", "(II)I"⟩
abbrev cX12_flag : ByteArray := prog_14_method_90_code
def yX12_flag : MethodName := ⟨RX12, "flag", "(II)I"⟩
abbrev cX12_tongueOf : ByteArray := prog_14_method_91_code
def yX12_tongueOf : MethodName := ⟨RX12, "tongueOf", "(II)I"⟩
abbrev cX12_isRow : ByteArray := prog_14_method_92_code
def yX12_isRow : MethodName := ⟨RX12, "isRow", "(III[I)Z"⟩
abbrev cX12_send : ByteArray := prog_14_method_93_code
def yX12_send : MethodName := ⟨RX12, "send", "(IIII)I"⟩
abbrev cX12_keyOf : ByteArray := prog_14_method_94_code
def yX12_keyOf : MethodName := ⟨RX12, "keyOf", "(I)I"⟩
abbrev cX12_isLesser : ByteArray := prog_14_method_95_code
def yX12_isLesser : MethodName := ⟨RX12, "isLesser", "(I)Z"⟩
abbrev cX12_sent : ByteArray := prog_14_method_96_code
def yX12_sent : MethodName := ⟨RX12, "sent", "(I)I"⟩
abbrev cX12_fillChoose : ByteArray := prog_14_method_97_code
def yX12_fillChoose : MethodName := ⟨RX12, "fillChoose", "()V"⟩
abbrev cX12_count : ByteArray := prog_14_method_98_code
def yX12_count : MethodName := ⟨RX12, "count", "(IIII)I"⟩
abbrev cX12_near : ByteArray := prog_14_method_99_code
def yX12_near : MethodName := ⟨RX12, "near", "(II)I"⟩
def RJ11 : String := "java/lang/Character"
abbrev cJ11_isValidCodePoint_9a6ad : ByteArray := prog_15_method_11_code
def yJ11_isValidCodePoint_9a6ad : MethodName := ⟨RJ11, "isValidCodePoint", "(I)Z"⟩
abbrev cJ11_highSurrogate_5068e : ByteArray := prog_15_method_28_code
def yJ11_highSurrogate_5068e : MethodName := ⟨RJ11, "highSurrogate", "(I)C"⟩
abbrev cJ11_lowSurrogate_5068e : ByteArray := prog_15_method_29_code
def yJ11_lowSurrogate_5068e : MethodName := ⟨RJ11, "lowSurrogate", "(I)C"⟩
def RJ6 : String := "java/lang/Integer"
abbrev cJ6_bitCount_0f7a4 : ByteArray := prog_16_method_49_code
def yJ6_bitCount_0f7a4 : MethodName := ⟨RJ6, "bitCount", "(I)I"⟩
def RJ9 : String := "java/lang/Math"
abbrev cJ9_max_7cf53 : ByteArray := prog_17_method_65_code
def yJ9_max_7cf53 : MethodName := ⟨RJ9, "max", "(II)I"⟩
abbrev cJ9_max_f86c9 : ByteArray := prog_17_method_66_code
def yJ9_max_f86c9 : MethodName := ⟨RJ9, "max", "(JJ)J"⟩
abbrev cJ9_min_7cf53 : ByteArray := prog_17_method_69_code
def yJ9_min_7cf53 : MethodName := ⟨RJ9, "min", "(II)I"⟩
abbrev cJ9_min_f86c9 : ByteArray := prog_17_method_70_code
def yJ9_min_f86c9 : MethodName := ⟨RJ9, "min", "(JJ)J"⟩
def RJ0 : String := "java/lang/String"
abbrev cJ0_length_8abf5 : ByteArray := prog_18_method_54_code
def yJ0_length_8abf5 : MethodName := ⟨RJ0, "length", "()I"⟩
abbrev cJ0_charAt_5068e : ByteArray := prog_18_method_56_code
def yJ0_charAt_5068e : MethodName := ⟨RJ0, "charAt", "(I)C"⟩
abbrev cJ0_indexOf_0f7a4 : ByteArray := prog_18_method_79_code
def yJ0_indexOf_0f7a4 : MethodName := ⟨RJ0, "indexOf", "(I)I"⟩
abbrev cJ0_indexOf_7cf53 : ByteArray := prog_18_method_80_code
def yJ0_indexOf_7cf53 : MethodName := ⟨RJ0, "indexOf", "(II)I"⟩
abbrev cJ0_coder_7d493 : ByteArray := prog_18_method_152_code
def yJ0_coder_7d493 : MethodName := ⟨RJ0, "coder", "()B"⟩
abbrev cJ0_isLatin1_aae02 : ByteArray := prog_18_method_154_code
def yJ0_isLatin1_aae02 : MethodName := ⟨RJ0, "isLatin1", "()Z"⟩
abbrev cJ0_checkIndex_df160 : ByteArray := prog_18_method_155_code
def yJ0_checkIndex_df160 : MethodName := ⟨RJ0, "checkIndex", "(II)V"⟩
abbrev cJ0_checkBoundsBeginEnd_23922 : ByteArray := prog_18_method_158_code
def yJ0_checkBoundsBeginEnd_23922 : MethodName := ⟨RJ0, "checkBoundsBeginEnd", "(III)V"⟩
def RJ1 : String := "java/lang/StringLatin1"
abbrev cJ1_charAt_3b067 : ByteArray := prog_19_method_2_code
def yJ1_charAt_3b067 : MethodName := ⟨RJ1, "charAt", "([BI)C"⟩
abbrev cJ1_canEncode_9a6ad : ByteArray := prog_19_method_4_code
def yJ1_canEncode_9a6ad : MethodName := ⟨RJ1, "canEncode", "(I)Z"⟩
abbrev cJ1_indexOf_4cfef : ByteArray := prog_19_method_22_code
def yJ1_indexOf_4cfef : MethodName := ⟨RJ1, "indexOf", "([BIII)I"⟩
abbrev cJ1_indexOfChar_4cfef : ByteArray := prog_19_method_23_code
def yJ1_indexOfChar_4cfef : MethodName := ⟨RJ1, "indexOfChar", "([BIII)I"⟩
def RJ2 : String := "java/lang/StringUTF16"
abbrev cJ2_getChar_3b067 : ByteArray := prog_20_method_5_code
def yJ2_getChar_3b067 : MethodName := ⟨RJ2, "getChar", "([BI)C"⟩
abbrev cJ2_length_9d52b : ByteArray := prog_20_method_6_code
def yJ2_length_9d52b : MethodName := ⟨RJ2, "length", "([B)I"⟩
abbrev cJ2_indexOf_4cfef : ByteArray := prog_20_method_40_code
def yJ2_indexOf_4cfef : MethodName := ⟨RJ2, "indexOf", "([BIII)I"⟩
abbrev cJ2_indexOfChar_4cfef : ByteArray := prog_20_method_47_code
def yJ2_indexOfChar_4cfef : MethodName := ⟨RJ2, "indexOfChar", "([BIII)I"⟩
abbrev cJ2_indexOfCharUnsafe_4cfef : ByteArray := prog_20_method_48_code
def yJ2_indexOfCharUnsafe_4cfef : MethodName := ⟨RJ2, "indexOfCharUnsafe", "([BIII)I"⟩
abbrev cJ2_indexOfSupplementary_4cfef : ByteArray := prog_20_method_49_code
def yJ2_indexOfSupplementary_4cfef : MethodName := ⟨RJ2, "indexOfSupplementary", "([BIII)I"⟩
abbrev cJ2_charAt_3b067 : ByteArray := prog_20_method_83_code
def yJ2_charAt_3b067 : MethodName := ⟨RJ2, "charAt", "([BI)C"⟩
abbrev cJ2_checkIndex_2214a : ByteArray := prog_20_method_91_code
def yJ2_checkIndex_2214a : MethodName := ⟨RJ2, "checkIndex", "(I[B)V"⟩
abbrev cJ2_checkBoundsBeginEnd_d044e : ByteArray := prog_20_method_93_code
def yJ2_checkBoundsBeginEnd_d044e : MethodName := ⟨RJ2, "checkBoundsBeginEnd", "(II[B)V"⟩
def RJ10 : String := "java/lang/System"
def RJ7 : String := "java/util/Arrays"
abbrev cJ7_rangeCheck_23922 : ByteArray := prog_22_method_30_code
def yJ7_rangeCheck_23922 : MethodName := ⟨RJ7, "rangeCheck", "(III)V"⟩
abbrev cJ7_fill_bad5a : ByteArray := prog_22_method_102_code
def yJ7_fill_bad5a : MethodName := ⟨RJ7, "fill", "([JIIJ)V"⟩
abbrev cJ7_fill_53178 : ByteArray := prog_22_method_103_code
def yJ7_fill_53178 : MethodName := ⟨RJ7, "fill", "([II)V"⟩
abbrev cJ7_fill_eb02e : ByteArray := prog_22_method_110_code
def yJ7_fill_eb02e : MethodName := ⟨RJ7, "fill", "([BIIB)V"⟩
def RJ3 : String := "jdk/internal/util/Preconditions"
abbrev cJ3_checkIndex_8e157 : ByteArray := prog_23_method_11_code
def yJ3_checkIndex_8e157 : MethodName := ⟨RJ3, "checkIndex", "(IILjava/util/function/BiFunction;)I"⟩
abbrev cJ3_checkFromToIndex_8c36e : ByteArray := prog_23_method_12_code
def yJ3_checkFromToIndex_8c36e : MethodName := ⟨RJ3, "checkFromToIndex", "(IIILjava/util/function/BiFunction;)I"⟩
def RL : String := "LampYearLaw"
abbrev cL_law : ByteArray := code
def yL_law : MethodName := ⟨RL, "law", "([I)Z"⟩
abbrev cls : List vw_C := [(RX0, TX0, 18), (RX1, TX1, 1), (RX2, TX2, 18), (RX3, TX3, 4), (RX4, TX4, 13), (RX5, TX5, 8), (RX6, TX6, 17), (RX7, TX7, 8), (RX8, TX8, 11), (RX9, TX9, 3), (RX10, TX10, 11), (RX11, TX11, 11), (RX12, TX12, 108)]
def TG : List Cond := lw_tbl.filter goodWord
def isNst : Cond → Bool
  | .fieldLinkNest .. => true
  | .methodLinkNest .. => true
  | _ => false
def TN : List Cond := tables_1.filter isNst
theorem tg_t {w : Cond} (h : w ∈ tables_1) (hg : goodWord w = true) : w ∈ TG := List.mem_filter.mpr ⟨List.mem_append_right _ h, hg⟩
theorem tg_s (i : Nat) {w : Cond} (h : (k2_sels lw_privs)[i]? = some w) (hg : goodWord w = true) : w ∈ TG := List.mem_filter.mpr ⟨List.mem_append_left _ (List.mem_of_getElem? h), hg⟩
theorem ti_1 (i : Nat) {w : Cond} (h : tables_1_1[i]? = some w) : w ∈ tables_1 := List.mem_append_left _ (List.mem_of_getElem? h)
theorem tg_1 (i : Nat) {w : Cond} (h : tables_1_1[i]? = some w) (hg : goodWord w = true) : w ∈ TG := tg_t (ti_1 i h) hg
theorem tn_1 (i : Nat) {w : Cond} (h : tables_1_1[i]? = some w) (hg : isNst w = true) : w ∈ TN := List.mem_filter.mpr ⟨ti_1 i h, hg⟩
theorem ti_2 (i : Nat) {w : Cond} (h : tables_1_2[i]? = some w) : w ∈ tables_1 := List.mem_append_right _ (List.mem_append_left _ (List.mem_of_getElem? h))
theorem tg_2 (i : Nat) {w : Cond} (h : tables_1_2[i]? = some w) (hg : goodWord w = true) : w ∈ TG := tg_t (ti_2 i h) hg
theorem tn_2 (i : Nat) {w : Cond} (h : tables_1_2[i]? = some w) (hg : isNst w = true) : w ∈ TN := List.mem_filter.mpr ⟨ti_2 i h, hg⟩
theorem ti_3 (i : Nat) {w : Cond} (h : tables_1_3[i]? = some w) : w ∈ tables_1 := List.mem_append_right _ (List.mem_append_right _ (List.mem_append_left _ (List.mem_of_getElem? h)))
theorem tg_3 (i : Nat) {w : Cond} (h : tables_1_3[i]? = some w) (hg : goodWord w = true) : w ∈ TG := tg_t (ti_3 i h) hg
theorem tn_3 (i : Nat) {w : Cond} (h : tables_1_3[i]? = some w) (hg : isNst w = true) : w ∈ TN := List.mem_filter.mpr ⟨ti_3 i h, hg⟩
theorem ti_4 (i : Nat) {w : Cond} (h : tables_1_4[i]? = some w) : w ∈ tables_1 := List.mem_append_right _ (List.mem_append_right _ (List.mem_append_right _ (List.mem_append_left _ (List.mem_of_getElem? h))))
theorem tg_4 (i : Nat) {w : Cond} (h : tables_1_4[i]? = some w) (hg : goodWord w = true) : w ∈ TG := tg_t (ti_4 i h) hg
theorem tn_4 (i : Nat) {w : Cond} (h : tables_1_4[i]? = some w) (hg : isNst w = true) : w ∈ TN := List.mem_filter.mpr ⟨ti_4 i h, hg⟩
theorem ti_5 (i : Nat) {w : Cond} (h : tables_1_5[i]? = some w) : w ∈ tables_1 := List.mem_append_right _ (List.mem_append_right _ (List.mem_append_right _ (List.mem_append_right _ (List.mem_append_left _ (List.mem_of_getElem? h)))))
theorem tg_5 (i : Nat) {w : Cond} (h : tables_1_5[i]? = some w) (hg : goodWord w = true) : w ∈ TG := tg_t (ti_5 i h) hg
theorem tn_5 (i : Nat) {w : Cond} (h : tables_1_5[i]? = some w) (hg : isNst w = true) : w ∈ TN := List.mem_filter.mpr ⟨ti_5 i h, hg⟩
theorem ti_6 (i : Nat) {w : Cond} (h : tables_1_6[i]? = some w) : w ∈ tables_1 := List.mem_append_right _ (List.mem_append_right _ (List.mem_append_right _ (List.mem_append_right _ (List.mem_append_right _ (List.mem_append_left _ (List.mem_of_getElem? h))))))
theorem tg_6 (i : Nat) {w : Cond} (h : tables_1_6[i]? = some w) (hg : goodWord w = true) : w ∈ TG := tg_t (ti_6 i h) hg
theorem tn_6 (i : Nat) {w : Cond} (h : tables_1_6[i]? = some w) (hg : isNst w = true) : w ∈ TN := List.mem_filter.mpr ⟨ti_6 i h, hg⟩
theorem ti_7 (i : Nat) {w : Cond} (h : tables_1_7[i]? = some w) : w ∈ tables_1 := List.mem_append_right _ (List.mem_append_right _ (List.mem_append_right _ (List.mem_append_right _ (List.mem_append_right _ (List.mem_append_right _ (List.mem_append_left _ (List.mem_of_getElem? h)))))))
theorem tg_7 (i : Nat) {w : Cond} (h : tables_1_7[i]? = some w) (hg : goodWord w = true) : w ∈ TG := tg_t (ti_7 i h) hg
theorem tn_7 (i : Nat) {w : Cond} (h : tables_1_7[i]? = some w) (hg : isNst w = true) : w ∈ TN := List.mem_filter.mpr ⟨ti_7 i h, hg⟩
theorem ti_8 (i : Nat) {w : Cond} (h : tables_1_8[i]? = some w) : w ∈ tables_1 := List.mem_append_right _ (List.mem_append_right _ (List.mem_append_right _ (List.mem_append_right _ (List.mem_append_right _ (List.mem_append_right _ (List.mem_append_right _ (List.mem_append_left _ (List.mem_of_getElem? h))))))))
theorem tg_8 (i : Nat) {w : Cond} (h : tables_1_8[i]? = some w) (hg : goodWord w = true) : w ∈ TG := tg_t (ti_8 i h) hg
theorem tn_8 (i : Nat) {w : Cond} (h : tables_1_8[i]? = some w) (hg : isNst w = true) : w ∈ TN := List.mem_filter.mpr ⟨ti_8 i h, hg⟩
theorem ti_9 (i : Nat) {w : Cond} (h : tables_1_9[i]? = some w) : w ∈ tables_1 := List.mem_append_right _ (List.mem_append_right _ (List.mem_append_right _ (List.mem_append_right _ (List.mem_append_right _ (List.mem_append_right _ (List.mem_append_right _ (List.mem_append_right _ (List.mem_of_getElem? h))))))))
theorem tg_9 (i : Nat) {w : Cond} (h : tables_1_9[i]? = some w) (hg : goodWord w = true) : w ∈ TG := tg_t (ti_9 i h) hg
theorem tn_9 (i : Nat) {w : Cond} (h : tables_1_9[i]? = some w) (hg : isNst w = true) : w ∈ TN := List.mem_filter.mpr ⟨ti_9 i h, hg⟩
theorem layX0 : ∀ w ∈ u_ws RX0 TX0 18, w ∈ TG := by
  intro w h
  obtain ⟨j, hj, rfl⟩ := List.mem_map.mp h
  have hj := List.mem_range.mp hj
  match j, hj with
  | 0, _ => exact tg_2 31 (by decide +kernel) (by decide +kernel)
  | 1, _ => exact tg_2 33 (by decide +kernel) (by decide +kernel)
  | 2, _ => exact tg_2 35 (by decide +kernel) (by decide +kernel)
  | 3, _ => exact tg_2 37 (by decide +kernel) (by decide +kernel)
  | 4, _ => exact tg_2 39 (by decide +kernel) (by decide +kernel)
  | 5, _ => exact tg_2 41 (by decide +kernel) (by decide +kernel)
  | 6, _ => exact tg_2 43 (by decide +kernel) (by decide +kernel)
  | 7, _ => exact tg_2 45 (by decide +kernel) (by decide +kernel)
  | 8, _ => exact tg_2 47 (by decide +kernel) (by decide +kernel)
  | 9, _ => exact tg_2 49 (by decide +kernel) (by decide +kernel)
  | 10, _ => exact tg_2 51 (by decide +kernel) (by decide +kernel)
  | 11, _ => exact tg_2 53 (by decide +kernel) (by decide +kernel)
  | 12, _ => exact tg_2 55 (by decide +kernel) (by decide +kernel)
  | 13, _ => exact tg_2 57 (by decide +kernel) (by decide +kernel)
  | 14, _ => exact tg_2 59 (by decide +kernel) (by decide +kernel)
  | 15, _ => exact tg_2 61 (by decide +kernel) (by decide +kernel)
  | 16, _ => exact tg_2 63 (by decide +kernel) (by decide +kernel)
  | 17, _ => exact tg_2 65 (by decide +kernel) (by decide +kernel)
  | j + 18, hj => exact absurd hj (by omega)
theorem layX1 : ∀ w ∈ u_ws RX1 TX1 1, w ∈ TG := by
  intro w h
  obtain ⟨j, hj, rfl⟩ := List.mem_map.mp h
  have hj := List.mem_range.mp hj
  match j, hj with
  | 0, _ => exact tg_3 79 (by decide +kernel) (by decide +kernel)
  | j + 1, hj => exact absurd hj (by omega)
theorem layX2 : ∀ w ∈ u_ws RX2 TX2 18, w ∈ TG := by
  intro w h
  obtain ⟨j, hj, rfl⟩ := List.mem_map.mp h
  have hj := List.mem_range.mp hj
  match j, hj with
  | 0, _ => exact tg_1 95 (by decide +kernel) (by decide +kernel)
  | 1, _ => exact tg_1 97 (by decide +kernel) (by decide +kernel)
  | 2, _ => exact tg_1 99 (by decide +kernel) (by decide +kernel)
  | 3, _ => exact tg_1 101 (by decide +kernel) (by decide +kernel)
  | 4, _ => exact tg_1 103 (by decide +kernel) (by decide +kernel)
  | 5, _ => exact tg_1 105 (by decide +kernel) (by decide +kernel)
  | 6, _ => exact tg_1 107 (by decide +kernel) (by decide +kernel)
  | 7, _ => exact tg_1 109 (by decide +kernel) (by decide +kernel)
  | 8, _ => exact tg_1 111 (by decide +kernel) (by decide +kernel)
  | 9, _ => exact tg_1 113 (by decide +kernel) (by decide +kernel)
  | 10, _ => exact tg_1 115 (by decide +kernel) (by decide +kernel)
  | 11, _ => exact tg_1 117 (by decide +kernel) (by decide +kernel)
  | 12, _ => exact tg_1 119 (by decide +kernel) (by decide +kernel)
  | 13, _ => exact tg_1 121 (by decide +kernel) (by decide +kernel)
  | 14, _ => exact tg_1 123 (by decide +kernel) (by decide +kernel)
  | 15, _ => exact tg_1 125 (by decide +kernel) (by decide +kernel)
  | 16, _ => exact tg_1 127 (by decide +kernel) (by decide +kernel)
  | 17, _ => exact tg_1 129 (by decide +kernel) (by decide +kernel)
  | j + 18, hj => exact absurd hj (by omega)
theorem layX3 : ∀ w ∈ u_ws RX3 TX3 4, w ∈ TG := by
  intro w h
  obtain ⟨j, hj, rfl⟩ := List.mem_map.mp h
  have hj := List.mem_range.mp hj
  match j, hj with
  | 0, _ => exact tg_2 194 (by decide +kernel) (by decide +kernel)
  | 1, _ => exact tg_2 196 (by decide +kernel) (by decide +kernel)
  | 2, _ => exact tg_2 198 (by decide +kernel) (by decide +kernel)
  | 3, _ => exact tg_2 200 (by decide +kernel) (by decide +kernel)
  | j + 4, hj => exact absurd hj (by omega)
theorem layX4 : ∀ w ∈ u_ws RX4 TX4 13, w ∈ TG := by
  intro w h
  obtain ⟨j, hj, rfl⟩ := List.mem_map.mp h
  have hj := List.mem_range.mp hj
  match j, hj with
  | 0, _ => exact tg_1 161 (by decide +kernel) (by decide +kernel)
  | 1, _ => exact tg_1 163 (by decide +kernel) (by decide +kernel)
  | 2, _ => exact tg_1 165 (by decide +kernel) (by decide +kernel)
  | 3, _ => exact tg_1 167 (by decide +kernel) (by decide +kernel)
  | 4, _ => exact tg_1 169 (by decide +kernel) (by decide +kernel)
  | 5, _ => exact tg_1 171 (by decide +kernel) (by decide +kernel)
  | 6, _ => exact tg_1 173 (by decide +kernel) (by decide +kernel)
  | 7, _ => exact tg_1 175 (by decide +kernel) (by decide +kernel)
  | 8, _ => exact tg_1 177 (by decide +kernel) (by decide +kernel)
  | 9, _ => exact tg_1 179 (by decide +kernel) (by decide +kernel)
  | 10, _ => exact tg_1 181 (by decide +kernel) (by decide +kernel)
  | 11, _ => exact tg_1 183 (by decide +kernel) (by decide +kernel)
  | 12, _ => exact tg_1 185 (by decide +kernel) (by decide +kernel)
  | j + 13, hj => exact absurd hj (by omega)
theorem layX5 : ∀ w ∈ u_ws RX5 TX5 8, w ∈ TG := by
  intro w h
  obtain ⟨j, hj, rfl⟩ := List.mem_map.mp h
  have hj := List.mem_range.mp hj
  match j, hj with
  | 0, _ => exact tg_3 22 (by decide +kernel) (by decide +kernel)
  | 1, _ => exact tg_3 24 (by decide +kernel) (by decide +kernel)
  | 2, _ => exact tg_3 26 (by decide +kernel) (by decide +kernel)
  | 3, _ => exact tg_3 28 (by decide +kernel) (by decide +kernel)
  | 4, _ => exact tg_3 30 (by decide +kernel) (by decide +kernel)
  | 5, _ => exact tg_3 32 (by decide +kernel) (by decide +kernel)
  | 6, _ => exact tg_3 34 (by decide +kernel) (by decide +kernel)
  | 7, _ => exact tg_3 36 (by decide +kernel) (by decide +kernel)
  | j + 8, hj => exact absurd hj (by omega)
theorem layX6 : ∀ w ∈ u_ws RX6 TX6 17, w ∈ TG := by
  intro w h
  obtain ⟨j, hj, rfl⟩ := List.mem_map.mp h
  have hj := List.mem_range.mp hj
  match j, hj with
  | 0, _ => exact tg_2 146 (by decide +kernel) (by decide +kernel)
  | 1, _ => exact tg_2 148 (by decide +kernel) (by decide +kernel)
  | 2, _ => exact tg_2 150 (by decide +kernel) (by decide +kernel)
  | 3, _ => exact tg_2 152 (by decide +kernel) (by decide +kernel)
  | 4, _ => exact tg_2 154 (by decide +kernel) (by decide +kernel)
  | 5, _ => exact tg_2 156 (by decide +kernel) (by decide +kernel)
  | 6, _ => exact tg_2 158 (by decide +kernel) (by decide +kernel)
  | 7, _ => exact tg_2 160 (by decide +kernel) (by decide +kernel)
  | 8, _ => exact tg_2 162 (by decide +kernel) (by decide +kernel)
  | 9, _ => exact tg_2 164 (by decide +kernel) (by decide +kernel)
  | 10, _ => exact tg_2 166 (by decide +kernel) (by decide +kernel)
  | 11, _ => exact tg_2 168 (by decide +kernel) (by decide +kernel)
  | 12, _ => exact tg_2 170 (by decide +kernel) (by decide +kernel)
  | 13, _ => exact tg_2 172 (by decide +kernel) (by decide +kernel)
  | 14, _ => exact tg_2 174 (by decide +kernel) (by decide +kernel)
  | 15, _ => exact tg_2 176 (by decide +kernel) (by decide +kernel)
  | 16, _ => exact tg_2 178 (by decide +kernel) (by decide +kernel)
  | j + 17, hj => exact absurd hj (by omega)
theorem layX7 : ∀ w ∈ u_ws RX7 TX7 8, w ∈ TG := by
  intro w h
  obtain ⟨j, hj, rfl⟩ := List.mem_map.mp h
  have hj := List.mem_range.mp hj
  match j, hj with
  | 0, _ => exact tg_3 55 (by decide +kernel) (by decide +kernel)
  | 1, _ => exact tg_3 57 (by decide +kernel) (by decide +kernel)
  | 2, _ => exact tg_3 59 (by decide +kernel) (by decide +kernel)
  | 3, _ => exact tg_3 61 (by decide +kernel) (by decide +kernel)
  | 4, _ => exact tg_3 63 (by decide +kernel) (by decide +kernel)
  | 5, _ => exact tg_3 65 (by decide +kernel) (by decide +kernel)
  | 6, _ => exact tg_3 67 (by decide +kernel) (by decide +kernel)
  | 7, _ => exact tg_3 69 (by decide +kernel) (by decide +kernel)
  | j + 8, hj => exact absurd hj (by omega)
theorem layX8 : ∀ w ∈ u_ws RX8 TX8 11, w ∈ TG := by
  intro w h
  obtain ⟨j, hj, rfl⟩ := List.mem_map.mp h
  have hj := List.mem_range.mp hj
  match j, hj with
  | 0, _ => exact tg_1 218 (by decide +kernel) (by decide +kernel)
  | 1, _ => exact tg_1 220 (by decide +kernel) (by decide +kernel)
  | 2, _ => exact tg_1 222 (by decide +kernel) (by decide +kernel)
  | 3, _ => exact tg_1 224 (by decide +kernel) (by decide +kernel)
  | 4, _ => exact tg_1 226 (by decide +kernel) (by decide +kernel)
  | 5, _ => exact tg_1 228 (by decide +kernel) (by decide +kernel)
  | 6, _ => exact tg_1 230 (by decide +kernel) (by decide +kernel)
  | 7, _ => exact tg_1 232 (by decide +kernel) (by decide +kernel)
  | 8, _ => exact tg_1 234 (by decide +kernel) (by decide +kernel)
  | 9, _ => exact tg_1 236 (by decide +kernel) (by decide +kernel)
  | 10, _ => exact tg_1 238 (by decide +kernel) (by decide +kernel)
  | j + 11, hj => exact absurd hj (by omega)
theorem layX9 : ∀ w ∈ u_ws RX9 TX9 3, w ∈ TG := by
  intro w h
  obtain ⟨j, hj, rfl⟩ := List.mem_map.mp h
  have hj := List.mem_range.mp hj
  match j, hj with
  | 0, _ => exact tg_1 43 (by decide +kernel) (by decide +kernel)
  | 1, _ => exact tg_1 45 (by decide +kernel) (by decide +kernel)
  | 2, _ => exact tg_1 47 (by decide +kernel) (by decide +kernel)
  | j + 3, hj => exact absurd hj (by omega)
theorem layX10 : ∀ w ∈ u_ws RX10 TX10 11, w ∈ TG := by
  intro w h
  obtain ⟨j, hj, rfl⟩ := List.mem_map.mp h
  have hj := List.mem_range.mp hj
  match j, hj with
  | 0, _ => exact tg_2 221 (by decide +kernel) (by decide +kernel)
  | 1, _ => exact tg_2 223 (by decide +kernel) (by decide +kernel)
  | 2, _ => exact tg_2 225 (by decide +kernel) (by decide +kernel)
  | 3, _ => exact tg_2 227 (by decide +kernel) (by decide +kernel)
  | 4, _ => exact tg_2 229 (by decide +kernel) (by decide +kernel)
  | 5, _ => exact tg_2 231 (by decide +kernel) (by decide +kernel)
  | 6, _ => exact tg_2 233 (by decide +kernel) (by decide +kernel)
  | 7, _ => exact tg_2 235 (by decide +kernel) (by decide +kernel)
  | 8, _ => exact tg_2 237 (by decide +kernel) (by decide +kernel)
  | 9, _ => exact tg_2 239 (by decide +kernel) (by decide +kernel)
  | 10, _ => exact tg_3 1 (by decide +kernel) (by decide +kernel)
  | j + 11, hj => exact absurd hj (by omega)
theorem layX11 : ∀ w ∈ u_ws RX11 TX11 11, w ∈ TG := by
  intro w h
  obtain ⟨j, hj, rfl⟩ := List.mem_map.mp h
  have hj := List.mem_range.mp hj
  match j, hj with
  | 0, _ => exact tg_3 93 (by decide +kernel) (by decide +kernel)
  | 1, _ => exact tg_3 95 (by decide +kernel) (by decide +kernel)
  | 2, _ => exact tg_3 97 (by decide +kernel) (by decide +kernel)
  | 3, _ => exact tg_3 99 (by decide +kernel) (by decide +kernel)
  | 4, _ => exact tg_3 101 (by decide +kernel) (by decide +kernel)
  | 5, _ => exact tg_3 103 (by decide +kernel) (by decide +kernel)
  | 6, _ => exact tg_3 105 (by decide +kernel) (by decide +kernel)
  | 7, _ => exact tg_3 107 (by decide +kernel) (by decide +kernel)
  | 8, _ => exact tg_3 109 (by decide +kernel) (by decide +kernel)
  | 9, _ => exact tg_3 111 (by decide +kernel) (by decide +kernel)
  | 10, _ => exact tg_3 113 (by decide +kernel) (by decide +kernel)
  | j + 11, hj => exact absurd hj (by omega)
theorem layX12 : ∀ w ∈ u_ws RX12 TX12 108, w ∈ TG := by
  intro w h
  obtain ⟨j, hj, rfl⟩ := List.mem_map.mp h
  have hj := List.mem_range.mp hj
  match j, hj with
  | 0, _ => exact tg_7 81 (by decide +kernel) (by decide +kernel)
  | 1, _ => exact tg_7 83 (by decide +kernel) (by decide +kernel)
  | 2, _ => exact tg_7 85 (by decide +kernel) (by decide +kernel)
  | 3, _ => exact tg_7 87 (by decide +kernel) (by decide +kernel)
  | 4, _ => exact tg_7 89 (by decide +kernel) (by decide +kernel)
  | 5, _ => exact tg_7 91 (by decide +kernel) (by decide +kernel)
  | 6, _ => exact tg_7 93 (by decide +kernel) (by decide +kernel)
  | 7, _ => exact tg_7 95 (by decide +kernel) (by decide +kernel)
  | 8, _ => exact tg_7 97 (by decide +kernel) (by decide +kernel)
  | 9, _ => exact tg_7 99 (by decide +kernel) (by decide +kernel)
  | 10, _ => exact tg_7 101 (by decide +kernel) (by decide +kernel)
  | 11, _ => exact tg_7 103 (by decide +kernel) (by decide +kernel)
  | 12, _ => exact tg_7 105 (by decide +kernel) (by decide +kernel)
  | 13, _ => exact tg_7 107 (by decide +kernel) (by decide +kernel)
  | 14, _ => exact tg_7 109 (by decide +kernel) (by decide +kernel)
  | 15, _ => exact tg_7 111 (by decide +kernel) (by decide +kernel)
  | 16, _ => exact tg_7 113 (by decide +kernel) (by decide +kernel)
  | 17, _ => exact tg_7 115 (by decide +kernel) (by decide +kernel)
  | 18, _ => exact tg_7 117 (by decide +kernel) (by decide +kernel)
  | 19, _ => exact tg_7 119 (by decide +kernel) (by decide +kernel)
  | 20, _ => exact tg_7 121 (by decide +kernel) (by decide +kernel)
  | 21, _ => exact tg_7 123 (by decide +kernel) (by decide +kernel)
  | 22, _ => exact tg_7 125 (by decide +kernel) (by decide +kernel)
  | 23, _ => exact tg_7 127 (by decide +kernel) (by decide +kernel)
  | 24, _ => exact tg_7 129 (by decide +kernel) (by decide +kernel)
  | 25, _ => exact tg_7 131 (by decide +kernel) (by decide +kernel)
  | 26, _ => exact tg_7 133 (by decide +kernel) (by decide +kernel)
  | 27, _ => exact tg_7 135 (by decide +kernel) (by decide +kernel)
  | 28, _ => exact tg_7 137 (by decide +kernel) (by decide +kernel)
  | 29, _ => exact tg_7 139 (by decide +kernel) (by decide +kernel)
  | 30, _ => exact tg_7 141 (by decide +kernel) (by decide +kernel)
  | 31, _ => exact tg_7 143 (by decide +kernel) (by decide +kernel)
  | 32, _ => exact tg_7 145 (by decide +kernel) (by decide +kernel)
  | 33, _ => exact tg_7 147 (by decide +kernel) (by decide +kernel)
  | 34, _ => exact tg_7 149 (by decide +kernel) (by decide +kernel)
  | 35, _ => exact tg_7 151 (by decide +kernel) (by decide +kernel)
  | 36, _ => exact tg_7 153 (by decide +kernel) (by decide +kernel)
  | 37, _ => exact tg_7 155 (by decide +kernel) (by decide +kernel)
  | 38, _ => exact tg_7 157 (by decide +kernel) (by decide +kernel)
  | 39, _ => exact tg_7 159 (by decide +kernel) (by decide +kernel)
  | 40, _ => exact tg_7 161 (by decide +kernel) (by decide +kernel)
  | 41, _ => exact tg_7 163 (by decide +kernel) (by decide +kernel)
  | 42, _ => exact tg_7 165 (by decide +kernel) (by decide +kernel)
  | 43, _ => exact tg_7 167 (by decide +kernel) (by decide +kernel)
  | 44, _ => exact tg_7 169 (by decide +kernel) (by decide +kernel)
  | 45, _ => exact tg_7 171 (by decide +kernel) (by decide +kernel)
  | 46, _ => exact tg_7 173 (by decide +kernel) (by decide +kernel)
  | 47, _ => exact tg_7 175 (by decide +kernel) (by decide +kernel)
  | 48, _ => exact tg_7 177 (by decide +kernel) (by decide +kernel)
  | 49, _ => exact tg_7 179 (by decide +kernel) (by decide +kernel)
  | 50, _ => exact tg_7 181 (by decide +kernel) (by decide +kernel)
  | 51, _ => exact tg_7 183 (by decide +kernel) (by decide +kernel)
  | 52, _ => exact tg_7 185 (by decide +kernel) (by decide +kernel)
  | 53, _ => exact tg_7 187 (by decide +kernel) (by decide +kernel)
  | 54, _ => exact tg_7 189 (by decide +kernel) (by decide +kernel)
  | 55, _ => exact tg_7 191 (by decide +kernel) (by decide +kernel)
  | 56, _ => exact tg_7 193 (by decide +kernel) (by decide +kernel)
  | 57, _ => exact tg_7 195 (by decide +kernel) (by decide +kernel)
  | 58, _ => exact tg_7 197 (by decide +kernel) (by decide +kernel)
  | 59, _ => exact tg_7 199 (by decide +kernel) (by decide +kernel)
  | 60, _ => exact tg_7 201 (by decide +kernel) (by decide +kernel)
  | 61, _ => exact tg_7 203 (by decide +kernel) (by decide +kernel)
  | 62, _ => exact tg_7 205 (by decide +kernel) (by decide +kernel)
  | 63, _ => exact tg_7 207 (by decide +kernel) (by decide +kernel)
  | 64, _ => exact tg_7 209 (by decide +kernel) (by decide +kernel)
  | 65, _ => exact tg_7 211 (by decide +kernel) (by decide +kernel)
  | 66, _ => exact tg_7 213 (by decide +kernel) (by decide +kernel)
  | 67, _ => exact tg_7 215 (by decide +kernel) (by decide +kernel)
  | 68, _ => exact tg_7 217 (by decide +kernel) (by decide +kernel)
  | 69, _ => exact tg_7 219 (by decide +kernel) (by decide +kernel)
  | 70, _ => exact tg_7 221 (by decide +kernel) (by decide +kernel)
  | 71, _ => exact tg_7 223 (by decide +kernel) (by decide +kernel)
  | 72, _ => exact tg_7 225 (by decide +kernel) (by decide +kernel)
  | 73, _ => exact tg_7 227 (by decide +kernel) (by decide +kernel)
  | 74, _ => exact tg_7 229 (by decide +kernel) (by decide +kernel)
  | 75, _ => exact tg_7 231 (by decide +kernel) (by decide +kernel)
  | 76, _ => exact tg_7 233 (by decide +kernel) (by decide +kernel)
  | 77, _ => exact tg_7 235 (by decide +kernel) (by decide +kernel)
  | 78, _ => exact tg_7 237 (by decide +kernel) (by decide +kernel)
  | 79, _ => exact tg_7 239 (by decide +kernel) (by decide +kernel)
  | 80, _ => exact tg_8 1 (by decide +kernel) (by decide +kernel)
  | 81, _ => exact tg_8 3 (by decide +kernel) (by decide +kernel)
  | 82, _ => exact tg_8 5 (by decide +kernel) (by decide +kernel)
  | 83, _ => exact tg_8 7 (by decide +kernel) (by decide +kernel)
  | 84, _ => exact tg_8 9 (by decide +kernel) (by decide +kernel)
  | 85, _ => exact tg_8 11 (by decide +kernel) (by decide +kernel)
  | 86, _ => exact tg_8 13 (by decide +kernel) (by decide +kernel)
  | 87, _ => exact tg_8 15 (by decide +kernel) (by decide +kernel)
  | 88, _ => exact tg_8 17 (by decide +kernel) (by decide +kernel)
  | 89, _ => exact tg_8 19 (by decide +kernel) (by decide +kernel)
  | 90, _ => exact tg_8 21 (by decide +kernel) (by decide +kernel)
  | 91, _ => exact tg_8 23 (by decide +kernel) (by decide +kernel)
  | 92, _ => exact tg_8 25 (by decide +kernel) (by decide +kernel)
  | 93, _ => exact tg_8 27 (by decide +kernel) (by decide +kernel)
  | 94, _ => exact tg_8 29 (by decide +kernel) (by decide +kernel)
  | 95, _ => exact tg_8 31 (by decide +kernel) (by decide +kernel)
  | 96, _ => exact tg_8 33 (by decide +kernel) (by decide +kernel)
  | 97, _ => exact tg_8 35 (by decide +kernel) (by decide +kernel)
  | 98, _ => exact tg_8 37 (by decide +kernel) (by decide +kernel)
  | 99, _ => exact tg_8 39 (by decide +kernel) (by decide +kernel)
  | 100, _ => exact tg_8 41 (by decide +kernel) (by decide +kernel)
  | 101, _ => exact tg_8 43 (by decide +kernel) (by decide +kernel)
  | 102, _ => exact tg_8 45 (by decide +kernel) (by decide +kernel)
  | 103, _ => exact tg_8 47 (by decide +kernel) (by decide +kernel)
  | 104, _ => exact tg_8 49 (by decide +kernel) (by decide +kernel)
  | 105, _ => exact tg_8 51 (by decide +kernel) (by decide +kernel)
  | 106, _ => exact tg_8 53 (by decide +kernel) (by decide +kernel)
  | 107, _ => exact tg_8 55 (by decide +kernel) (by decide +kernel)
  | j + 108, hj => exact absurd hj (by omega)
def shL : List (Nat × Nat) := [(5, 11), (5, 9), (2, 240), (0, 4), (0, 4), (5, 2), (0, 16), (0, 30), (0, 30), (0, 30), (0, 30), (0, 30), (0, 40), (0, 40), (0, 40), (0, 20), (0, 20), (0, 12), (0, 16), (5, 4), (0, 160), (0, 160), (0, 160), (0, 160), (0, 160), (0, 160), (0, 20), (0, 40), (0, 12), (0, 12), (5, 0), (0, 5), (0, 5), (0, 6), (0, 5), (2, 100), (2, 100), (0, 100), (0, 100), (0, 100), (0, 100), (0, 100), (0, 3000), (4, 4), (2, 64), (5, 8), (0, 100), (3, 100), (0, 100), (0, 100), (5, 8), (0, 100), (3, 100), (0, 100), (0, 100), (5, 8), (0, 100), (3, 100), (0, 100), (0, 100), (5, 8), (0, 100), (3, 100), (0, 100), (0, 100), (5, 6), (1, 600), (2, 17), (0, 64), (5, 3), (0, 15), (0, 15), (0, 15), (5, 10), (1, 2400), (1, 36000), (1, 2400), (2, 7), (0, 12), (1, 15), (5, 5), (0, 60), (0, 60), (0, 60), (1, 480), (0, 8), (0, 8), (0, 81), (5, 7), (0, 7), (0, 7), (0, 49), (0, 128), (0, 128), (0, 7), (5, 1), (2, 3721), (5, 12), (0, 4), (0, 4), (2, 240), (0, 16), (0, 30), (0, 30), (0, 30), (0, 30), (0, 30), (0, 16), (0, 40), (0, 40), (0, 40), (0, 20), (0, 20), (0, 12), (0, 160), (0, 160), (0, 160), (0, 160), (0, 160), (0, 160), (1, 600), (1, 600), (0, 6), (0, 6), (0, 6), (0, 120), (0, 120), (0, 120), (0, 120), (0, 120), (0, 120), (0, 120), (2, 120), (2, 120), (0, 1500), (0, 1500), (0, 1500), (0, 1500), (3, 1500), (3, 1500), (0, 4000), (0, 4000), (0, 8), (0, 8), (0, 100), (0, 5), (3, 100), (0, 15), (0, 15), (0, 15), (0, 600), (0, 40), (0, 40), (0, 40), (0, 12), (0, 12), (0, 12), (3, 40), (3, 40), (2, 7), (2, 700), (0, 60), (0, 60), (0, 8), (0, 8), (0, 81), (0, 16), (0, 16), (2, 60), (2, 60), (0, 7), (0, 7), (0, 7), (0, 49), (0, 7), (0, 7), (0, 7), (2, 3721)]
def rfL : List (List Nat) := [[3, 7, 21, 32, 67, 71, 75, 82, 90, 97, 0], [4, 5, 6], [], [], [], [0, 8, 0, 9, 10, 11, 12, 13, 0, 14, 15, 16, 0, 17, 18, 0, 19, 20], [], [], [], [], [], [], [], [], [], [], [], [], [], [0, 22, 23, 24, 25, 26, 27, 0, 0, 28, 29, 30, 31], [], [], [], [], [], [], [], [], [], [], [0, 33, 34, 35, 36, 37, 38, 39, 40, 41, 42, 43, 44, 0, 0, 0, 45, 46], [], [], [], [], [], [], [], [], [], [], [], [], [], [], [0, 0, 48, 49, 0, 50, 0, 51, 0, 0, 0], [], [], [], [], [0, 0, 53, 54, 0, 55, 0, 56, 0, 0, 0], [], [], [], [], [0, 0, 58, 59, 0, 60, 0, 61, 0, 0, 0], [], [], [], [], [0, 0, 63, 64, 0, 65, 0, 66, 0, 0, 0], [], [], [], [], [32, 68, 0, 69, 0, 0, 0, 0, 0, 1, 0, 0, 0, 0, 0, 70, 0], [], [], [], [72, 73, 74, 0], [], [], [], [7, 21, 32, 71, 0, 76, 77, 78, 79, 80, 81], [], [], [], [], [], [], [0, 83, 84, 85, 86, 87, 88, 89], [], [], [], [], [], [], [], [0, 91, 92, 93, 94, 95, 0, 96], [], [], [], [], [], [], [98], [], [0, 100, 101, 102, 0, 0, 0, 0, 0, 0, 0, 0, 103, 104, 105, 106, 107, 108, 109, 110, 111, 112, 113, 114, 115, 116, 117, 118, 119, 120, 121, 122, 123, 0, 0, 0, 0, 0, 0, 0, 0, 0, 0, 0, 0, 124, 125, 126, 127, 128, 129, 130, 131, 132, 133, 134, 135, 136, 137, 138, 139, 140, 141, 142, 143, 144, 145, 146, 147, 148, 0, 149, 150, 151, 152, 153, 154, 155, 156, 157, 158, 159, 160, 0, 161, 162, 0, 163, 164, 165, 166, 167, 168, 169, 170, 171, 0, 0, 0, 172, 173, 174, 175, 176, 177, 0, 178, 179], [], [], [], [], [], [], [], [], [], [], [], [], [], [], [], [], [], [], [], [], [], [], [], [], [], [], [], [], [], [], [], [], [], [], [], [], [], [], [], [], [], [], [], [], [], [], [], [], [], [], [], [], [], [], [], [], [], [], [], [], [], [], [], [], [], [], [], [], [], [], [], [], [], [], [], [], [], [], [], []]
def sh (k : Nat) : Nat × Nat := shL.getD k (9, 0)
def fk (k j : Nat) : Nat := (rfL.getD k []).getD j 999999
def nf (k : Nat) : Nat := (rfL.getD k []).length
theorem sh_0 : sh 0 = (5, 11) := by decide +kernel
theorem sh_1 : sh 1 = (5, 9) := by decide +kernel
theorem sh_2 : sh 2 = (2, 240) := by decide +kernel
theorem sh_3 : sh 3 = (0, 4) := by decide +kernel
theorem sh_4 : sh 4 = (0, 4) := by decide +kernel
theorem sh_5 : sh 5 = (5, 2) := by decide +kernel
theorem sh_6 : sh 6 = (0, 16) := by decide +kernel
theorem sh_7 : sh 7 = (0, 30) := by decide +kernel
theorem sh_8 : sh 8 = (0, 30) := by decide +kernel
theorem sh_9 : sh 9 = (0, 30) := by decide +kernel
theorem sh_10 : sh 10 = (0, 30) := by decide +kernel
theorem sh_11 : sh 11 = (0, 30) := by decide +kernel
theorem sh_12 : sh 12 = (0, 40) := by decide +kernel
theorem sh_13 : sh 13 = (0, 40) := by decide +kernel
theorem sh_14 : sh 14 = (0, 40) := by decide +kernel
theorem sh_15 : sh 15 = (0, 20) := by decide +kernel
theorem sh_16 : sh 16 = (0, 20) := by decide +kernel
theorem sh_17 : sh 17 = (0, 12) := by decide +kernel
theorem sh_18 : sh 18 = (0, 16) := by decide +kernel
theorem sh_19 : sh 19 = (5, 4) := by decide +kernel
theorem sh_20 : sh 20 = (0, 160) := by decide +kernel
theorem sh_21 : sh 21 = (0, 160) := by decide +kernel
theorem sh_22 : sh 22 = (0, 160) := by decide +kernel
theorem sh_23 : sh 23 = (0, 160) := by decide +kernel
theorem sh_24 : sh 24 = (0, 160) := by decide +kernel
theorem sh_25 : sh 25 = (0, 160) := by decide +kernel
theorem sh_26 : sh 26 = (0, 20) := by decide +kernel
theorem sh_27 : sh 27 = (0, 40) := by decide +kernel
theorem sh_28 : sh 28 = (0, 12) := by decide +kernel
theorem sh_29 : sh 29 = (0, 12) := by decide +kernel
theorem sh_30 : sh 30 = (5, 0) := by decide +kernel
theorem sh_31 : sh 31 = (0, 5) := by decide +kernel
theorem sh_32 : sh 32 = (0, 5) := by decide +kernel
theorem sh_33 : sh 33 = (0, 6) := by decide +kernel
theorem sh_34 : sh 34 = (0, 5) := by decide +kernel
theorem sh_35 : sh 35 = (2, 100) := by decide +kernel
theorem sh_36 : sh 36 = (2, 100) := by decide +kernel
theorem sh_37 : sh 37 = (0, 100) := by decide +kernel
theorem sh_38 : sh 38 = (0, 100) := by decide +kernel
theorem sh_39 : sh 39 = (0, 100) := by decide +kernel
theorem sh_40 : sh 40 = (0, 100) := by decide +kernel
theorem sh_41 : sh 41 = (0, 100) := by decide +kernel
theorem sh_42 : sh 42 = (0, 3000) := by decide +kernel
theorem sh_43 : sh 43 = (4, 4) := by decide +kernel
theorem sh_44 : sh 44 = (2, 64) := by decide +kernel
theorem sh_45 : sh 45 = (5, 8) := by decide +kernel
theorem sh_46 : sh 46 = (0, 100) := by decide +kernel
theorem sh_47 : sh 47 = (3, 100) := by decide +kernel
theorem sh_48 : sh 48 = (0, 100) := by decide +kernel
theorem sh_49 : sh 49 = (0, 100) := by decide +kernel
theorem sh_50 : sh 50 = (5, 8) := by decide +kernel
theorem sh_51 : sh 51 = (0, 100) := by decide +kernel
theorem sh_52 : sh 52 = (3, 100) := by decide +kernel
theorem sh_53 : sh 53 = (0, 100) := by decide +kernel
theorem sh_54 : sh 54 = (0, 100) := by decide +kernel
theorem sh_55 : sh 55 = (5, 8) := by decide +kernel
theorem sh_56 : sh 56 = (0, 100) := by decide +kernel
theorem sh_57 : sh 57 = (3, 100) := by decide +kernel
theorem sh_58 : sh 58 = (0, 100) := by decide +kernel
theorem sh_59 : sh 59 = (0, 100) := by decide +kernel
theorem sh_60 : sh 60 = (5, 8) := by decide +kernel
theorem sh_61 : sh 61 = (0, 100) := by decide +kernel
theorem sh_62 : sh 62 = (3, 100) := by decide +kernel
theorem sh_63 : sh 63 = (0, 100) := by decide +kernel
theorem sh_64 : sh 64 = (0, 100) := by decide +kernel
theorem sh_65 : sh 65 = (5, 6) := by decide +kernel
theorem sh_66 : sh 66 = (1, 600) := by decide +kernel
theorem sh_67 : sh 67 = (2, 17) := by decide +kernel
theorem sh_68 : sh 68 = (0, 64) := by decide +kernel
theorem sh_69 : sh 69 = (5, 3) := by decide +kernel
theorem sh_70 : sh 70 = (0, 15) := by decide +kernel
theorem sh_71 : sh 71 = (0, 15) := by decide +kernel
theorem sh_72 : sh 72 = (0, 15) := by decide +kernel
theorem sh_73 : sh 73 = (5, 10) := by decide +kernel
theorem sh_74 : sh 74 = (1, 2400) := by decide +kernel
theorem sh_75 : sh 75 = (1, 36000) := by decide +kernel
theorem sh_76 : sh 76 = (1, 2400) := by decide +kernel
theorem sh_77 : sh 77 = (2, 7) := by decide +kernel
theorem sh_78 : sh 78 = (0, 12) := by decide +kernel
theorem sh_79 : sh 79 = (1, 15) := by decide +kernel
theorem sh_80 : sh 80 = (5, 5) := by decide +kernel
theorem sh_81 : sh 81 = (0, 60) := by decide +kernel
theorem sh_82 : sh 82 = (0, 60) := by decide +kernel
theorem sh_83 : sh 83 = (0, 60) := by decide +kernel
theorem sh_84 : sh 84 = (1, 480) := by decide +kernel
theorem sh_85 : sh 85 = (0, 8) := by decide +kernel
theorem sh_86 : sh 86 = (0, 8) := by decide +kernel
theorem sh_87 : sh 87 = (0, 81) := by decide +kernel
theorem sh_88 : sh 88 = (5, 7) := by decide +kernel
theorem sh_89 : sh 89 = (0, 7) := by decide +kernel
theorem sh_90 : sh 90 = (0, 7) := by decide +kernel
theorem sh_91 : sh 91 = (0, 49) := by decide +kernel
theorem sh_92 : sh 92 = (0, 128) := by decide +kernel
theorem sh_93 : sh 93 = (0, 128) := by decide +kernel
theorem sh_94 : sh 94 = (0, 7) := by decide +kernel
theorem sh_95 : sh 95 = (5, 1) := by decide +kernel
theorem sh_96 : sh 96 = (2, 3721) := by decide +kernel
theorem sh_97 : sh 97 = (5, 12) := by decide +kernel
theorem sh_98 : sh 98 = (0, 4) := by decide +kernel
theorem sh_99 : sh 99 = (0, 4) := by decide +kernel
theorem sh_100 : sh 100 = (2, 240) := by decide +kernel
theorem sh_101 : sh 101 = (0, 16) := by decide +kernel
theorem sh_102 : sh 102 = (0, 30) := by decide +kernel
theorem sh_103 : sh 103 = (0, 30) := by decide +kernel
theorem sh_104 : sh 104 = (0, 30) := by decide +kernel
theorem sh_105 : sh 105 = (0, 30) := by decide +kernel
theorem sh_106 : sh 106 = (0, 30) := by decide +kernel
theorem sh_107 : sh 107 = (0, 16) := by decide +kernel
theorem sh_108 : sh 108 = (0, 40) := by decide +kernel
theorem sh_109 : sh 109 = (0, 40) := by decide +kernel
theorem sh_110 : sh 110 = (0, 40) := by decide +kernel
theorem sh_111 : sh 111 = (0, 20) := by decide +kernel
theorem sh_112 : sh 112 = (0, 20) := by decide +kernel
theorem sh_113 : sh 113 = (0, 12) := by decide +kernel
theorem sh_114 : sh 114 = (0, 160) := by decide +kernel
theorem sh_115 : sh 115 = (0, 160) := by decide +kernel
theorem sh_116 : sh 116 = (0, 160) := by decide +kernel
theorem sh_117 : sh 117 = (0, 160) := by decide +kernel
theorem sh_118 : sh 118 = (0, 160) := by decide +kernel
theorem sh_119 : sh 119 = (0, 160) := by decide +kernel
theorem sh_120 : sh 120 = (1, 600) := by decide +kernel
theorem sh_121 : sh 121 = (1, 600) := by decide +kernel
theorem sh_122 : sh 122 = (0, 6) := by decide +kernel
theorem sh_123 : sh 123 = (0, 6) := by decide +kernel
theorem sh_124 : sh 124 = (0, 6) := by decide +kernel
theorem sh_125 : sh 125 = (0, 120) := by decide +kernel
theorem sh_126 : sh 126 = (0, 120) := by decide +kernel
theorem sh_127 : sh 127 = (0, 120) := by decide +kernel
theorem sh_128 : sh 128 = (0, 120) := by decide +kernel
theorem sh_129 : sh 129 = (0, 120) := by decide +kernel
theorem sh_130 : sh 130 = (0, 120) := by decide +kernel
theorem sh_131 : sh 131 = (0, 120) := by decide +kernel
theorem sh_132 : sh 132 = (2, 120) := by decide +kernel
theorem sh_133 : sh 133 = (2, 120) := by decide +kernel
theorem sh_134 : sh 134 = (0, 1500) := by decide +kernel
theorem sh_135 : sh 135 = (0, 1500) := by decide +kernel
theorem sh_136 : sh 136 = (0, 1500) := by decide +kernel
theorem sh_137 : sh 137 = (0, 1500) := by decide +kernel
theorem sh_138 : sh 138 = (3, 1500) := by decide +kernel
theorem sh_139 : sh 139 = (3, 1500) := by decide +kernel
theorem sh_140 : sh 140 = (0, 4000) := by decide +kernel
theorem sh_141 : sh 141 = (0, 4000) := by decide +kernel
theorem sh_142 : sh 142 = (0, 8) := by decide +kernel
theorem sh_143 : sh 143 = (0, 8) := by decide +kernel
theorem sh_144 : sh 144 = (0, 100) := by decide +kernel
theorem sh_145 : sh 145 = (0, 5) := by decide +kernel
theorem sh_146 : sh 146 = (3, 100) := by decide +kernel
theorem sh_147 : sh 147 = (0, 15) := by decide +kernel
theorem sh_148 : sh 148 = (0, 15) := by decide +kernel
theorem sh_149 : sh 149 = (0, 15) := by decide +kernel
theorem sh_150 : sh 150 = (0, 600) := by decide +kernel
theorem sh_151 : sh 151 = (0, 40) := by decide +kernel
theorem sh_152 : sh 152 = (0, 40) := by decide +kernel
theorem sh_153 : sh 153 = (0, 40) := by decide +kernel
theorem sh_154 : sh 154 = (0, 12) := by decide +kernel
theorem sh_155 : sh 155 = (0, 12) := by decide +kernel
theorem sh_156 : sh 156 = (0, 12) := by decide +kernel
theorem sh_157 : sh 157 = (3, 40) := by decide +kernel
theorem sh_158 : sh 158 = (3, 40) := by decide +kernel
theorem sh_159 : sh 159 = (2, 7) := by decide +kernel
theorem sh_160 : sh 160 = (2, 700) := by decide +kernel
theorem sh_161 : sh 161 = (0, 60) := by decide +kernel
theorem sh_162 : sh 162 = (0, 60) := by decide +kernel
theorem sh_163 : sh 163 = (0, 8) := by decide +kernel
theorem sh_164 : sh 164 = (0, 8) := by decide +kernel
theorem sh_165 : sh 165 = (0, 81) := by decide +kernel
theorem sh_166 : sh 166 = (0, 16) := by decide +kernel
theorem sh_167 : sh 167 = (0, 16) := by decide +kernel
theorem sh_168 : sh 168 = (2, 60) := by decide +kernel
theorem sh_169 : sh 169 = (2, 60) := by decide +kernel
theorem sh_170 : sh 170 = (0, 7) := by decide +kernel
theorem sh_171 : sh 171 = (0, 7) := by decide +kernel
theorem sh_172 : sh 172 = (0, 7) := by decide +kernel
theorem sh_173 : sh 173 = (0, 49) := by decide +kernel
theorem sh_174 : sh 174 = (0, 7) := by decide +kernel
theorem sh_175 : sh 175 = (0, 7) := by decide +kernel
theorem sh_176 : sh 176 = (0, 7) := by decide +kernel
theorem sh_177 : sh 177 = (2, 3721) := by decide +kernel
theorem fk_0_0 : fk 0 0 = 3 := by decide +kernel
theorem fk_0_1 : fk 0 1 = 7 := by decide +kernel
theorem fk_0_2 : fk 0 2 = 21 := by decide +kernel
theorem fk_0_3 : fk 0 3 = 32 := by decide +kernel
theorem fk_0_4 : fk 0 4 = 67 := by decide +kernel
theorem fk_0_5 : fk 0 5 = 71 := by decide +kernel
theorem fk_0_6 : fk 0 6 = 75 := by decide +kernel
theorem fk_0_7 : fk 0 7 = 82 := by decide +kernel
theorem fk_0_8 : fk 0 8 = 90 := by decide +kernel
theorem fk_0_9 : fk 0 9 = 97 := by decide +kernel
theorem fk_0_10 : fk 0 10 = 0 := by decide +kernel
theorem fk_1_0 : fk 1 0 = 4 := by decide +kernel
theorem fk_1_1 : fk 1 1 = 5 := by decide +kernel
theorem fk_1_2 : fk 1 2 = 6 := by decide +kernel
theorem fk_5_0 : fk 5 0 = 0 := by decide +kernel
theorem fk_5_1 : fk 5 1 = 8 := by decide +kernel
theorem fk_5_2 : fk 5 2 = 0 := by decide +kernel
theorem fk_5_3 : fk 5 3 = 9 := by decide +kernel
theorem fk_5_4 : fk 5 4 = 10 := by decide +kernel
theorem fk_5_5 : fk 5 5 = 11 := by decide +kernel
theorem fk_5_6 : fk 5 6 = 12 := by decide +kernel
theorem fk_5_7 : fk 5 7 = 13 := by decide +kernel
theorem fk_5_8 : fk 5 8 = 0 := by decide +kernel
theorem fk_5_9 : fk 5 9 = 14 := by decide +kernel
theorem fk_5_10 : fk 5 10 = 15 := by decide +kernel
theorem fk_5_11 : fk 5 11 = 16 := by decide +kernel
theorem fk_5_12 : fk 5 12 = 0 := by decide +kernel
theorem fk_5_13 : fk 5 13 = 17 := by decide +kernel
theorem fk_5_14 : fk 5 14 = 18 := by decide +kernel
theorem fk_5_15 : fk 5 15 = 0 := by decide +kernel
theorem fk_5_16 : fk 5 16 = 19 := by decide +kernel
theorem fk_5_17 : fk 5 17 = 20 := by decide +kernel
theorem fk_19_0 : fk 19 0 = 0 := by decide +kernel
theorem fk_19_1 : fk 19 1 = 22 := by decide +kernel
theorem fk_19_2 : fk 19 2 = 23 := by decide +kernel
theorem fk_19_3 : fk 19 3 = 24 := by decide +kernel
theorem fk_19_4 : fk 19 4 = 25 := by decide +kernel
theorem fk_19_5 : fk 19 5 = 26 := by decide +kernel
theorem fk_19_6 : fk 19 6 = 27 := by decide +kernel
theorem fk_19_7 : fk 19 7 = 0 := by decide +kernel
theorem fk_19_8 : fk 19 8 = 0 := by decide +kernel
theorem fk_19_9 : fk 19 9 = 28 := by decide +kernel
theorem fk_19_10 : fk 19 10 = 29 := by decide +kernel
theorem fk_19_11 : fk 19 11 = 30 := by decide +kernel
theorem fk_19_12 : fk 19 12 = 31 := by decide +kernel
theorem fk_30_0 : fk 30 0 = 0 := by decide +kernel
theorem fk_30_1 : fk 30 1 = 33 := by decide +kernel
theorem fk_30_2 : fk 30 2 = 34 := by decide +kernel
theorem fk_30_3 : fk 30 3 = 35 := by decide +kernel
theorem fk_30_4 : fk 30 4 = 36 := by decide +kernel
theorem fk_30_5 : fk 30 5 = 37 := by decide +kernel
theorem fk_30_6 : fk 30 6 = 38 := by decide +kernel
theorem fk_30_7 : fk 30 7 = 39 := by decide +kernel
theorem fk_30_8 : fk 30 8 = 40 := by decide +kernel
theorem fk_30_9 : fk 30 9 = 41 := by decide +kernel
theorem fk_30_10 : fk 30 10 = 42 := by decide +kernel
theorem fk_30_11 : fk 30 11 = 43 := by decide +kernel
theorem fk_30_12 : fk 30 12 = 44 := by decide +kernel
theorem fk_30_13 : fk 30 13 = 0 := by decide +kernel
theorem fk_30_14 : fk 30 14 = 0 := by decide +kernel
theorem fk_30_15 : fk 30 15 = 0 := by decide +kernel
theorem fk_30_16 : fk 30 16 = 45 := by decide +kernel
theorem fk_30_17 : fk 30 17 = 46 := by decide +kernel
theorem fk_45_0 : fk 45 0 = 0 := by decide +kernel
theorem fk_45_1 : fk 45 1 = 0 := by decide +kernel
theorem fk_45_2 : fk 45 2 = 48 := by decide +kernel
theorem fk_45_3 : fk 45 3 = 49 := by decide +kernel
theorem fk_45_4 : fk 45 4 = 0 := by decide +kernel
theorem fk_45_5 : fk 45 5 = 50 := by decide +kernel
theorem fk_45_6 : fk 45 6 = 0 := by decide +kernel
theorem fk_45_7 : fk 45 7 = 51 := by decide +kernel
theorem fk_45_8 : fk 45 8 = 0 := by decide +kernel
theorem fk_45_9 : fk 45 9 = 0 := by decide +kernel
theorem fk_45_10 : fk 45 10 = 0 := by decide +kernel
theorem fk_50_0 : fk 50 0 = 0 := by decide +kernel
theorem fk_50_1 : fk 50 1 = 0 := by decide +kernel
theorem fk_50_2 : fk 50 2 = 53 := by decide +kernel
theorem fk_50_3 : fk 50 3 = 54 := by decide +kernel
theorem fk_50_4 : fk 50 4 = 0 := by decide +kernel
theorem fk_50_5 : fk 50 5 = 55 := by decide +kernel
theorem fk_50_6 : fk 50 6 = 0 := by decide +kernel
theorem fk_50_7 : fk 50 7 = 56 := by decide +kernel
theorem fk_50_8 : fk 50 8 = 0 := by decide +kernel
theorem fk_50_9 : fk 50 9 = 0 := by decide +kernel
theorem fk_50_10 : fk 50 10 = 0 := by decide +kernel
theorem fk_55_0 : fk 55 0 = 0 := by decide +kernel
theorem fk_55_1 : fk 55 1 = 0 := by decide +kernel
theorem fk_55_2 : fk 55 2 = 58 := by decide +kernel
theorem fk_55_3 : fk 55 3 = 59 := by decide +kernel
theorem fk_55_4 : fk 55 4 = 0 := by decide +kernel
theorem fk_55_5 : fk 55 5 = 60 := by decide +kernel
theorem fk_55_6 : fk 55 6 = 0 := by decide +kernel
theorem fk_55_7 : fk 55 7 = 61 := by decide +kernel
theorem fk_55_8 : fk 55 8 = 0 := by decide +kernel
theorem fk_55_9 : fk 55 9 = 0 := by decide +kernel
theorem fk_55_10 : fk 55 10 = 0 := by decide +kernel
theorem fk_60_0 : fk 60 0 = 0 := by decide +kernel
theorem fk_60_1 : fk 60 1 = 0 := by decide +kernel
theorem fk_60_2 : fk 60 2 = 63 := by decide +kernel
theorem fk_60_3 : fk 60 3 = 64 := by decide +kernel
theorem fk_60_4 : fk 60 4 = 0 := by decide +kernel
theorem fk_60_5 : fk 60 5 = 65 := by decide +kernel
theorem fk_60_6 : fk 60 6 = 0 := by decide +kernel
theorem fk_60_7 : fk 60 7 = 66 := by decide +kernel
theorem fk_60_8 : fk 60 8 = 0 := by decide +kernel
theorem fk_60_9 : fk 60 9 = 0 := by decide +kernel
theorem fk_60_10 : fk 60 10 = 0 := by decide +kernel
theorem fk_65_0 : fk 65 0 = 32 := by decide +kernel
theorem fk_65_1 : fk 65 1 = 68 := by decide +kernel
theorem fk_65_2 : fk 65 2 = 0 := by decide +kernel
theorem fk_65_3 : fk 65 3 = 69 := by decide +kernel
theorem fk_65_4 : fk 65 4 = 0 := by decide +kernel
theorem fk_65_5 : fk 65 5 = 0 := by decide +kernel
theorem fk_65_6 : fk 65 6 = 0 := by decide +kernel
theorem fk_65_7 : fk 65 7 = 0 := by decide +kernel
theorem fk_65_8 : fk 65 8 = 0 := by decide +kernel
theorem fk_65_9 : fk 65 9 = 1 := by decide +kernel
theorem fk_65_10 : fk 65 10 = 0 := by decide +kernel
theorem fk_65_11 : fk 65 11 = 0 := by decide +kernel
theorem fk_65_12 : fk 65 12 = 0 := by decide +kernel
theorem fk_65_13 : fk 65 13 = 0 := by decide +kernel
theorem fk_65_14 : fk 65 14 = 0 := by decide +kernel
theorem fk_65_15 : fk 65 15 = 70 := by decide +kernel
theorem fk_65_16 : fk 65 16 = 0 := by decide +kernel
theorem fk_69_0 : fk 69 0 = 72 := by decide +kernel
theorem fk_69_1 : fk 69 1 = 73 := by decide +kernel
theorem fk_69_2 : fk 69 2 = 74 := by decide +kernel
theorem fk_69_3 : fk 69 3 = 0 := by decide +kernel
theorem fk_73_0 : fk 73 0 = 7 := by decide +kernel
theorem fk_73_1 : fk 73 1 = 21 := by decide +kernel
theorem fk_73_2 : fk 73 2 = 32 := by decide +kernel
theorem fk_73_3 : fk 73 3 = 71 := by decide +kernel
theorem fk_73_4 : fk 73 4 = 0 := by decide +kernel
theorem fk_73_5 : fk 73 5 = 76 := by decide +kernel
theorem fk_73_6 : fk 73 6 = 77 := by decide +kernel
theorem fk_73_7 : fk 73 7 = 78 := by decide +kernel
theorem fk_73_8 : fk 73 8 = 79 := by decide +kernel
theorem fk_73_9 : fk 73 9 = 80 := by decide +kernel
theorem fk_73_10 : fk 73 10 = 81 := by decide +kernel
theorem fk_80_0 : fk 80 0 = 0 := by decide +kernel
theorem fk_80_1 : fk 80 1 = 83 := by decide +kernel
theorem fk_80_2 : fk 80 2 = 84 := by decide +kernel
theorem fk_80_3 : fk 80 3 = 85 := by decide +kernel
theorem fk_80_4 : fk 80 4 = 86 := by decide +kernel
theorem fk_80_5 : fk 80 5 = 87 := by decide +kernel
theorem fk_80_6 : fk 80 6 = 88 := by decide +kernel
theorem fk_80_7 : fk 80 7 = 89 := by decide +kernel
theorem fk_88_0 : fk 88 0 = 0 := by decide +kernel
theorem fk_88_1 : fk 88 1 = 91 := by decide +kernel
theorem fk_88_2 : fk 88 2 = 92 := by decide +kernel
theorem fk_88_3 : fk 88 3 = 93 := by decide +kernel
theorem fk_88_4 : fk 88 4 = 94 := by decide +kernel
theorem fk_88_5 : fk 88 5 = 95 := by decide +kernel
theorem fk_88_6 : fk 88 6 = 0 := by decide +kernel
theorem fk_88_7 : fk 88 7 = 96 := by decide +kernel
theorem fk_95_0 : fk 95 0 = 98 := by decide +kernel
theorem fk_97_0 : fk 97 0 = 0 := by decide +kernel
theorem fk_97_1 : fk 97 1 = 100 := by decide +kernel
theorem fk_97_2 : fk 97 2 = 101 := by decide +kernel
theorem fk_97_3 : fk 97 3 = 102 := by decide +kernel
theorem fk_97_4 : fk 97 4 = 0 := by decide +kernel
theorem fk_97_5 : fk 97 5 = 0 := by decide +kernel
theorem fk_97_6 : fk 97 6 = 0 := by decide +kernel
theorem fk_97_7 : fk 97 7 = 0 := by decide +kernel
theorem fk_97_8 : fk 97 8 = 0 := by decide +kernel
theorem fk_97_9 : fk 97 9 = 0 := by decide +kernel
theorem fk_97_10 : fk 97 10 = 0 := by decide +kernel
theorem fk_97_11 : fk 97 11 = 0 := by decide +kernel
theorem fk_97_12 : fk 97 12 = 103 := by decide +kernel
theorem fk_97_13 : fk 97 13 = 104 := by decide +kernel
theorem fk_97_14 : fk 97 14 = 105 := by decide +kernel
theorem fk_97_15 : fk 97 15 = 106 := by decide +kernel
theorem fk_97_16 : fk 97 16 = 107 := by decide +kernel
theorem fk_97_17 : fk 97 17 = 108 := by decide +kernel
theorem fk_97_18 : fk 97 18 = 109 := by decide +kernel
theorem fk_97_19 : fk 97 19 = 110 := by decide +kernel
theorem fk_97_20 : fk 97 20 = 111 := by decide +kernel
theorem fk_97_21 : fk 97 21 = 112 := by decide +kernel
theorem fk_97_22 : fk 97 22 = 113 := by decide +kernel
theorem fk_97_23 : fk 97 23 = 114 := by decide +kernel
theorem fk_97_24 : fk 97 24 = 115 := by decide +kernel
theorem fk_97_25 : fk 97 25 = 116 := by decide +kernel
theorem fk_97_26 : fk 97 26 = 117 := by decide +kernel
theorem fk_97_27 : fk 97 27 = 118 := by decide +kernel
theorem fk_97_28 : fk 97 28 = 119 := by decide +kernel
theorem fk_97_29 : fk 97 29 = 120 := by decide +kernel
theorem fk_97_30 : fk 97 30 = 121 := by decide +kernel
theorem fk_97_31 : fk 97 31 = 122 := by decide +kernel
theorem fk_97_32 : fk 97 32 = 123 := by decide +kernel
theorem fk_97_33 : fk 97 33 = 0 := by decide +kernel
theorem fk_97_34 : fk 97 34 = 0 := by decide +kernel
theorem fk_97_35 : fk 97 35 = 0 := by decide +kernel
theorem fk_97_36 : fk 97 36 = 0 := by decide +kernel
theorem fk_97_37 : fk 97 37 = 0 := by decide +kernel
theorem fk_97_38 : fk 97 38 = 0 := by decide +kernel
theorem fk_97_39 : fk 97 39 = 0 := by decide +kernel
theorem fk_97_40 : fk 97 40 = 0 := by decide +kernel
theorem fk_97_41 : fk 97 41 = 0 := by decide +kernel
theorem fk_97_42 : fk 97 42 = 0 := by decide +kernel
theorem fk_97_43 : fk 97 43 = 0 := by decide +kernel
theorem fk_97_44 : fk 97 44 = 0 := by decide +kernel
theorem fk_97_45 : fk 97 45 = 124 := by decide +kernel
theorem fk_97_46 : fk 97 46 = 125 := by decide +kernel
theorem fk_97_47 : fk 97 47 = 126 := by decide +kernel
theorem fk_97_48 : fk 97 48 = 127 := by decide +kernel
theorem fk_97_49 : fk 97 49 = 128 := by decide +kernel
theorem fk_97_50 : fk 97 50 = 129 := by decide +kernel
theorem fk_97_51 : fk 97 51 = 130 := by decide +kernel
theorem fk_97_52 : fk 97 52 = 131 := by decide +kernel
theorem fk_97_53 : fk 97 53 = 132 := by decide +kernel
theorem fk_97_54 : fk 97 54 = 133 := by decide +kernel
theorem fk_97_55 : fk 97 55 = 134 := by decide +kernel
theorem fk_97_56 : fk 97 56 = 135 := by decide +kernel
theorem fk_97_57 : fk 97 57 = 136 := by decide +kernel
theorem fk_97_58 : fk 97 58 = 137 := by decide +kernel
theorem fk_97_59 : fk 97 59 = 138 := by decide +kernel
theorem fk_97_60 : fk 97 60 = 139 := by decide +kernel
theorem fk_97_61 : fk 97 61 = 140 := by decide +kernel
theorem fk_97_62 : fk 97 62 = 141 := by decide +kernel
theorem fk_97_63 : fk 97 63 = 142 := by decide +kernel
theorem fk_97_64 : fk 97 64 = 143 := by decide +kernel
theorem fk_97_65 : fk 97 65 = 144 := by decide +kernel
theorem fk_97_66 : fk 97 66 = 145 := by decide +kernel
theorem fk_97_67 : fk 97 67 = 146 := by decide +kernel
theorem fk_97_68 : fk 97 68 = 147 := by decide +kernel
theorem fk_97_69 : fk 97 69 = 148 := by decide +kernel
theorem fk_97_70 : fk 97 70 = 0 := by decide +kernel
theorem fk_97_71 : fk 97 71 = 149 := by decide +kernel
theorem fk_97_72 : fk 97 72 = 150 := by decide +kernel
theorem fk_97_73 : fk 97 73 = 151 := by decide +kernel
theorem fk_97_74 : fk 97 74 = 152 := by decide +kernel
theorem fk_97_75 : fk 97 75 = 153 := by decide +kernel
theorem fk_97_76 : fk 97 76 = 154 := by decide +kernel
theorem fk_97_77 : fk 97 77 = 155 := by decide +kernel
theorem fk_97_78 : fk 97 78 = 156 := by decide +kernel
theorem fk_97_79 : fk 97 79 = 157 := by decide +kernel
theorem fk_97_80 : fk 97 80 = 158 := by decide +kernel
theorem fk_97_81 : fk 97 81 = 159 := by decide +kernel
theorem fk_97_82 : fk 97 82 = 160 := by decide +kernel
theorem fk_97_83 : fk 97 83 = 0 := by decide +kernel
theorem fk_97_84 : fk 97 84 = 161 := by decide +kernel
theorem fk_97_85 : fk 97 85 = 162 := by decide +kernel
theorem fk_97_86 : fk 97 86 = 0 := by decide +kernel
theorem fk_97_87 : fk 97 87 = 163 := by decide +kernel
theorem fk_97_88 : fk 97 88 = 164 := by decide +kernel
theorem fk_97_89 : fk 97 89 = 165 := by decide +kernel
theorem fk_97_90 : fk 97 90 = 166 := by decide +kernel
theorem fk_97_91 : fk 97 91 = 167 := by decide +kernel
theorem fk_97_92 : fk 97 92 = 168 := by decide +kernel
theorem fk_97_93 : fk 97 93 = 169 := by decide +kernel
theorem fk_97_94 : fk 97 94 = 170 := by decide +kernel
theorem fk_97_95 : fk 97 95 = 171 := by decide +kernel
theorem fk_97_96 : fk 97 96 = 0 := by decide +kernel
theorem fk_97_97 : fk 97 97 = 0 := by decide +kernel
theorem fk_97_98 : fk 97 98 = 0 := by decide +kernel
theorem fk_97_99 : fk 97 99 = 172 := by decide +kernel
theorem fk_97_100 : fk 97 100 = 173 := by decide +kernel
theorem fk_97_101 : fk 97 101 = 174 := by decide +kernel
theorem fk_97_102 : fk 97 102 = 175 := by decide +kernel
theorem fk_97_103 : fk 97 103 = 176 := by decide +kernel
theorem fk_97_104 : fk 97 104 = 177 := by decide +kernel
theorem fk_97_105 : fk 97 105 = 0 := by decide +kernel
theorem fk_97_106 : fk 97 106 = 178 := by decide +kernel
theorem fk_97_107 : fk 97 107 = 179 := by decide +kernel
