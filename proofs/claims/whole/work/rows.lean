section
-- ===== PART A: goes FIRST, ahead of the names: the tables' words, and 'selects' of the private methods out of them =====
/-- a private method of a class that the tables say can be made, by its rows of tables_1 -/
def lw_okq (q : MethodName × Nat) : Prop := (q.1.cls ≠ "java/lang/invoke/MethodHandle" ∧ q.1.cls ≠ "java/lang/invoke/VarHandle") ∧ Cond.instantiable q.1.cls q.2 ∈ tables_1 ∧ Cond.privateMethod q.1 ∈ tables_1 ∧ Cond.instanceMethod q.1 ∈ tables_1
theorem lw_p0 : lw_okq (⟨"RuleText$Reader", "readSentence", "(LRuleText$Rule;)Z"⟩, 5) := ⟨⟨by decide +kernel, by decide +kernel⟩, List.mem_of_getElem? (i := 117) (by decide +kernel), List.mem_of_getElem? (i := 345) (by decide +kernel), List.mem_of_getElem? (i := 346) (by decide +kernel)⟩
theorem lw_p1 : lw_okq (⟨"RuleText$Reader", "findKind", "()LRuleText$Kind;"⟩, 5) := ⟨⟨by decide +kernel, by decide +kernel⟩, List.mem_of_getElem? (i := 117) (by decide +kernel), List.mem_of_getElem? (i := 349) (by decide +kernel), List.mem_of_getElem? (i := 350) (by decide +kernel)⟩
theorem lw_p2 : lw_okq (⟨"RuleText$Reader", "readScope", "(LRuleText$Rule;)Z"⟩, 5) := ⟨⟨by decide +kernel, by decide +kernel⟩, List.mem_of_getElem? (i := 117) (by decide +kernel), List.mem_of_getElem? (i := 412) (by decide +kernel), List.mem_of_getElem? (i := 413) (by decide +kernel)⟩
theorem lw_p3 : lw_okq (⟨"RuleText$Reader", "accept", "(Ljava/lang/String;)Z"⟩, 5) := ⟨⟨by decide +kernel, by decide +kernel⟩, List.mem_of_getElem? (i := 117) (by decide +kernel), List.mem_of_getElem? (i := 428) (by decide +kernel), List.mem_of_getElem? (i := 429) (by decide +kernel)⟩
theorem lw_p4 : lw_okq (⟨"RuleText$Reader", "readThing", "()I"⟩, 5) := ⟨⟨by decide +kernel, by decide +kernel⟩, List.mem_of_getElem? (i := 117) (by decide +kernel), List.mem_of_getElem? (i := 432) (by decide +kernel), List.mem_of_getElem? (i := 433) (by decide +kernel)⟩
theorem lw_p5 : lw_okq (⟨"RuleText$Names", "isNamed", "(ILRuleText$Words;)Z"⟩, 2) := ⟨⟨by decide +kernel, by decide +kernel⟩, List.mem_of_getElem? (i := 39) (by decide +kernel), List.mem_of_getElem? (i := 447) (by decide +kernel), List.mem_of_getElem? (i := 448) (by decide +kernel)⟩
theorem lw_p6 : lw_okq (⟨"RuleText$Reader", "readLayer", "(LRuleText$Rule;)Z"⟩, 5) := ⟨⟨by decide +kernel, by decide +kernel⟩, List.mem_of_getElem? (i := 117) (by decide +kernel), List.mem_of_getElem? (i := 453) (by decide +kernel), List.mem_of_getElem? (i := 454) (by decide +kernel)⟩
theorem lw_p7 : lw_okq (⟨"RuleText$Reader", "shortNumber", "()I"⟩, 5) := ⟨⟨by decide +kernel, by decide +kernel⟩, List.mem_of_getElem? (i := 117) (by decide +kernel), List.mem_of_getElem? (i := 459) (by decide +kernel), List.mem_of_getElem? (i := 460) (by decide +kernel)⟩
theorem lw_p8 : lw_okq (⟨"RuleText$Reader", "readArea", "(LRuleText$Rule;)Z"⟩, 5) := ⟨⟨by decide +kernel, by decide +kernel⟩, List.mem_of_getElem? (i := 117) (by decide +kernel), List.mem_of_getElem? (i := 474) (by decide +kernel), List.mem_of_getElem? (i := 475) (by decide +kernel)⟩
theorem lw_p9 : lw_okq (⟨"RuleText$Reader", "readRank", "(LRuleText$Rule;)Z"⟩, 5) := ⟨⟨by decide +kernel, by decide +kernel⟩, List.mem_of_getElem? (i := 117) (by decide +kernel), List.mem_of_getElem? (i := 479) (by decide +kernel), List.mem_of_getElem? (i := 480) (by decide +kernel)⟩
theorem lw_p10 : lw_okq (⟨"RuleText$Reader", "readSpan", "(LRuleText$Rule;)Z"⟩, 5) := ⟨⟨by decide +kernel, by decide +kernel⟩, List.mem_of_getElem? (i := 117) (by decide +kernel), List.mem_of_getElem? (i := 484) (by decide +kernel), List.mem_of_getElem? (i := 485) (by decide +kernel)⟩
theorem lw_p11 : lw_okq (⟨"RuleText$Reader", "readAmount", "(LRuleText$Amount;Z)Z"⟩, 5) := ⟨⟨by decide +kernel, by decide +kernel⟩, List.mem_of_getElem? (i := 117) (by decide +kernel), List.mem_of_getElem? (i := 490) (by decide +kernel), List.mem_of_getElem? (i := 491) (by decide +kernel)⟩
theorem lw_p12 : lw_okq (⟨"RuleText$Reader", "blame", "(LRuleText$Amount;)Z"⟩, 5) := ⟨⟨by decide +kernel, by decide +kernel⟩, List.mem_of_getElem? (i := 117) (by decide +kernel), List.mem_of_getElem? (i := 507) (by decide +kernel), List.mem_of_getElem? (i := 508) (by decide +kernel)⟩
theorem lw_p13 : lw_okq (⟨"RuleText$Reader", "readUnit", "(Z)Z"⟩, 5) := ⟨⟨by decide +kernel, by decide +kernel⟩, List.mem_of_getElem? (i := 117) (by decide +kernel), List.mem_of_getElem? (i := 512) (by decide +kernel), List.mem_of_getElem? (i := 513) (by decide +kernel)⟩
theorem lw_p14 : lw_okq (⟨"RuleText$Reader", "findUnit", "()LRuleText$Unit;"⟩, 5) := ⟨⟨by decide +kernel, by decide +kernel⟩, List.mem_of_getElem? (i := 117) (by decide +kernel), List.mem_of_getElem? (i := 516) (by decide +kernel), List.mem_of_getElem? (i := 517) (by decide +kernel)⟩
theorem lw_p15 : lw_okq (⟨"RuleText$RuleList", "isAhead", "(II)Z"⟩, 2) := ⟨⟨by decide +kernel, by decide +kernel⟩, List.mem_of_getElem? (i := 207) (by decide +kernel), List.mem_of_getElem? (i := 533) (by decide +kernel), List.mem_of_getElem? (i := 534) (by decide +kernel)⟩
def lw_privs_1 : List (MethodName × Nat) := [(⟨"RuleText$Reader", "readSentence", "(LRuleText$Rule;)Z"⟩, 5), (⟨"RuleText$Reader", "findKind", "()LRuleText$Kind;"⟩, 5), (⟨"RuleText$Reader", "readScope", "(LRuleText$Rule;)Z"⟩, 5), (⟨"RuleText$Reader", "accept", "(Ljava/lang/String;)Z"⟩, 5), (⟨"RuleText$Reader", "readThing", "()I"⟩, 5), (⟨"RuleText$Names", "isNamed", "(ILRuleText$Words;)Z"⟩, 2), (⟨"RuleText$Reader", "readLayer", "(LRuleText$Rule;)Z"⟩, 5), (⟨"RuleText$Reader", "shortNumber", "()I"⟩, 5), (⟨"RuleText$Reader", "readArea", "(LRuleText$Rule;)Z"⟩, 5), (⟨"RuleText$Reader", "readRank", "(LRuleText$Rule;)Z"⟩, 5), (⟨"RuleText$Reader", "readSpan", "(LRuleText$Rule;)Z"⟩, 5), (⟨"RuleText$Reader", "readAmount", "(LRuleText$Amount;Z)Z"⟩, 5), (⟨"RuleText$Reader", "blame", "(LRuleText$Amount;)Z"⟩, 5), (⟨"RuleText$Reader", "readUnit", "(Z)Z"⟩, 5), (⟨"RuleText$Reader", "findUnit", "()LRuleText$Unit;"⟩, 5), (⟨"RuleText$RuleList", "isAhead", "(II)Z"⟩, 2)]
theorem lw_r1 : ∀ q ∈ lw_privs_1, lw_okq q := List.forall_mem_cons.mpr ⟨lw_p0, List.forall_mem_cons.mpr ⟨lw_p1, List.forall_mem_cons.mpr ⟨lw_p2, List.forall_mem_cons.mpr ⟨lw_p3, List.forall_mem_cons.mpr ⟨lw_p4, List.forall_mem_cons.mpr ⟨lw_p5, List.forall_mem_cons.mpr ⟨lw_p6, List.forall_mem_cons.mpr ⟨lw_p7, List.forall_mem_cons.mpr ⟨lw_p8, List.forall_mem_cons.mpr ⟨lw_p9, List.forall_mem_cons.mpr ⟨lw_p10, List.forall_mem_cons.mpr ⟨lw_p11, List.forall_mem_cons.mpr ⟨lw_p12, List.forall_mem_cons.mpr ⟨lw_p13, List.forall_mem_cons.mpr ⟨lw_p14, List.forall_mem_cons.mpr ⟨lw_p15, fun _ h => absurd h List.not_mem_nil⟩⟩⟩⟩⟩⟩⟩⟩⟩⟩⟩⟩⟩⟩⟩⟩
theorem lw_p16 : lw_okq (⟨"RuleText$Rule", "coversKind", "(LRuleText$Rule;)Z"⟩, 9) := ⟨⟨by decide +kernel, by decide +kernel⟩, List.mem_of_getElem? (i := 214) (by decide +kernel), List.mem_of_getElem? (i := 542) (by decide +kernel), List.mem_of_getElem? (i := 543) (by decide +kernel)⟩
theorem lw_p17 : lw_okq (⟨"RuleText$Rule", "coversThings", "(LRuleText$Rule;)Z"⟩, 9) := ⟨⟨by decide +kernel, by decide +kernel⟩, List.mem_of_getElem? (i := 214) (by decide +kernel), List.mem_of_getElem? (i := 547) (by decide +kernel), List.mem_of_getElem? (i := 548) (by decide +kernel)⟩
theorem lw_p18 : lw_okq (⟨"RuleText$Rule", "coversLayer", "(LRuleText$Rule;)Z"⟩, 9) := ⟨⟨by decide +kernel, by decide +kernel⟩, List.mem_of_getElem? (i := 214) (by decide +kernel), List.mem_of_getElem? (i := 554) (by decide +kernel), List.mem_of_getElem? (i := 555) (by decide +kernel)⟩
theorem lw_p19 : lw_okq (⟨"RuleText$Rule", "coversArea", "(LRuleText$Rule;LRuleText$Shapes;)Z"⟩, 9) := ⟨⟨by decide +kernel, by decide +kernel⟩, List.mem_of_getElem? (i := 214) (by decide +kernel), List.mem_of_getElem? (i := 558) (by decide +kernel), List.mem_of_getElem? (i := 559) (by decide +kernel)⟩
theorem lw_p20 : lw_okq (⟨"java/lang/Throwable", "fillInStackTrace", "(I)Ljava/lang/Throwable;"⟩, 6) := ⟨⟨by decide +kernel, by decide +kernel⟩, List.mem_of_getElem? (i := 626) (by decide +kernel), List.mem_of_getElem? (i := 624) (by decide +kernel), List.mem_of_getElem? (i := 625) (by decide +kernel)⟩
theorem lw_p21 : lw_okq (⟨"RuleText$Rule", "reachesUpTo", "(LRuleText$Rule;)Z"⟩, 9) := ⟨⟨by decide +kernel, by decide +kernel⟩, List.mem_of_getElem? (i := 214) (by decide +kernel), List.mem_of_getElem? (i := 727) (by decide +kernel), List.mem_of_getElem? (i := 728) (by decide +kernel)⟩
theorem lw_p22 : lw_okq (⟨"RuleText$Writer", "writeSentence", "(LRuleText$Rule;)V"⟩, 2) := ⟨⟨by decide +kernel, by decide +kernel⟩, List.mem_of_getElem? (i := 160) (by decide +kernel), List.mem_of_getElem? (i := 988) (by decide +kernel), List.mem_of_getElem? (i := 989) (by decide +kernel)⟩
theorem lw_p23 : lw_okq (⟨"RuleText$Writer", "writeScope", "(LRuleText$Rule;)V"⟩, 2) := ⟨⟨by decide +kernel, by decide +kernel⟩, List.mem_of_getElem? (i := 160) (by decide +kernel), List.mem_of_getElem? (i := 993) (by decide +kernel), List.mem_of_getElem? (i := 994) (by decide +kernel)⟩
theorem lw_p24 : lw_okq (⟨"RuleText$Writer", "writeThing", "(I)V"⟩, 2) := ⟨⟨by decide +kernel, by decide +kernel⟩, List.mem_of_getElem? (i := 160) (by decide +kernel), List.mem_of_getElem? (i := 1001) (by decide +kernel), List.mem_of_getElem? (i := 1002) (by decide +kernel)⟩
theorem lw_p25 : lw_okq (⟨"RuleText$Writer", "writeName", "(I)V"⟩, 2) := ⟨⟨by decide +kernel, by decide +kernel⟩, List.mem_of_getElem? (i := 160) (by decide +kernel), List.mem_of_getElem? (i := 1009) (by decide +kernel), List.mem_of_getElem? (i := 1010) (by decide +kernel)⟩
theorem lw_p26 : lw_okq (⟨"RuleText$Writer", "writeLayer", "(I)V"⟩, 2) := ⟨⟨by decide +kernel, by decide +kernel⟩, List.mem_of_getElem? (i := 160) (by decide +kernel), List.mem_of_getElem? (i := 1027) (by decide +kernel), List.mem_of_getElem? (i := 1028) (by decide +kernel)⟩
theorem lw_p27 : lw_okq (⟨"RuleText$Writer", "writeArea", "(I)V"⟩, 2) := ⟨⟨by decide +kernel, by decide +kernel⟩, List.mem_of_getElem? (i := 160) (by decide +kernel), List.mem_of_getElem? (i := 1036) (by decide +kernel), List.mem_of_getElem? (i := 1037) (by decide +kernel)⟩
theorem lw_p28 : lw_okq (⟨"RuleText$Writer", "writeRank", "(I)V"⟩, 2) := ⟨⟨by decide +kernel, by decide +kernel⟩, List.mem_of_getElem? (i := 160) (by decide +kernel), List.mem_of_getElem? (i := 1042) (by decide +kernel), List.mem_of_getElem? (i := 1043) (by decide +kernel)⟩
theorem lw_p29 : lw_okq (⟨"RuleText$Writer", "writeSpan", "(LRuleText$Rule;)V"⟩, 2) := ⟨⟨by decide +kernel, by decide +kernel⟩, List.mem_of_getElem? (i := 160) (by decide +kernel), List.mem_of_getElem? (i := 1047) (by decide +kernel), List.mem_of_getElem? (i := 1048) (by decide +kernel)⟩
theorem lw_p30 : lw_okq (⟨"RuleText$Writer", "writeNumber", "(J)V"⟩, 2) := ⟨⟨by decide +kernel, by decide +kernel⟩, List.mem_of_getElem? (i := 160) (by decide +kernel), List.mem_of_getElem? (i := 1054) (by decide +kernel), List.mem_of_getElem? (i := 1055) (by decide +kernel)⟩
theorem lw_p31 : lw_okq (⟨"RuleTextModel", "findWords", "()V"⟩, 18) := ⟨⟨by decide +kernel, by decide +kernel⟩, List.mem_of_getElem? (i := 1075) (by decide +kernel), List.mem_of_getElem? (i := 1166) (by decide +kernel), List.mem_of_getElem? (i := 1167) (by decide +kernel)⟩
def lw_privs_2 : List (MethodName × Nat) := [(⟨"RuleText$Rule", "coversKind", "(LRuleText$Rule;)Z"⟩, 9), (⟨"RuleText$Rule", "coversThings", "(LRuleText$Rule;)Z"⟩, 9), (⟨"RuleText$Rule", "coversLayer", "(LRuleText$Rule;)Z"⟩, 9), (⟨"RuleText$Rule", "coversArea", "(LRuleText$Rule;LRuleText$Shapes;)Z"⟩, 9), (⟨"java/lang/Throwable", "fillInStackTrace", "(I)Ljava/lang/Throwable;"⟩, 6), (⟨"RuleText$Rule", "reachesUpTo", "(LRuleText$Rule;)Z"⟩, 9), (⟨"RuleText$Writer", "writeSentence", "(LRuleText$Rule;)V"⟩, 2), (⟨"RuleText$Writer", "writeScope", "(LRuleText$Rule;)V"⟩, 2), (⟨"RuleText$Writer", "writeThing", "(I)V"⟩, 2), (⟨"RuleText$Writer", "writeName", "(I)V"⟩, 2), (⟨"RuleText$Writer", "writeLayer", "(I)V"⟩, 2), (⟨"RuleText$Writer", "writeArea", "(I)V"⟩, 2), (⟨"RuleText$Writer", "writeRank", "(I)V"⟩, 2), (⟨"RuleText$Writer", "writeSpan", "(LRuleText$Rule;)V"⟩, 2), (⟨"RuleText$Writer", "writeNumber", "(J)V"⟩, 2), (⟨"RuleTextModel", "findWords", "()V"⟩, 18)]
theorem lw_r2 : ∀ q ∈ lw_privs_2, lw_okq q := List.forall_mem_cons.mpr ⟨lw_p16, List.forall_mem_cons.mpr ⟨lw_p17, List.forall_mem_cons.mpr ⟨lw_p18, List.forall_mem_cons.mpr ⟨lw_p19, List.forall_mem_cons.mpr ⟨lw_p20, List.forall_mem_cons.mpr ⟨lw_p21, List.forall_mem_cons.mpr ⟨lw_p22, List.forall_mem_cons.mpr ⟨lw_p23, List.forall_mem_cons.mpr ⟨lw_p24, List.forall_mem_cons.mpr ⟨lw_p25, List.forall_mem_cons.mpr ⟨lw_p26, List.forall_mem_cons.mpr ⟨lw_p27, List.forall_mem_cons.mpr ⟨lw_p28, List.forall_mem_cons.mpr ⟨lw_p29, List.forall_mem_cons.mpr ⟨lw_p30, List.forall_mem_cons.mpr ⟨lw_p31, fun _ h => absurd h List.not_mem_nil⟩⟩⟩⟩⟩⟩⟩⟩⟩⟩⟩⟩⟩⟩⟩⟩
theorem lw_p32 : lw_okq (⟨"RuleTextModel", "good", "()Z"⟩, 18) := ⟨⟨by decide +kernel, by decide +kernel⟩, List.mem_of_getElem? (i := 1075) (by decide +kernel), List.mem_of_getElem? (i := 1173) (by decide +kernel), List.mem_of_getElem? (i := 1174) (by decide +kernel)⟩
theorem lw_p33 : lw_okq (⟨"RuleTextModel", "fail", "(I)V"⟩, 18) := ⟨⟨by decide +kernel, by decide +kernel⟩, List.mem_of_getElem? (i := 1075) (by decide +kernel), List.mem_of_getElem? (i := 1177) (by decide +kernel), List.mem_of_getElem? (i := 1178) (by decide +kernel)⟩
theorem lw_p34 : lw_okq (⟨"RuleTextModel", "sentence", "()V"⟩, 18) := ⟨⟨by decide +kernel, by decide +kernel⟩, List.mem_of_getElem? (i := 1075) (by decide +kernel), List.mem_of_getElem? (i := 1181) (by decide +kernel), List.mem_of_getElem? (i := 1182) (by decide +kernel)⟩
theorem lw_p35 : lw_okq (⟨"RuleTextModel", "spelt", "()J"⟩, 18) := ⟨⟨by decide +kernel, by decide +kernel⟩, List.mem_of_getElem? (i := 1075) (by decide +kernel), List.mem_of_getElem? (i := 1185) (by decide +kernel), List.mem_of_getElem? (i := 1186) (by decide +kernel)⟩
theorem lw_p36 : lw_okq (⟨"RuleTextModel", "length", "()I"⟩, 18) := ⟨⟨by decide +kernel, by decide +kernel⟩, List.mem_of_getElem? (i := 1075) (by decide +kernel), List.mem_of_getElem? (i := 1189) (by decide +kernel), List.mem_of_getElem? (i := 1190) (by decide +kernel)⟩
theorem lw_p37 : lw_okq (⟨"RuleTextModel", "lineOf", "(I)I"⟩, 18) := ⟨⟨by decide +kernel, by decide +kernel⟩, List.mem_of_getElem? (i := 1075) (by decide +kernel), List.mem_of_getElem? (i := 1200) (by decide +kernel), List.mem_of_getElem? (i := 1201) (by decide +kernel)⟩
theorem lw_p38 : lw_okq (⟨"RuleTextModel", "thing", "(I)V"⟩, 18) := ⟨⟨by decide +kernel, by decide +kernel⟩, List.mem_of_getElem? (i := 1075) (by decide +kernel), List.mem_of_getElem? (i := 1204) (by decide +kernel), List.mem_of_getElem? (i := 1205) (by decide +kernel)⟩
theorem lw_p39 : lw_okq (⟨"RuleTextModel", "took", "(J)Z"⟩, 18) := ⟨⟨by decide +kernel, by decide +kernel⟩, List.mem_of_getElem? (i := 1075) (by decide +kernel), List.mem_of_getElem? (i := 1208) (by decide +kernel), List.mem_of_getElem? (i := 1209) (by decide +kernel)⟩
theorem lw_p40 : lw_okq (⟨"RuleTextModel", "named", "(I)I"⟩, 18) := ⟨⟨by decide +kernel, by decide +kernel⟩, List.mem_of_getElem? (i := 1075) (by decide +kernel), List.mem_of_getElem? (i := 1212) (by decide +kernel), List.mem_of_getElem? (i := 1213) (by decide +kernel)⟩
theorem lw_p41 : lw_okq (⟨"RuleTextModel", "expect", "(J)V"⟩, 18) := ⟨⟨by decide +kernel, by decide +kernel⟩, List.mem_of_getElem? (i := 1075) (by decide +kernel), List.mem_of_getElem? (i := 1217) (by decide +kernel), List.mem_of_getElem? (i := 1218) (by decide +kernel)⟩
theorem lw_p42 : lw_okq (⟨"RuleTextModel", "layer", "()V"⟩, 18) := ⟨⟨by decide +kernel, by decide +kernel⟩, List.mem_of_getElem? (i := 1075) (by decide +kernel), List.mem_of_getElem? (i := 1223) (by decide +kernel), List.mem_of_getElem? (i := 1224) (by decide +kernel)⟩
theorem lw_p43 : lw_okq (⟨"RuleTextModel", "small", "(II)I"⟩, 18) := ⟨⟨by decide +kernel, by decide +kernel⟩, List.mem_of_getElem? (i := 1075) (by decide +kernel), List.mem_of_getElem? (i := 1230) (by decide +kernel), List.mem_of_getElem? (i := 1231) (by decide +kernel)⟩
theorem lw_p44 : lw_okq (⟨"RuleTextModel", "value", "()V"⟩, 18) := ⟨⟨by decide +kernel, by decide +kernel⟩, List.mem_of_getElem? (i := 1075) (by decide +kernel), List.mem_of_getElem? (i := 1235) (by decide +kernel), List.mem_of_getElem? (i := 1236) (by decide +kernel)⟩
theorem lw_p45 : lw_okq (⟨"RuleTextModel", "number", "()V"⟩, 18) := ⟨⟨by decide +kernel, by decide +kernel⟩, List.mem_of_getElem? (i := 1075) (by decide +kernel), List.mem_of_getElem? (i := 1239) (by decide +kernel), List.mem_of_getElem? (i := 1240) (by decide +kernel)⟩
theorem lw_p46 : lw_okq (⟨"RuleTextModel", "tookNumber", "()Z"⟩, 18) := ⟨⟨by decide +kernel, by decide +kernel⟩, List.mem_of_getElem? (i := 1075) (by decide +kernel), List.mem_of_getElem? (i := 1243) (by decide +kernel), List.mem_of_getElem? (i := 1244) (by decide +kernel)⟩
theorem lw_p47 : lw_okq (⟨"RuleTextModel", "bare", "(JI)V"⟩, 18) := ⟨⟨by decide +kernel, by decide +kernel⟩, List.mem_of_getElem? (i := 1075) (by decide +kernel), List.mem_of_getElem? (i := 1249) (by decide +kernel), List.mem_of_getElem? (i := 1250) (by decide +kernel)⟩
def lw_privs_3 : List (MethodName × Nat) := [(⟨"RuleTextModel", "good", "()Z"⟩, 18), (⟨"RuleTextModel", "fail", "(I)V"⟩, 18), (⟨"RuleTextModel", "sentence", "()V"⟩, 18), (⟨"RuleTextModel", "spelt", "()J"⟩, 18), (⟨"RuleTextModel", "length", "()I"⟩, 18), (⟨"RuleTextModel", "lineOf", "(I)I"⟩, 18), (⟨"RuleTextModel", "thing", "(I)V"⟩, 18), (⟨"RuleTextModel", "took", "(J)Z"⟩, 18), (⟨"RuleTextModel", "named", "(I)I"⟩, 18), (⟨"RuleTextModel", "expect", "(J)V"⟩, 18), (⟨"RuleTextModel", "layer", "()V"⟩, 18), (⟨"RuleTextModel", "small", "(II)I"⟩, 18), (⟨"RuleTextModel", "value", "()V"⟩, 18), (⟨"RuleTextModel", "number", "()V"⟩, 18), (⟨"RuleTextModel", "tookNumber", "()Z"⟩, 18), (⟨"RuleTextModel", "bare", "(JI)V"⟩, 18)]
theorem lw_r3 : ∀ q ∈ lw_privs_3, lw_okq q := List.forall_mem_cons.mpr ⟨lw_p32, List.forall_mem_cons.mpr ⟨lw_p33, List.forall_mem_cons.mpr ⟨lw_p34, List.forall_mem_cons.mpr ⟨lw_p35, List.forall_mem_cons.mpr ⟨lw_p36, List.forall_mem_cons.mpr ⟨lw_p37, List.forall_mem_cons.mpr ⟨lw_p38, List.forall_mem_cons.mpr ⟨lw_p39, List.forall_mem_cons.mpr ⟨lw_p40, List.forall_mem_cons.mpr ⟨lw_p41, List.forall_mem_cons.mpr ⟨lw_p42, List.forall_mem_cons.mpr ⟨lw_p43, List.forall_mem_cons.mpr ⟨lw_p44, List.forall_mem_cons.mpr ⟨lw_p45, List.forall_mem_cons.mpr ⟨lw_p46, List.forall_mem_cons.mpr ⟨lw_p47, fun _ h => absurd h List.not_mem_nil⟩⟩⟩⟩⟩⟩⟩⟩⟩⟩⟩⟩⟩⟩⟩⟩
theorem lw_p48 : lw_okq (⟨"RuleTextModel", "isBare", "()Z"⟩, 18) := ⟨⟨by decide +kernel, by decide +kernel⟩, List.mem_of_getElem? (i := 1075) (by decide +kernel), List.mem_of_getElem? (i := 1253) (by decide +kernel), List.mem_of_getElem? (i := 1254) (by decide +kernel)⟩
theorem lw_p49 : lw_okq (⟨"RuleTextModel", "unitOf", "()J"⟩, 18) := ⟨⟨by decide +kernel, by decide +kernel⟩, List.mem_of_getElem? (i := 1075) (by decide +kernel), List.mem_of_getElem? (i := 1262) (by decide +kernel), List.mem_of_getElem? (i := 1263) (by decide +kernel)⟩
theorem lw_p50 : lw_okq (⟨"RuleTextModel", "whole", "(JJI)J"⟩, 18) := ⟨⟨by decide +kernel, by decide +kernel⟩, List.mem_of_getElem? (i := 1075) (by decide +kernel), List.mem_of_getElem? (i := 1269) (by decide +kernel), List.mem_of_getElem? (i := 1270) (by decide +kernel)⟩
theorem lw_p51 : lw_okq (⟨"RuleTextModel", "isSemicolon", "()Z"⟩, 18) := ⟨⟨by decide +kernel, by decide +kernel⟩, List.mem_of_getElem? (i := 1075) (by decide +kernel), List.mem_of_getElem? (i := 1273) (by decide +kernel), List.mem_of_getElem? (i := 1274) (by decide +kernel)⟩
theorem lw_p52 : lw_okq (⟨"RuleTextModel", "isRule", "(I)Z"⟩, 18) := ⟨⟨by decide +kernel, by decide +kernel⟩, List.mem_of_getElem? (i := 1075) (by decide +kernel), List.mem_of_getElem? (i := 1281) (by decide +kernel), List.mem_of_getElem? (i := 1282) (by decide +kernel)⟩
theorem lw_p53 : lw_okq (⟨"RuleTextModel", "isAhead", "(II)Z"⟩, 18) := ⟨⟨by decide +kernel, by decide +kernel⟩, List.mem_of_getElem? (i := 1075) (by decide +kernel), List.mem_of_getElem? (i := 1293) (by decide +kernel), List.mem_of_getElem? (i := 1294) (by decide +kernel)⟩
theorem lw_p54 : lw_okq (⟨"RuleTextModel", "covers", "(II)Z"⟩, 18) := ⟨⟨by decide +kernel, by decide +kernel⟩, List.mem_of_getElem? (i := 1075) (by decide +kernel), List.mem_of_getElem? (i := 1302) (by decide +kernel), List.mem_of_getElem? (i := 1303) (by decide +kernel)⟩
theorem lw_p55 : lw_okq (⟨"RuleTextModel", "isLike", "(IIII)Z"⟩, 18) := ⟨⟨by decide +kernel, by decide +kernel⟩, List.mem_of_getElem? (i := 1075) (by decide +kernel), List.mem_of_getElem? (i := 1306) (by decide +kernel), List.mem_of_getElem? (i := 1307) (by decide +kernel)⟩
theorem lw_p56 : lw_okq (⟨"RuleTextModel", "holds", "(JJ)Z"⟩, 18) := ⟨⟨by decide +kernel, by decide +kernel⟩, List.mem_of_getElem? (i := 1075) (by decide +kernel), List.mem_of_getElem? (i := 1310) (by decide +kernel), List.mem_of_getElem? (i := 1311) (by decide +kernel)⟩
theorem lw_p57 : lw_okq (⟨"RuleTextModel", "isClash", "(II)Z"⟩, 18) := ⟨⟨by decide +kernel, by decide +kernel⟩, List.mem_of_getElem? (i := 1075) (by decide +kernel), List.mem_of_getElem? (i := 1318) (by decide +kernel), List.mem_of_getElem? (i := 1319) (by decide +kernel)⟩
theorem lw_p58 : lw_okq (⟨"RuleTextModel", "sayRule", "(I)V"⟩, 18) := ⟨⟨by decide +kernel, by decide +kernel⟩, List.mem_of_getElem? (i := 1075) (by decide +kernel), List.mem_of_getElem? (i := 1334) (by decide +kernel), List.mem_of_getElem? (i := 1335) (by decide +kernel)⟩
theorem lw_p59 : lw_okq (⟨"RuleTextModel", "sayWord", "(J)V"⟩, 18) := ⟨⟨by decide +kernel, by decide +kernel⟩, List.mem_of_getElem? (i := 1075) (by decide +kernel), List.mem_of_getElem? (i := 1338) (by decide +kernel), List.mem_of_getElem? (i := 1339) (by decide +kernel)⟩
theorem lw_p60 : lw_okq (⟨"RuleTextModel", "say", "(I)V"⟩, 18) := ⟨⟨by decide +kernel, by decide +kernel⟩, List.mem_of_getElem? (i := 1075) (by decide +kernel), List.mem_of_getElem? (i := 1342) (by decide +kernel), List.mem_of_getElem? (i := 1343) (by decide +kernel)⟩
theorem lw_p61 : lw_okq (⟨"RuleTextModel", "sayThing", "(I)V"⟩, 18) := ⟨⟨by decide +kernel, by decide +kernel⟩, List.mem_of_getElem? (i := 1075) (by decide +kernel), List.mem_of_getElem? (i := 1347) (by decide +kernel), List.mem_of_getElem? (i := 1348) (by decide +kernel)⟩
theorem lw_p62 : lw_okq (⟨"RuleTextModel", "sayName", "(IJ)V"⟩, 18) := ⟨⟨by decide +kernel, by decide +kernel⟩, List.mem_of_getElem? (i := 1075) (by decide +kernel), List.mem_of_getElem? (i := 1351) (by decide +kernel), List.mem_of_getElem? (i := 1352) (by decide +kernel)⟩
theorem lw_p63 : lw_okq (⟨"RuleTextModel", "sayRest", "(I)V"⟩, 18) := ⟨⟨by decide +kernel, by decide +kernel⟩, List.mem_of_getElem? (i := 1075) (by decide +kernel), List.mem_of_getElem? (i := 1355) (by decide +kernel), List.mem_of_getElem? (i := 1356) (by decide +kernel)⟩
def lw_privs_4 : List (MethodName × Nat) := [(⟨"RuleTextModel", "isBare", "()Z"⟩, 18), (⟨"RuleTextModel", "unitOf", "()J"⟩, 18), (⟨"RuleTextModel", "whole", "(JJI)J"⟩, 18), (⟨"RuleTextModel", "isSemicolon", "()Z"⟩, 18), (⟨"RuleTextModel", "isRule", "(I)Z"⟩, 18), (⟨"RuleTextModel", "isAhead", "(II)Z"⟩, 18), (⟨"RuleTextModel", "covers", "(II)Z"⟩, 18), (⟨"RuleTextModel", "isLike", "(IIII)Z"⟩, 18), (⟨"RuleTextModel", "holds", "(JJ)Z"⟩, 18), (⟨"RuleTextModel", "isClash", "(II)Z"⟩, 18), (⟨"RuleTextModel", "sayRule", "(I)V"⟩, 18), (⟨"RuleTextModel", "sayWord", "(J)V"⟩, 18), (⟨"RuleTextModel", "say", "(I)V"⟩, 18), (⟨"RuleTextModel", "sayThing", "(I)V"⟩, 18), (⟨"RuleTextModel", "sayName", "(IJ)V"⟩, 18), (⟨"RuleTextModel", "sayRest", "(I)V"⟩, 18)]
theorem lw_r4 : ∀ q ∈ lw_privs_4, lw_okq q := List.forall_mem_cons.mpr ⟨lw_p48, List.forall_mem_cons.mpr ⟨lw_p49, List.forall_mem_cons.mpr ⟨lw_p50, List.forall_mem_cons.mpr ⟨lw_p51, List.forall_mem_cons.mpr ⟨lw_p52, List.forall_mem_cons.mpr ⟨lw_p53, List.forall_mem_cons.mpr ⟨lw_p54, List.forall_mem_cons.mpr ⟨lw_p55, List.forall_mem_cons.mpr ⟨lw_p56, List.forall_mem_cons.mpr ⟨lw_p57, List.forall_mem_cons.mpr ⟨lw_p58, List.forall_mem_cons.mpr ⟨lw_p59, List.forall_mem_cons.mpr ⟨lw_p60, List.forall_mem_cons.mpr ⟨lw_p61, List.forall_mem_cons.mpr ⟨lw_p62, List.forall_mem_cons.mpr ⟨lw_p63, fun _ h => absurd h List.not_mem_nil⟩⟩⟩⟩⟩⟩⟩⟩⟩⟩⟩⟩⟩⟩⟩⟩
theorem lw_p64 : lw_okq (⟨"RuleTextModel", "sayNumber", "(J)V"⟩, 18) := ⟨⟨by decide +kernel, by decide +kernel⟩, List.mem_of_getElem? (i := 1075) (by decide +kernel), List.mem_of_getElem? (i := 1359) (by decide +kernel), List.mem_of_getElem? (i := 1360) (by decide +kernel)⟩
def lw_privs_5 : List (MethodName × Nat) := [(⟨"RuleTextModel", "sayNumber", "(J)V"⟩, 18)]
theorem lw_r5 : ∀ q ∈ lw_privs_5, lw_okq q := List.forall_mem_cons.mpr ⟨lw_p64, fun _ h => absurd h List.not_mem_nil⟩
def lw_privs : List (MethodName × Nat) := lw_privs_1 ++ (lw_privs_2 ++ (lw_privs_3 ++ (lw_privs_4 ++ (lw_privs_5))))
def lw_tbl : List Cond := k2_sels lw_privs ++ tables_1
theorem lw_privs_ok : ∀ q ∈ lw_privs, lw_okq q := by
  show ∀ q ∈ lw_privs_1 ++ (lw_privs_2 ++ (lw_privs_3 ++ (lw_privs_4 ++ (lw_privs_5)))), lw_okq q
  exact List.forall_mem_append.mpr ⟨lw_r1, List.forall_mem_append.mpr ⟨lw_r2, List.forall_mem_append.mpr ⟨lw_r3, List.forall_mem_append.mpr ⟨lw_r4, lw_r5⟩⟩⟩⟩
end
section
/-! NAMES: the words, the classes, the methods -/
def rx_TB : List Cond := lw_tbl.filter goodWord
theorem rx_good : ∀ w ∈ rx_TB, goodWord w = true := fun w h => (List.mem_filter.mp h).2
theorem rx_in {w : Cond} (h : w ∈ tables_1) (hg : goodWord w = true) : w ∈ rx_TB := List.mem_filter.mpr ⟨List.mem_append_right _ h, hg⟩
theorem rx_inp {w : Cond} (h : w ∈ k2_sels lw_privs) (hg : goodWord w = true) : w ∈ rx_TB := List.mem_filter.mpr ⟨List.mem_append_left _ h, hg⟩
theorem tm_1 {w : Cond} (h : w ∈ tables_1_1) : w ∈ tables_1 := List.mem_append_left _ h
theorem tm_2 {w : Cond} (h : w ∈ tables_1_2) : w ∈ tables_1 := List.mem_append_right _ (List.mem_append_left _ h)
theorem tm_3 {w : Cond} (h : w ∈ tables_1_3) : w ∈ tables_1 := List.mem_append_right _ (List.mem_append_right _ (List.mem_append_left _ h))
theorem tm_4 {w : Cond} (h : w ∈ tables_1_4) : w ∈ tables_1 := List.mem_append_right _ (List.mem_append_right _ (List.mem_append_right _ (List.mem_append_left _ h)))
theorem tm_5 {w : Cond} (h : w ∈ tables_1_5) : w ∈ tables_1 := List.mem_append_right _ (List.mem_append_right _ (List.mem_append_right _ (List.mem_append_right _ (List.mem_append_left _ h))))
theorem tm_6 {w : Cond} (h : w ∈ tables_1_6) : w ∈ tables_1 := List.mem_append_right _ (List.mem_append_right _ (List.mem_append_right _ (List.mem_append_right _ (List.mem_append_right _ h))))
def R_RT : String := "RuleText"
def F_RT : u_T := fun k => match k with
  | 0 => ("RuleText", "names", "LRuleText$Names;", true)
  | 1 => ("RuleText", "shapes", "LRuleText$Shapes;", true)
  | 2 => ("RuleText", "words", "LRuleText$Words;", true)
  | 3 => ("RuleText", "reader", "LRuleText$Reader;", true)
  | 4 => ("RuleText", "writer", "LRuleText$Writer;", true)
  | 5 => ("RuleText", "rules", "LRuleText$RuleList;", false)
  | 6 => ("RuleText", "spare", "LRuleText$RuleList;", false)
  | _ => ("RuleText", "writtenIsOld", "Z", false)
def t_RT : Nat → FieldType := fun k => match k with
  | 0 => .object "RuleText$Names"
  | 1 => .object "RuleText$Shapes"
  | 2 => .object "RuleText$Words"
  | 3 => .object "RuleText$Reader"
  | 4 => .object "RuleText$Writer"
  | 5 => .object "RuleText$RuleList"
  | 6 => .object "RuleText$RuleList"
  | _ => .boolean
def R_Am : String := "RuleText$Amount"
def F_Am : u_T := fun k => match k with
  | 0 => ("RuleText$Amount", "word", "I", false)
  | 1 => ("RuleText$Amount", "whole", "J", false)
  | 2 => ("RuleText$Amount", "millionths", "J", false)
  | _ => ("RuleText$Amount", "worth", "J", false)
def t_Am : Nat → FieldType := fun k => match k with
  | 0 => .int
  | 1 => .long
  | 2 => .long
  | _ => .long
def R_Na : String := "RuleText$Names"
def F_Na : u_T := fun k => match k with
  | 0 => ("RuleText$Names", "letters", "[C", true)
  | _ => ("RuleText$Names", "lengths", "[I", true)
def t_Na : Nat → FieldType := fun k => match k with
  | 0 => .array .char
  | _ => .array .int
def R_Rd : String := "RuleText$Reader"
def F_Rd : u_T := fun k => match k with
  | 0 => ("RuleText$Reader", "words", "LRuleText$Words;", true)
  | 1 => ("RuleText$Reader", "names", "LRuleText$Names;", true)
  | 2 => ("RuleText$Reader", "low", "LRuleText$Amount;", true)
  | 3 => ("RuleText$Reader", "high", "LRuleText$Amount;", true)
  | _ => ("RuleText$Reader", "passedWrong", "I", false)
def t_Rd : Nat → FieldType := fun k => match k with
  | 0 => .object "RuleText$Words"
  | 1 => .object "RuleText$Names"
  | 2 => .object "RuleText$Amount"
  | 3 => .object "RuleText$Amount"
  | _ => .int
def R_Ru : String := "RuleText$Rule"
def F_Ru : u_T := fun k => match k with
  | 0 => ("RuleText$Rule", "kind", "LRuleText$Kind;", false)
  | 1 => ("RuleText$Rule", "first", "I", false)
  | 2 => ("RuleText$Rule", "second", "I", false)
  | 3 => ("RuleText$Rule", "layer", "I", false)
  | 4 => ("RuleText$Rule", "area", "I", false)
  | 5 => ("RuleText$Rule", "rank", "I", false)
  | 6 => ("RuleText$Rule", "low", "J", false)
  | 7 => ("RuleText$Rule", "high", "J", false)
  | _ => ("RuleText$Rule", "line", "I", false)
def t_Ru : Nat → FieldType := fun k => match k with
  | 0 => .object "RuleText$Kind"
  | 1 => .int
  | 2 => .int
  | 3 => .int
  | 4 => .int
  | 5 => .int
  | 6 => .long
  | 7 => .long
  | _ => .int
def R_RL : String := "RuleText$RuleList"
def F_RL : u_T := fun k => match k with
  | 0 => ("RuleText$RuleList", "items", "[LRuleText$Rule;", true)
  | _ => ("RuleText$RuleList", "count", "I", false)
def t_RL : Nat → FieldType := fun k => match k with
  | 0 => .array (.object "RuleText$Rule")
  | _ => .int
def R_Sh : String := "RuleText$Shapes"
def F_Sh : u_T := fun k => match k with
  | 0 => ("RuleText$Shapes", "told", "[Z", true)
  | 1 => ("RuleText$Shapes", "left", "[J", true)
  | 2 => ("RuleText$Shapes", "below", "[J", true)
  | 3 => ("RuleText$Shapes", "right", "[J", true)
  | _ => ("RuleText$Shapes", "above", "[J", true)
def t_Sh : Nat → FieldType := fun k => match k with
  | 0 => .array .boolean
  | 1 => .array .long
  | 2 => .array .long
  | 3 => .array .long
  | _ => .array .long
def R_Wo : String := "RuleText$Words"
def F_Wo : u_T := fun k => match k with
  | 0 => ("RuleText$Words", "letters", "[C", true)
  | 1 => ("RuleText$Words", "length", "I", false)
  | 2 => ("RuleText$Words", "start", "I", false)
  | 3 => ("RuleText$Words", "end", "I", false)
  | 4 => ("RuleText$Words", "number", "I", false)
  | _ => ("RuleText$Words", "line", "I", false)
def t_Wo : Nat → FieldType := fun k => match k with
  | 0 => .array .char
  | 1 => .int
  | 2 => .int
  | 3 => .int
  | 4 => .int
  | _ => .int
def R_Wr : String := "RuleText$Writer"
def F_Wr : u_T := fun k => match k with
  | 0 => ("RuleText$Writer", "out", "Ljava/lang/StringBuilder;", true)
  | _ => ("RuleText$Writer", "names", "LRuleText$Names;", true)
def t_Wr : Nat → FieldType := fun k => match k with
  | 0 => .object "java/lang/StringBuilder"
  | _ => .object "RuleText$Names"
def R_Mo : String := "RuleTextModel"
def F_Mo : u_T := fun k => match k with
  | 0 => ("RuleTextModel", "thrown", "I", false)
  | 1 => ("RuleTextModel", "text", "[I", true)
  | 2 => ("RuleTextModel", "size", "I", false)
  | 3 => ("RuleTextModel", "nameSizes", "[I", true)
  | 4 => ("RuleTextModel", "letters", "[I", true)
  | 5 => ("RuleTextModel", "hasShape", "[Z", true)
  | 6 => ("RuleTextModel", "shapes", "[J", true)
  | 7 => ("RuleTextModel", "rules", "I", false)
  | 8 => ("RuleTextModel", "row", "[J", true)
  | 9 => ("RuleTextModel", "words", "I", false)
  | 10 => ("RuleTextModel", "begins", "[I", true)
  | 11 => ("RuleTextModel", "ends", "[I", true)
  | 12 => ("RuleTextModel", "w", "I", false)
  | 13 => ("RuleTextModel", "wrong", "I", false)
  | 14 => ("RuleTextModel", "at", "I", false)
  | 15 => ("RuleTextModel", "out", "[I", true)
  | 16 => ("RuleTextModel", "written", "I", false)
  | _ => ("RuleTextModel", "millionths", "J", false)
def t_Mo : Nat → FieldType := fun k => match k with
  | 0 => .int
  | 1 => .array .int
  | 2 => .int
  | 3 => .array .int
  | 4 => .array .int
  | 5 => .array .boolean
  | 6 => .array .long
  | 7 => .int
  | 8 => .array .long
  | 9 => .int
  | 10 => .array .int
  | 11 => .array .int
  | 12 => .int
  | 13 => .int
  | 14 => .int
  | 15 => .array .int
  | 16 => .int
  | _ => .long
def R_SB : String := "java/lang/StringBuilder"
def F_SB : u_T := fun k => match k with
  | 0 => ("java/lang/AbstractStringBuilder", "value", "[B", false)
  | 1 => ("java/lang/AbstractStringBuilder", "coder", "B", false)
  | 2 => ("java/lang/AbstractStringBuilder", "maybeLatin1", "Z", false)
  | _ => ("java/lang/AbstractStringBuilder", "count", "I", false)
def t_SB : Nat → FieldType := fun k => match k with
  | 0 => .array .byte
  | 1 => .byte
  | 2 => .boolean
  | _ => .int
abbrev vwCl : List vw_C := [(R_RT, F_RT, 8), (R_Am, F_Am, 4), (R_Na, F_Na, 2), (R_Rd, F_Rd, 5), (R_Ru, F_Ru, 9), (R_RL, F_RL, 2), (R_Sh, F_Sh, 5), (R_Wo, F_Wo, 6), (R_Wr, F_Wr, 2), (R_Mo, F_Mo, 18), (R_SB, F_SB, 4)]
def rx_ty : Nat → Nat → FieldType := fun ci => match ci with
  | 0 => t_RT
  | 1 => t_Am
  | 2 => t_Na
  | 3 => t_Rd
  | 4 => t_Ru
  | 5 => t_RL
  | 6 => t_Sh
  | 7 => t_Wo
  | 8 => t_Wr
  | 9 => t_Mo
  | _ => t_SB
def y_RT_init : MethodName := ⟨"RuleText", "<init>", "()V"⟩
abbrev M_RT_init : String × ByteArray × Nat × Option FieldType × String × List (Nat × Nat × Nat × Nat) := ("RuleText", prog_1_method_1_code, 1, none, "<init>", [])
def y_Ob_init : MethodName := ⟨"java/lang/Object", "<init>", "()V"⟩
abbrev M_Ob_init : String × ByteArray × Nat × Option FieldType × String × List (Nat × Nat × Nat × Nat) := ("java/lang/Object", object_method_1_code, 1, none, "<init>", [])
def y_Na_init : MethodName := ⟨"RuleText$Names", "<init>", "()V"⟩
abbrev M_Na_init : String × ByteArray × Nat × Option FieldType × String × List (Nat × Nat × Nat × Nat) := ("RuleText$Names", prog_4_method_1_code, 1, none, "<init>", [])
def y_Sh_init : MethodName := ⟨"RuleText$Shapes", "<init>", "()V"⟩
abbrev M_Sh_init : String × ByteArray × Nat × Option FieldType × String × List (Nat × Nat × Nat × Nat) := ("RuleText$Shapes", prog_8_method_1_code, 1, none, "<init>", [])
def y_Wo_init : MethodName := ⟨"RuleText$Words", "<init>", "()V"⟩
abbrev M_Wo_init : String × ByteArray × Nat × Option FieldType × String × List (Nat × Nat × Nat × Nat) := ("RuleText$Words", prog_10_method_1_code, 1, none, "<init>", [])
def y_Rd_init : MethodName := ⟨"RuleText$Reader", "<init>", "(LRuleText$Words;LRuleText$Names;)V"⟩
abbrev M_Rd_init : String × ByteArray × Nat × Option FieldType × String × List (Nat × Nat × Nat × Nat) := ("RuleText$Reader", prog_5_method_1_code, 3, none, "<init>", [])
def y_Am_init : MethodName := ⟨"RuleText$Amount", "<init>", "()V"⟩
abbrev M_Am_init : String × ByteArray × Nat × Option FieldType × String × List (Nat × Nat × Nat × Nat) := ("RuleText$Amount", prog_2_method_1_code, 1, none, "<init>", [])
def y_Wr_init : MethodName := ⟨"RuleText$Writer", "<init>", "(LRuleText$Names;)V"⟩
abbrev M_Wr_init : String × ByteArray × Nat × Option FieldType × String × List (Nat × Nat × Nat × Nat) := ("RuleText$Writer", prog_11_method_1_code, 2, none, "<init>", [])
def y_SB_init : MethodName := ⟨"java/lang/StringBuilder", "<init>", "()V"⟩
abbrev M_SB_init : String × ByteArray × Nat × Option FieldType × String × List (Nat × Nat × Nat × Nat) := ("java/lang/StringBuilder", prog_24_method_1_code, 1, none, "<init>", [])
def y_AB_init : MethodName := ⟨"java/lang/AbstractStringBuilder", "<init>", "(I)V"⟩
abbrev M_AB_init : String × ByteArray × Nat × Option FieldType × String × List (Nat × Nat × Nat × Nat) := ("java/lang/AbstractStringBuilder", prog_14_method_2_code, 2, none, "<init>", [])
def y_S2_newBytesFor : MethodName := ⟨"java/lang/StringUTF16", "newBytesFor", "(I)[B"⟩
abbrev M_S2_newBytesFor : String × ByteArray × Nat × Option FieldType × String × List (Nat × Nat × Nat × Nat) := ("java/lang/StringUTF16", prog_27_method_2_code, 1, (some (.array .byte)), "newBytesFor", [])
def y_S2_newBytesLength : MethodName := ⟨"java/lang/StringUTF16", "newBytesLength", "(I)I"⟩
abbrev M_S2_newBytesLength : String × ByteArray × Nat × Option FieldType × String × List (Nat × Nat × Nat × Nat) := ("java/lang/StringUTF16", prog_27_method_3_code, 1, (some .int), "newBytesLength", [])
def y_RL_init : MethodName := ⟨"RuleText$RuleList", "<init>", "()V"⟩
abbrev M_RL_init : String × ByteArray × Nat × Option FieldType × String × List (Nat × Nat × Nat × Nat) := ("RuleText$RuleList", prog_7_method_1_code, 2, none, "<init>", [])
def y_Ru_init : MethodName := ⟨"RuleText$Rule", "<init>", "()V"⟩
abbrev M_Ru_init : String × ByteArray × Nat × Option FieldType × String × List (Nat × Nat × Nat × Nat) := ("RuleText$Rule", prog_6_method_1_code, 1, none, "<init>", [])
def y_RT_unit : MethodName := ⟨"RuleText", "unit", "(I)Z"⟩
abbrev M_RT_unit : String × ByteArray × Nat × Option FieldType × String × List (Nat × Nat × Nat × Nat) := ("RuleText", prog_1_method_2_code, 2, (some .boolean), "unit", [])
def y_Wo_append : MethodName := ⟨"RuleText$Words", "append", "(I)Z"⟩
abbrev M_Wo_append : String × ByteArray × Nat × Option FieldType × String × List (Nat × Nat × Nat × Nat) := ("RuleText$Words", prog_10_method_2_code, 3, (some .boolean), "append", [])
def y_RT_isLetterOrDigit : MethodName := ⟨"RuleText", "isLetterOrDigit", "(I)Z"⟩
abbrev M_RT_isLetterOrDigit : String × ByteArray × Nat × Option FieldType × String × List (Nat × Nat × Nat × Nat) := ("RuleText", prog_1_method_18_code, 1, (some .boolean), "isLetterOrDigit", [])
def y_RT_read : MethodName := ⟨"RuleText", "read", "()I"⟩
abbrev M_RT_read : String × ByteArray × Nat × Option FieldType × String × List (Nat × Nat × Nat × Nat) := ("RuleText", prog_1_method_4_code, 3, (some .int), "read", [])
def y_Rd_readRules : MethodName := ⟨"RuleText$Reader", "readRules", "(LRuleText$RuleList;)I"⟩
abbrev M_Rd_readRules : String × ByteArray × Nat × Option FieldType × String × List (Nat × Nat × Nat × Nat) := ("RuleText$Reader", prog_5_method_2_code, 2, (some .int), "readRules", [])
def y_Wo_goToFirst : MethodName := ⟨"RuleText$Words", "goToFirst", "()V"⟩
abbrev M_Wo_goToFirst : String × ByteArray × Nat × Option FieldType × String × List (Nat × Nat × Nat × Nat) := ("RuleText$Words", prog_10_method_3_code, 1, none, "goToFirst", [])
def y_Wo_goOn : MethodName := ⟨"RuleText$Words", "goOn", "()V"⟩
abbrev M_Wo_goOn : String × ByteArray × Nat × Option FieldType × String × List (Nat × Nat × Nat × Nat) := ("RuleText$Words", prog_10_method_4_code, 2, none, "goOn", [])
def y_Wo_atEnd : MethodName := ⟨"RuleText$Words", "atEnd", "()Z"⟩
abbrev M_Wo_atEnd : String × ByteArray × Nat × Option FieldType × String × List (Nat × Nat × Nat × Nat) := ("RuleText$Words", prog_10_method_5_code, 1, (some .boolean), "atEnd", [])
def y_Rd_readSentence : MethodName := ⟨"RuleText$Reader", "readSentence", "(LRuleText$Rule;)Z"⟩
abbrev M_Rd_readSentence : String × ByteArray × Nat × Option FieldType × String × List (Nat × Nat × Nat × Nat) := ("RuleText$Reader", prog_5_method_3_code, 4, (some .boolean), "readSentence", [])
def y_Rd_findKind : MethodName := ⟨"RuleText$Reader", "findKind", "()LRuleText$Kind;"⟩
abbrev M_Rd_findKind : String × ByteArray × Nat × Option FieldType × String × List (Nat × Nat × Nat × Nat) := ("RuleText$Reader", prog_5_method_4_code, 2, (some (.object "RuleText$Kind")), "findKind", [])
def y_Wo_is : MethodName := ⟨"RuleText$Words", "is", "(Ljava/lang/String;)Z"⟩
abbrev M_Wo_is : String × ByteArray × Nat × Option FieldType × String × List (Nat × Nat × Nat × Nat) := ("RuleText$Words", prog_10_method_6_code, 3, (some .boolean), "is", [])
def y_St_length : MethodName := ⟨"java/lang/String", "length", "()I"⟩
abbrev M_St_length : String × ByteArray × Nat × Option FieldType × String × List (Nat × Nat × Nat × Nat) := ("java/lang/String", prog_23_method_54_code, 1, (some .int), "length", [])
def y_St_coder : MethodName := ⟨"java/lang/String", "coder", "()B"⟩
abbrev M_St_coder : String × ByteArray × Nat × Option FieldType × String × List (Nat × Nat × Nat × Nat) := ("java/lang/String", prog_23_method_152_code, 1, (some .byte), "coder", [])
def y_St_charAt : MethodName := ⟨"java/lang/String", "charAt", "(I)C"⟩
abbrev M_St_charAt : String × ByteArray × Nat × Option FieldType × String × List (Nat × Nat × Nat × Nat) := ("java/lang/String", prog_23_method_56_code, 2, (some .char), "charAt", [])
def y_St_isLatin1 : MethodName := ⟨"java/lang/String", "isLatin1", "()Z"⟩
abbrev M_St_isLatin1 : String × ByteArray × Nat × Option FieldType × String × List (Nat × Nat × Nat × Nat) := ("java/lang/String", prog_23_method_154_code, 1, (some .boolean), "isLatin1", [])
def y_S1_charAt : MethodName := ⟨"java/lang/StringLatin1", "charAt", "([BI)C"⟩
abbrev M_S1_charAt : String × ByteArray × Nat × Option FieldType × String × List (Nat × Nat × Nat × Nat) := ("java/lang/StringLatin1", prog_26_method_2_code, 2, (some .char), "charAt", [])
def y_St_checkIndex : MethodName := ⟨"java/lang/String", "checkIndex", "(II)V"⟩
abbrev M_St_checkIndex : String × ByteArray × Nat × Option FieldType × String × List (Nat × Nat × Nat × Nat) := ("java/lang/String", prog_23_method_155_code, 2, none, "checkIndex", [])
def y_Pr_checkIndex : MethodName := ⟨"jdk/internal/util/Preconditions", "checkIndex", "(IILjava/util/function/BiFunction;)I"⟩
abbrev M_Pr_checkIndex : String × ByteArray × Nat × Option FieldType × String × List (Nat × Nat × Nat × Nat) := ("jdk/internal/util/Preconditions", prog_32_method_11_code, 3, (some .int), "checkIndex", [])
def y_S2_charAt : MethodName := ⟨"java/lang/StringUTF16", "charAt", "([BI)C"⟩
abbrev M_S2_charAt : String × ByteArray × Nat × Option FieldType × String × List (Nat × Nat × Nat × Nat) := ("java/lang/StringUTF16", prog_27_method_83_code, 2, (some .char), "charAt", [])
def y_S2_checkIndex : MethodName := ⟨"java/lang/StringUTF16", "checkIndex", "(I[B)V"⟩
abbrev M_S2_checkIndex : String × ByteArray × Nat × Option FieldType × String × List (Nat × Nat × Nat × Nat) := ("java/lang/StringUTF16", prog_27_method_91_code, 2, none, "checkIndex", [])
def y_S2_length : MethodName := ⟨"java/lang/StringUTF16", "length", "([B)I"⟩
abbrev M_S2_length : String × ByteArray × Nat × Option FieldType × String × List (Nat × Nat × Nat × Nat) := ("java/lang/StringUTF16", prog_27_method_6_code, 1, (some .int), "length", [])
def y_S2_getChar : MethodName := ⟨"java/lang/StringUTF16", "getChar", "([BI)C"⟩
abbrev M_S2_getChar : String × ByteArray × Nat × Option FieldType × String × List (Nat × Nat × Nat × Nat) := ("java/lang/StringUTF16", prog_27_method_5_code, 2, (some .char), "getChar", [])
def y_Ru_begin : MethodName := ⟨"RuleText$Rule", "begin", "(LRuleText$Kind;I)V"⟩
abbrev M_Ru_begin : String × ByteArray × Nat × Option FieldType × String × List (Nat × Nat × Nat × Nat) := ("RuleText$Rule", prog_6_method_2_code, 3, none, "begin", [])
def y_Rd_readScope : MethodName := ⟨"RuleText$Reader", "readScope", "(LRuleText$Rule;)Z"⟩
abbrev M_Rd_readScope : String × ByteArray × Nat × Option FieldType × String × List (Nat × Nat × Nat × Nat) := ("RuleText$Reader", prog_5_method_6_code, 2, (some .boolean), "readScope", [])
def y_Ru_isWaiver : MethodName := ⟨"RuleText$Rule", "isWaiver", "()Z"⟩
abbrev M_Ru_isWaiver : String × ByteArray × Nat × Option FieldType × String × List (Nat × Nat × Nat × Nat) := ("RuleText$Rule", prog_6_method_3_code, 1, (some .boolean), "isWaiver", [])
def y_Ru_isOfTwoThings : MethodName := ⟨"RuleText$Rule", "isOfTwoThings", "()Z"⟩
abbrev M_Ru_isOfTwoThings : String × ByteArray × Nat × Option FieldType × String × List (Nat × Nat × Nat × Nat) := ("RuleText$Rule", prog_6_method_4_code, 1, (some .boolean), "isOfTwoThings", [])
def y_Rd_accept : MethodName := ⟨"RuleText$Reader", "accept", "(Ljava/lang/String;)Z"⟩
abbrev M_Rd_accept : String × ByteArray × Nat × Option FieldType × String × List (Nat × Nat × Nat × Nat) := ("RuleText$Reader", prog_5_method_5_code, 2, (some .boolean), "accept", [])
def y_Rd_readThing : MethodName := ⟨"RuleText$Reader", "readThing", "()I"⟩
abbrev M_Rd_readThing : String × ByteArray × Nat × Option FieldType × String × List (Nat × Nat × Nat × Nat) := ("RuleText$Reader", prog_5_method_7_code, 3, (some .int), "readThing", [])
def y_Na_find : MethodName := ⟨"RuleText$Names", "find", "(ILRuleText$Words;)I"⟩
abbrev M_Na_find : String × ByteArray × Nat × Option FieldType × String × List (Nat × Nat × Nat × Nat) := ("RuleText$Names", prog_4_method_3_code, 4, (some .int), "find", [])
def y_RT_slotOf : MethodName := ⟨"RuleText", "slotOf", "(II)I"⟩
abbrev M_RT_slotOf : String × ByteArray × Nat × Option FieldType × String × List (Nat × Nat × Nat × Nat) := ("RuleText", prog_1_method_15_code, 2, (some .int), "slotOf", [])
def y_Na_isNamed : MethodName := ⟨"RuleText$Names", "isNamed", "(ILRuleText$Words;)Z"⟩
abbrev M_Na_isNamed : String × ByteArray × Nat × Option FieldType × String × List (Nat × Nat × Nat × Nat) := ("RuleText$Names", prog_4_method_4_code, 5, (some .boolean), "isNamed", [])
def y_Rd_readLayer : MethodName := ⟨"RuleText$Reader", "readLayer", "(LRuleText$Rule;)Z"⟩
abbrev M_Rd_readLayer : String × ByteArray × Nat × Option FieldType × String × List (Nat × Nat × Nat × Nat) := ("RuleText$Reader", prog_5_method_8_code, 3, (some .boolean), "readLayer", [])
def y_Rd_shortNumber : MethodName := ⟨"RuleText$Reader", "shortNumber", "()I"⟩
abbrev M_Rd_shortNumber : String × ByteArray × Nat × Option FieldType × String × List (Nat × Nat × Nat × Nat) := ("RuleText$Reader", prog_5_method_11_code, 2, (some .int), "shortNumber", [])
def y_Wo_endOfDigits : MethodName := ⟨"RuleText$Words", "endOfDigits", "(I)I"⟩
abbrev M_Wo_endOfDigits : String × ByteArray × Nat × Option FieldType × String × List (Nat × Nat × Nat × Nat) := ("RuleText$Words", prog_10_method_7_code, 3, (some .int), "endOfDigits", [])
def y_Wo_digitsAsNumber : MethodName := ⟨"RuleText$Words", "digitsAsNumber", "(II)I"⟩
abbrev M_Wo_digitsAsNumber : String × ByteArray × Nat × Option FieldType × String × List (Nat × Nat × Nat × Nat) := ("RuleText$Words", prog_10_method_8_code, 5, (some .int), "digitsAsNumber", [])
def y_Rd_readArea : MethodName := ⟨"RuleText$Reader", "readArea", "(LRuleText$Rule;)Z"⟩
abbrev M_Rd_readArea : String × ByteArray × Nat × Option FieldType × String × List (Nat × Nat × Nat × Nat) := ("RuleText$Reader", prog_5_method_9_code, 2, (some .boolean), "readArea", [])
def y_Rd_readRank : MethodName := ⟨"RuleText$Reader", "readRank", "(LRuleText$Rule;)Z"⟩
abbrev M_Rd_readRank : String × ByteArray × Nat × Option FieldType × String × List (Nat × Nat × Nat × Nat) := ("RuleText$Reader", prog_5_method_10_code, 2, (some .boolean), "readRank", [])
def y_Rd_readSpan : MethodName := ⟨"RuleText$Reader", "readSpan", "(LRuleText$Rule;)Z"⟩
abbrev M_Rd_readSpan : String × ByteArray × Nat × Option FieldType × String × List (Nat × Nat × Nat × Nat) := ("RuleText$Reader", prog_5_method_12_code, 6, (some .boolean), "readSpan", [])
def y_Rd_readAmount : MethodName := ⟨"RuleText$Reader", "readAmount", "(LRuleText$Amount;Z)Z"⟩
abbrev M_Rd_readAmount : String × ByteArray × Nat × Option FieldType × String × List (Nat × Nat × Nat × Nat) := ("RuleText$Reader", prog_5_method_13_code, 3, (some .boolean), "readAmount", [])
def y_Am_take : MethodName := ⟨"RuleText$Amount", "take", "(LRuleText$Words;)Z"⟩
abbrev M_Am_take : String × ByteArray × Nat × Option FieldType × String × List (Nat × Nat × Nat × Nat) := ("RuleText$Amount", prog_2_method_2_code, 8, (some .boolean), "take", [])
def y_Am_convert : MethodName := ⟨"RuleText$Amount", "convert", "(JJ)Z"⟩
abbrev M_Am_convert : String × ByteArray × Nat × Option FieldType × String × List (Nat × Nat × Nat × Nat) := ("RuleText$Amount", prog_2_method_3_code, 7, (some .boolean), "convert", [])
def y_Rd_blame : MethodName := ⟨"RuleText$Reader", "blame", "(LRuleText$Amount;)Z"⟩
abbrev M_Rd_blame : String × ByteArray × Nat × Option FieldType × String × List (Nat × Nat × Nat × Nat) := ("RuleText$Reader", prog_5_method_16_code, 2, (some .boolean), "blame", [])
def y_Rd_readUnit : MethodName := ⟨"RuleText$Reader", "readUnit", "(Z)Z"⟩
abbrev M_Rd_readUnit : String × ByteArray × Nat × Option FieldType × String × List (Nat × Nat × Nat × Nat) := ("RuleText$Reader", prog_5_method_14_code, 3, (some .boolean), "readUnit", [])
def y_Rd_findUnit : MethodName := ⟨"RuleText$Reader", "findUnit", "()LRuleText$Unit;"⟩
abbrev M_Rd_findUnit : String × ByteArray × Nat × Option FieldType × String × List (Nat × Nat × Nat × Nat) := ("RuleText$Reader", prog_5_method_15_code, 2, (some (.object "RuleText$Unit")), "findUnit", [])
def y_RT_never : MethodName := ⟨"RuleText", "never", "(I)I"⟩
abbrev M_RT_never : String × ByteArray × Nat × Option FieldType × String × List (Nat × Nat × Nat × Nat) := ("RuleText", prog_1_method_9_code, 4, (some .int), "never", [])
def y_RL_isBeaten : MethodName := ⟨"RuleText$RuleList", "isBeaten", "(ILRuleText$Shapes;)Z"⟩
abbrev M_RL_isBeaten : String × ByteArray × Nat × Option FieldType × String × List (Nat × Nat × Nat × Nat) := ("RuleText$RuleList", prog_7_method_5_code, 4, (some .boolean), "isBeaten", [])
def y_RL_isAhead : MethodName := ⟨"RuleText$RuleList", "isAhead", "(II)Z"⟩
abbrev M_RL_isAhead : String × ByteArray × Nat × Option FieldType × String × List (Nat × Nat × Nat × Nat) := ("RuleText$RuleList", prog_7_method_4_code, 5, (some .boolean), "isAhead", [])
def y_Ru_covers : MethodName := ⟨"RuleText$Rule", "covers", "(LRuleText$Rule;LRuleText$Shapes;)Z"⟩
abbrev M_Ru_covers : String × ByteArray × Nat × Option FieldType × String × List (Nat × Nat × Nat × Nat) := ("RuleText$Rule", prog_6_method_5_code, 3, (some .boolean), "covers", [])
def y_Ru_coversKind : MethodName := ⟨"RuleText$Rule", "coversKind", "(LRuleText$Rule;)Z"⟩
abbrev M_Ru_coversKind : String × ByteArray × Nat × Option FieldType × String × List (Nat × Nat × Nat × Nat) := ("RuleText$Rule", prog_6_method_6_code, 2, (some .boolean), "coversKind", [])
def y_Ru_coversThings : MethodName := ⟨"RuleText$Rule", "coversThings", "(LRuleText$Rule;)Z"⟩
abbrev M_Ru_coversThings : String × ByteArray × Nat × Option FieldType × String × List (Nat × Nat × Nat × Nat) := ("RuleText$Rule", prog_6_method_7_code, 2, (some .boolean), "coversThings", [])
def y_Ru_coversThing : MethodName := ⟨"RuleText$Rule", "coversThing", "(II)Z"⟩
abbrev M_Ru_coversThing : String × ByteArray × Nat × Option FieldType × String × List (Nat × Nat × Nat × Nat) := ("RuleText$Rule", prog_6_method_8_code, 2, (some .boolean), "coversThing", [])
def y_Ru_coversLayer : MethodName := ⟨"RuleText$Rule", "coversLayer", "(LRuleText$Rule;)Z"⟩
abbrev M_Ru_coversLayer : String × ByteArray × Nat × Option FieldType × String × List (Nat × Nat × Nat × Nat) := ("RuleText$Rule", prog_6_method_9_code, 2, (some .boolean), "coversLayer", [])
def y_Ru_coversArea : MethodName := ⟨"RuleText$Rule", "coversArea", "(LRuleText$Rule;LRuleText$Shapes;)Z"⟩
abbrev M_Ru_coversArea : String × ByteArray × Nat × Option FieldType × String × List (Nat × Nat × Nat × Nat) := ("RuleText$Rule", prog_6_method_10_code, 3, (some .boolean), "coversArea", [])
def y_Sh_holds : MethodName := ⟨"RuleText$Shapes", "holds", "(II)Z"⟩
abbrev M_Sh_holds : String × ByteArray × Nat × Option FieldType × String × List (Nat × Nat × Nat × Nat) := ("RuleText$Shapes", prog_8_method_3_code, 3, (some .boolean), "holds", [])
def y_RT_kinds : MethodName := ⟨"RuleText", "kinds", "()I"⟩
abbrev M_RT_kinds : String × ByteArray × Nat × Option FieldType × String × List (Nat × Nat × Nat × Nat) := ("RuleText", prog_1_method_12_code, 3, (some .int), "kinds", [])
def y_In_bitCount : MethodName := ⟨"java/lang/Integer", "bitCount", "(I)I"⟩
abbrev M_In_bitCount : String × ByteArray × Nat × Option FieldType × String × List (Nat × Nat × Nat × Nat) := ("java/lang/Integer", prog_20_method_49_code, 1, (some .int), "bitCount", [])
def y_RT_clear : MethodName := ⟨"RuleText", "clear", "()V"⟩
abbrev M_RT_clear : String × ByteArray × Nat × Option FieldType × String × List (Nat × Nat × Nat × Nat) := ("RuleText", prog_1_method_14_code, 1, none, "clear", [])
def y_Lw_name : MethodName := ⟨"RuleTextLaw", "name", "(LRuleText;III[J)I"⟩
abbrev M_Lw_name : String × ByteArray × Nat × Option FieldType × String × List (Nat × Nat × Nat × Nat) := ("RuleTextLaw", method_3_code, 6, (some .int), "name", [(0, 19, 22, 13)])
def y_RT_name : MethodName := ⟨"RuleText", "name", "(III)Z"⟩
abbrev M_RT_name : String × ByteArray × Nat × Option FieldType × String × List (Nat × Nat × Nat × Nat) := ("RuleText", prog_1_method_3_code, 4, (some .boolean), "name", [])
def y_Th_init_ : MethodName := ⟨"java/lang/Throwable", "<init>", "()V"⟩
abbrev M_Th_init_ : String × ByteArray × Nat × Option FieldType × String × List (Nat × Nat × Nat × Nat) := ("java/lang/Throwable", prog_29_method_1_code, 1, none, "<init>", [])
def y_Th_fillInStackTrace : MethodName := ⟨"java/lang/Throwable", "fillInStackTrace", "()Ljava/lang/Throwable;"⟩
abbrev M_Th_fillInStackTrace : String × ByteArray × Nat × Option FieldType × String × List (Nat × Nat × Nat × Nat) := ("java/lang/Throwable", prog_29_method_18_code, 1, (some (.object "java/lang/Throwable")), "fillInStackTrace", [])
def y_IO_init : MethodName := ⟨"java/lang/IndexOutOfBoundsException", "<init>", "(Ljava/lang/String;)V"⟩
abbrev M_IO_init : String × ByteArray × Nat × Option FieldType × String × List (Nat × Nat × Nat × Nat) := ("java/lang/IndexOutOfBoundsException", prog_19_method_2_code, 2, none, "<init>", [])
def y_RE_init : MethodName := ⟨"java/lang/RuntimeException", "<init>", "(Ljava/lang/String;)V"⟩
abbrev M_RE_init : String × ByteArray × Nat × Option FieldType × String × List (Nat × Nat × Nat × Nat) := ("java/lang/RuntimeException", prog_22_method_2_code, 2, none, "<init>", [])
def y_Ex_init : MethodName := ⟨"java/lang/Exception", "<init>", "(Ljava/lang/String;)V"⟩
abbrev M_Ex_init : String × ByteArray × Nat × Option FieldType × String × List (Nat × Nat × Nat × Nat) := ("java/lang/Exception", prog_18_method_2_code, 2, none, "<init>", [])
def y_Th_init_LString : MethodName := ⟨"java/lang/Throwable", "<init>", "(Ljava/lang/String;)V"⟩
abbrev M_Th_init_LString : String × ByteArray × Nat × Option FieldType × String × List (Nat × Nat × Nat × Nat) := ("java/lang/Throwable", prog_29_method_2_code, 2, none, "<init>", [])
def y_Na_append : MethodName := ⟨"RuleText$Names", "append", "(II)Z"⟩
abbrev M_Na_append : String × ByteArray × Nat × Option FieldType × String × List (Nat × Nat × Nat × Nat) := ("RuleText$Names", prog_4_method_2_code, 3, (some .boolean), "append", [])
def y_Lw_rule : MethodName := ⟨"RuleTextLaw", "rule", "(LRuleText;II[J)I"⟩
abbrev M_Lw_rule : String × ByteArray × Nat × Option FieldType × String × List (Nat × Nat × Nat × Nat) := ("RuleTextLaw", method_4_code, 5, (some .int), "rule", [(0, 10, 13, 13)])
def y_RT_rule : MethodName := ⟨"RuleText", "rule", "(II)I"⟩
abbrev M_RT_rule : String × ByteArray × Nat × Option FieldType × String × List (Nat × Nat × Nat × Nat) := ("RuleText", prog_1_method_5_code, 4, (some .int), "rule", [])
def y_RL_has : MethodName := ⟨"RuleText$RuleList", "has", "(I)Z"⟩
abbrev M_RL_has : String × ByteArray × Nat × Option FieldType × String × List (Nat × Nat × Nat × Nat) := ("RuleText$RuleList", prog_7_method_2_code, 2, (some .boolean), "has", [])
def y_RT_kindOf : MethodName := ⟨"RuleText", "kindOf", "(I)I"⟩
abbrev M_RT_kindOf : String × ByteArray × Nat × Option FieldType × String × List (Nat × Nat × Nat × Nat) := ("RuleText", prog_1_method_16_code, 1, (some .int), "kindOf", [])
def y_RT_thingOf : MethodName := ⟨"RuleText", "thingOf", "(I)I"⟩
abbrev M_RT_thingOf : String × ByteArray × Nat × Option FieldType × String × List (Nat × Nat × Nat × Nat) := ("RuleText", prog_1_method_17_code, 1, (some .int), "thingOf", [])
def y_Lw_value : MethodName := ⟨"RuleTextLaw", "value", "(LRuleText;II[J)I"⟩
abbrev M_Lw_value : String × ByteArray × Nat × Option FieldType × String × List (Nat × Nat × Nat × Nat) := ("RuleTextLaw", method_5_code, 5, (some .int), "value", [(0, 9, 12, 13)])
def y_RT_value : MethodName := ⟨"RuleText", "value", "(II)J"⟩
abbrev M_RT_value : String × ByteArray × Nat × Option FieldType × String × List (Nat × Nat × Nat × Nat) := ("RuleText", prog_1_method_6_code, 3, (some .long), "value", [])
def y_Lw_rank : MethodName := ⟨"RuleTextLaw", "rank", "(LRuleText;I[J)I"⟩
abbrev M_Lw_rank : String × ByteArray × Nat × Option FieldType × String × List (Nat × Nat × Nat × Nat) := ("RuleTextLaw", method_6_code, 4, (some .int), "rank", [(0, 9, 12, 13)])
def y_RT_rank : MethodName := ⟨"RuleText", "rank", "(I)I"⟩
abbrev M_RT_rank : String × ByteArray × Nat × Option FieldType × String × List (Nat × Nat × Nat × Nat) := ("RuleText", prog_1_method_7_code, 2, (some .int), "rank", [])
def y_RL_countAhead : MethodName := ⟨"RuleText$RuleList", "countAhead", "(I)I"⟩
abbrev M_RL_countAhead : String × ByteArray × Nat × Option FieldType × String × List (Nat × Nat × Nat × Nat) := ("RuleText$RuleList", prog_7_method_3_code, 4, (some .int), "countAhead", [])
def y_Lw_shape : MethodName := ⟨"RuleTextLaw", "shape", "(LRuleText;IJJJJ[J)I"⟩
abbrev M_Lw_shape : String × ByteArray × Nat × Option FieldType × String × List (Nat × Nat × Nat × Nat) := ("RuleTextLaw", method_7_code, 12, (some .int), "shape", [(0, 24, 27, 13)])
def y_RT_shape : MethodName := ⟨"RuleText", "shape", "(IJJJJ)Z"⟩
abbrev M_RT_shape : String × ByteArray × Nat × Option FieldType × String × List (Nat × Nat × Nat × Nat) := ("RuleText", prog_1_method_8_code, 10, (some .boolean), "shape", [])
def y_Sh_tell : MethodName := ⟨"RuleText$Shapes", "tell", "(IJJJJ)Z"⟩
abbrev M_Sh_tell : String × ByteArray × Nat × Option FieldType × String × List (Nat × Nat × Nat × Nat) := ("RuleText$Shapes", prog_8_method_2_code, 10, (some .boolean), "tell", [])
def y_Lw_clash : MethodName := ⟨"RuleTextLaw", "clash", "(LRuleText;II[J)I"⟩
abbrev M_Lw_clash : String × ByteArray × Nat × Option FieldType × String × List (Nat × Nat × Nat × Nat) := ("RuleTextLaw", method_8_code, 5, (some .int), "clash", [(0, 10, 13, 13)])
def y_RT_clash : MethodName := ⟨"RuleText", "clash", "(II)I"⟩
abbrev M_RT_clash : String × ByteArray × Nat × Option FieldType × String × List (Nat × Nat × Nat × Nat) := ("RuleText", prog_1_method_10_code, 6, (some .int), "clash", [])
def y_RL_areAtOdds : MethodName := ⟨"RuleText$RuleList", "areAtOdds", "(IILRuleText$Shapes;)Z"⟩
abbrev M_RL_areAtOdds : String × ByteArray × Nat × Option FieldType × String × List (Nat × Nat × Nat × Nat) := ("RuleText$RuleList", prog_7_method_6_code, 6, (some .boolean), "areAtOdds", [])
def y_Ru_sharesValueWith : MethodName := ⟨"RuleText$Rule", "sharesValueWith", "(LRuleText$Rule;)Z"⟩
abbrev M_Ru_sharesValueWith : String × ByteArray × Nat × Option FieldType × String × List (Nat × Nat × Nat × Nat) := ("RuleText$Rule", prog_6_method_11_code, 2, (some .boolean), "sharesValueWith", [])
def y_Ru_reachesUpTo : MethodName := ⟨"RuleText$Rule", "reachesUpTo", "(LRuleText$Rule;)Z"⟩
abbrev M_Ru_reachesUpTo : String × ByteArray × Nat × Option FieldType × String × List (Nat × Nat × Nat × Nat) := ("RuleText$Rule", prog_6_method_12_code, 2, (some .boolean), "reachesUpTo", [])
def y_Lw_line : MethodName := ⟨"RuleTextLaw", "line", "(LRuleText;I[J)I"⟩
abbrev M_Lw_line : String × ByteArray × Nat × Option FieldType × String × List (Nat × Nat × Nat × Nat) := ("RuleTextLaw", method_9_code, 4, (some .int), "line", [(0, 9, 12, 13)])
def y_RT_line : MethodName := ⟨"RuleText", "line", "(I)I"⟩
abbrev M_RT_line : String × ByteArray × Nat × Option FieldType × String × List (Nat × Nat × Nat × Nat) := ("RuleText", prog_1_method_11_code, 2, (some .int), "line", [])
def y_Lw_write : MethodName := ⟨"RuleTextLaw", "write", "(LRuleText;I[J)I"⟩
abbrev M_Lw_write : String × ByteArray × Nat × Option FieldType × String × List (Nat × Nat × Nat × Nat) := ("RuleTextLaw", method_10_code, 4, (some .int), "write", [(0, 9, 12, 13)])
def y_RT_write : MethodName := ⟨"RuleText", "write", "(I)I"⟩
abbrev M_RT_write : String × ByteArray × Nat × Option FieldType × String × List (Nat × Nat × Nat × Nat) := ("RuleText", prog_1_method_13_code, 2, (some .int), "write", [])
def y_Wr_writeRules : MethodName := ⟨"RuleText$Writer", "writeRules", "(LRuleText$RuleList;)V"⟩
abbrev M_Wr_writeRules : String × ByteArray × Nat × Option FieldType × String × List (Nat × Nat × Nat × Nat) := ("RuleText$Writer", prog_11_method_2_code, 3, none, "writeRules", [])
def y_SB_setLength : MethodName := ⟨"java/lang/StringBuilder", "setLength", "(I)V"⟩
abbrev M_SB_setLength : String × ByteArray × Nat × Option FieldType × String × List (Nat × Nat × Nat × Nat) := ("java/lang/StringBuilder", prog_24_method_89_code, 2, none, "setLength", [])
def y_AB_setLength : MethodName := ⟨"java/lang/AbstractStringBuilder", "setLength", "(I)V"⟩
abbrev M_AB_setLength : String × ByteArray × Nat × Option FieldType × String × List (Nat × Nat × Nat × Nat) := ("java/lang/AbstractStringBuilder", prog_14_method_13_code, 2, none, "setLength", [])
def y_SI_init : MethodName := ⟨"java/lang/StringIndexOutOfBoundsException", "<init>", "(I)V"⟩
abbrev M_SI_init : String × ByteArray × Nat × Option FieldType × String × List (Nat × Nat × Nat × Nat) := ("java/lang/StringIndexOutOfBoundsException", prog_25_method_3_code, 2, none, "<init>", [])
def y_SB_append_LString : MethodName := ⟨"java/lang/StringBuilder", "append", "(Ljava/lang/String;)Ljava/lang/StringBuilder;"⟩
abbrev M_SB_append_LString : String × ByteArray × Nat × Option FieldType × String × List (Nat × Nat × Nat × Nat) := ("java/lang/StringBuilder", prog_24_method_7_code, 2, (some (.object "java/lang/StringBuilder")), "append", [])
def y_AB_append_LString : MethodName := ⟨"java/lang/AbstractStringBuilder", "append", "(Ljava/lang/String;)Ljava/lang/AbstractStringBuilder;"⟩
abbrev M_AB_append_LString : String × ByteArray × Nat × Option FieldType × String × List (Nat × Nat × Nat × Nat) := ("java/lang/AbstractStringBuilder", prog_14_method_22_code, 3, (some (.object "java/lang/AbstractStringBuilder")), "append", [])
def y_AB_appendNull : MethodName := ⟨"java/lang/AbstractStringBuilder", "appendNull", "()Ljava/lang/AbstractStringBuilder;"⟩
abbrev M_AB_appendNull : String × ByteArray × Nat × Option FieldType × String × List (Nat × Nat × Nat × Nat) := ("java/lang/AbstractStringBuilder", prog_14_method_26_code, 3, (some (.object "java/lang/AbstractStringBuilder")), "appendNull", [])
def y_AB_ensureCapacityInternal : MethodName := ⟨"java/lang/AbstractStringBuilder", "ensureCapacityInternal", "(I)V"⟩
abbrev M_AB_ensureCapacityInternal : String × ByteArray × Nat × Option FieldType × String × List (Nat × Nat × Nat × Nat) := ("java/lang/AbstractStringBuilder", prog_14_method_9_code, 3, none, "ensureCapacityInternal", [])
def y_AB_newCapacity : MethodName := ⟨"java/lang/AbstractStringBuilder", "newCapacity", "(I)I"⟩
abbrev M_AB_newCapacity : String × ByteArray × Nat × Option FieldType × String × List (Nat × Nat × Nat × Nat) := ("java/lang/AbstractStringBuilder", prog_14_method_10_code, 6, (some .int), "newCapacity", [])
def y_AS_newLength : MethodName := ⟨"jdk/internal/util/ArraysSupport", "newLength", "(III)I"⟩
abbrev M_AS_newLength : String × ByteArray × Nat × Option FieldType × String × List (Nat × Nat × Nat × Nat) := ("jdk/internal/util/ArraysSupport", prog_31_method_27_code, 4, (some .int), "newLength", [])
def y_Ma_max : MethodName := ⟨"java/lang/Math", "max", "(II)I"⟩
abbrev M_Ma_max : String × ByteArray × Nat × Option FieldType × String × List (Nat × Nat × Nat × Nat) := ("java/lang/Math", prog_21_method_65_code, 2, (some .int), "max", [])
def y_AS_hugeLength : MethodName := ⟨"jdk/internal/util/ArraysSupport", "hugeLength", "(II)I"⟩
abbrev M_AS_hugeLength : String × ByteArray × Nat × Option FieldType × String × List (Nat × Nat × Nat × Nat) := ("jdk/internal/util/ArraysSupport", prog_31_method_28_code, 3, (some .int), "hugeLength", [])
def y_Ar_copyOf : MethodName := ⟨"java/util/Arrays", "copyOf", "([BI)[B"⟩
abbrev M_Ar_copyOf : String × ByteArray × Nat × Option FieldType × String × List (Nat × Nat × Nat × Nat) := ("java/util/Arrays", prog_30_method_121_code, 3, (some (.array .byte)), "copyOf", [])
def y_Ma_min : MethodName := ⟨"java/lang/Math", "min", "(II)I"⟩
abbrev M_Ma_min : String × ByteArray × Nat × Option FieldType × String × List (Nat × Nat × Nat × Nat) := ("java/lang/Math", prog_21_method_69_code, 2, (some .int), "min", [])
def y_AB_isLatin1 : MethodName := ⟨"java/lang/AbstractStringBuilder", "isLatin1", "()Z"⟩
abbrev M_AB_isLatin1 : String × ByteArray × Nat × Option FieldType × String × List (Nat × Nat × Nat × Nat) := ("java/lang/AbstractStringBuilder", prog_14_method_68_code, 1, (some .boolean), "isLatin1", [])
def y_S2_putCharsAt : MethodName := ⟨"java/lang/StringUTF16", "putCharsAt", "([BICCCC)I"⟩
abbrev M_S2_putCharsAt : String × ByteArray × Nat × Option FieldType × String × List (Nat × Nat × Nat × Nat) := ("java/lang/StringUTF16", prog_27_method_81_code, 7, (some .int), "putCharsAt", [])
def y_S2_checkBoundsBeginEnd : MethodName := ⟨"java/lang/StringUTF16", "checkBoundsBeginEnd", "(II[B)V"⟩
abbrev M_S2_checkBoundsBeginEnd : String × ByteArray × Nat × Option FieldType × String × List (Nat × Nat × Nat × Nat) := ("java/lang/StringUTF16", prog_27_method_93_code, 3, none, "checkBoundsBeginEnd", [])
def y_St_checkBoundsBeginEnd : MethodName := ⟨"java/lang/String", "checkBoundsBeginEnd", "(III)V"⟩
abbrev M_St_checkBoundsBeginEnd : String × ByteArray × Nat × Option FieldType × String × List (Nat × Nat × Nat × Nat) := ("java/lang/String", prog_23_method_158_code, 3, none, "checkBoundsBeginEnd", [])
def y_Pr_checkFromToIndex : MethodName := ⟨"jdk/internal/util/Preconditions", "checkFromToIndex", "(IIILjava/util/function/BiFunction;)I"⟩
abbrev M_Pr_checkFromToIndex : String × ByteArray × Nat × Option FieldType × String × List (Nat × Nat × Nat × Nat) := ("jdk/internal/util/Preconditions", prog_32_method_12_code, 4, (some .int), "checkFromToIndex", [])
def y_S2_putChar : MethodName := ⟨"java/lang/StringUTF16", "putChar", "([BII)V"⟩
abbrev M_S2_putChar : String × ByteArray × Nat × Option FieldType × String × List (Nat × Nat × Nat × Nat) := ("java/lang/StringUTF16", prog_27_method_4_code, 3, none, "putChar", [])
def y_AB_putStringAt : MethodName := ⟨"java/lang/AbstractStringBuilder", "putStringAt", "(ILjava/lang/String;)V"⟩
abbrev M_AB_putStringAt : String × ByteArray × Nat × Option FieldType × String × List (Nat × Nat × Nat × Nat) := ("java/lang/AbstractStringBuilder", prog_14_method_73_code, 3, none, "putStringAt", [])
def y_AB_inflateIfNeededFor : MethodName := ⟨"java/lang/AbstractStringBuilder", "inflateIfNeededFor", "(Ljava/lang/String;)V"⟩
abbrev M_AB_inflateIfNeededFor : String × ByteArray × Nat × Option FieldType × String × List (Nat × Nat × Nat × Nat) := ("java/lang/AbstractStringBuilder", prog_14_method_71_code, 2, none, "inflateIfNeededFor", [])
def y_AB_inflate : MethodName := ⟨"java/lang/AbstractStringBuilder", "inflate", "()V"⟩
abbrev M_AB_inflate : String × ByteArray × Nat × Option FieldType × String × List (Nat × Nat × Nat × Nat) := ("java/lang/AbstractStringBuilder", prog_14_method_11_code, 2, none, "inflate", [])
def y_S1_inflate : MethodName := ⟨"java/lang/StringLatin1", "inflate", "([BI[BII)V"⟩
abbrev M_S1_inflate : String × ByteArray × Nat × Option FieldType × String × List (Nat × Nat × Nat × Nat) := ("java/lang/StringLatin1", prog_26_method_50_code, 5, none, "inflate", [])
def y_S2_inflate : MethodName := ⟨"java/lang/StringUTF16", "inflate", "([BI[BII)V"⟩
abbrev M_S2_inflate : String × ByteArray × Nat × Option FieldType × String × List (Nat × Nat × Nat × Nat) := ("java/lang/StringUTF16", prog_27_method_86_code, 6, none, "inflate", [])
def y_S2_checkBoundsOffCount : MethodName := ⟨"java/lang/StringUTF16", "checkBoundsOffCount", "(II[B)V"⟩
abbrev M_S2_checkBoundsOffCount : String × ByteArray × Nat × Option FieldType × String × List (Nat × Nat × Nat × Nat) := ("java/lang/StringUTF16", prog_27_method_94_code, 3, none, "checkBoundsOffCount", [])
def y_St_checkBoundsOffCount : MethodName := ⟨"java/lang/String", "checkBoundsOffCount", "(III)I"⟩
abbrev M_St_checkBoundsOffCount : String × ByteArray × Nat × Option FieldType × String × List (Nat × Nat × Nat × Nat) := ("java/lang/String", prog_23_method_157_code, 3, (some .int), "checkBoundsOffCount", [])
def y_Pr_checkFromIndexSize : MethodName := ⟨"jdk/internal/util/Preconditions", "checkFromIndexSize", "(IIILjava/util/function/BiFunction;)I"⟩
abbrev M_Pr_checkFromIndexSize : String × ByteArray × Nat × Option FieldType × String × List (Nat × Nat × Nat × Nat) := ("jdk/internal/util/Preconditions", prog_32_method_13_code, 4, (some .int), "checkFromIndexSize", [])
def y_St_getBytes : MethodName := ⟨"java/lang/String", "getBytes", "([BIB)V"⟩
abbrev M_St_getBytes : String × ByteArray × Nat × Option FieldType × String × List (Nat × Nat × Nat × Nat) := ("java/lang/String", prog_23_method_147_code, 4, none, "getBytes", [])
def y_SB_append_I : MethodName := ⟨"java/lang/StringBuilder", "append", "(I)Ljava/lang/StringBuilder;"⟩
abbrev M_SB_append_I : String × ByteArray × Nat × Option FieldType × String × List (Nat × Nat × Nat × Nat) := ("java/lang/StringBuilder", prog_24_method_15_code, 2, (some (.object "java/lang/StringBuilder")), "append", [])
def y_AB_append_I : MethodName := ⟨"java/lang/AbstractStringBuilder", "append", "(I)Ljava/lang/AbstractStringBuilder;"⟩
abbrev M_AB_append_I : String × ByteArray × Nat × Option FieldType × String × List (Nat × Nat × Nat × Nat) := ("java/lang/AbstractStringBuilder", prog_14_method_32_code, 4, (some (.object "java/lang/AbstractStringBuilder")), "append", [])
def y_In_stringSize : MethodName := ⟨"java/lang/Integer", "stringSize", "(I)I"⟩
abbrev M_In_stringSize : String × ByteArray × Nat × Option FieldType × String × List (Nat × Nat × Nat × Nat) := ("java/lang/Integer", prog_20_method_13_code, 4, (some .int), "stringSize", [])
def y_In_getChars : MethodName := ⟨"java/lang/Integer", "getChars", "(II[B)I"⟩
abbrev M_In_getChars : String × ByteArray × Nat × Option FieldType × String × List (Nat × Nat × Nat × Nat) := ("java/lang/Integer", prog_20_method_12_code, 7, (some .int), "getChars", [])
def y_S2_getChars_IIIaB : MethodName := ⟨"java/lang/StringUTF16", "getChars", "(III[B)I"⟩
abbrev M_S2_getChars_IIIaB : String × ByteArray × Nat × Option FieldType × String × List (Nat × Nat × Nat × Nat) := ("java/lang/StringUTF16", prog_27_method_77_code, 5, (some .int), "getChars", [])
def y_S2_getChars_IIaB : MethodName := ⟨"java/lang/StringUTF16", "getChars", "(II[B)I"⟩
abbrev M_S2_getChars_IIaB : String × ByteArray × Nat × Option FieldType × String × List (Nat × Nat × Nat × Nat) := ("java/lang/StringUTF16", prog_27_method_89_code, 7, (some .int), "getChars", [])
def y_SB_toString : MethodName := ⟨"java/lang/StringBuilder", "toString", "()Ljava/lang/String;"⟩
abbrev M_SB_toString : String × ByteArray × Nat × Option FieldType × String × List (Nat × Nat × Nat × Nat) := ("java/lang/StringBuilder", prog_24_method_42_code, 1, (some (.object "java/lang/String")), "toString", [])
def y_St_init_LStringBuilder : MethodName := ⟨"java/lang/String", "<init>", "(Ljava/lang/StringBuilder;)V"⟩
abbrev M_St_init_LStringBuilder : String × ByteArray × Nat × Option FieldType × String × List (Nat × Nat × Nat × Nat) := ("java/lang/String", prog_23_method_53_code, 2, none, "<init>", [])
def y_St_init_LAbstractStringBuilderLVoid : MethodName := ⟨"java/lang/String", "<init>", "(Ljava/lang/AbstractStringBuilder;Ljava/lang/Void;)V"⟩
abbrev M_St_init_LAbstractStringBuilderLVoid : String × ByteArray × Nat × Option FieldType × String × List (Nat × Nat × Nat × Nat) := ("java/lang/String", prog_23_method_150_code, 5, none, "<init>", [])
def y_AB_getValue : MethodName := ⟨"java/lang/AbstractStringBuilder", "getValue", "()[B"⟩
abbrev M_AB_getValue : String × ByteArray × Nat × Option FieldType × String × List (Nat × Nat × Nat × Nat) := ("java/lang/AbstractStringBuilder", prog_14_method_64_code, 1, (some (.array .byte)), "getValue", [])
def y_SB_length : MethodName := ⟨"java/lang/StringBuilder", "length", "()I"⟩
abbrev M_SB_length : String × ByteArray × Nat × Option FieldType × String × List (Nat × Nat × Nat × Nat) := ("java/lang/StringBuilder", prog_24_method_93_code, 1, (some .int), "length", [])
def y_AB_length : MethodName := ⟨"java/lang/AbstractStringBuilder", "length", "()I"⟩
abbrev M_AB_length : String × ByteArray × Nat × Option FieldType × String × List (Nat × Nat × Nat × Nat) := ("java/lang/AbstractStringBuilder", prog_14_method_6_code, 1, (some .int), "length", [])
def y_Ar_copyOfRange : MethodName := ⟨"java/util/Arrays", "copyOfRange", "([BII)[B"⟩
abbrev M_Ar_copyOfRange : String × ByteArray × Nat × Option FieldType × String × List (Nat × Nat × Nat × Nat) := ("java/util/Arrays", prog_30_method_132_code, 3, (some (.array .byte)), "copyOfRange", [])
def y_Ar_copyOfRangeByte : MethodName := ⟨"java/util/Arrays", "copyOfRangeByte", "([BII)[B"⟩
abbrev M_Ar_copyOfRangeByte : String × ByteArray × Nat × Option FieldType × String × List (Nat × Nat × Nat × Nat) := ("java/util/Arrays", prog_30_method_133_code, 5, (some (.array .byte)), "copyOfRangeByte", [])
def y_Ar_checkLength : MethodName := ⟨"java/util/Arrays", "checkLength", "(II)V"⟩
abbrev M_Ar_checkLength : String × ByteArray × Nat × Option FieldType × String × List (Nat × Nat × Nat × Nat) := ("java/util/Arrays", prog_30_method_131_code, 2, none, "checkLength", [])
def y_S2_compress_aBII : MethodName := ⟨"java/lang/StringUTF16", "compress", "([BII)[B"⟩
abbrev M_S2_compress_aBII : String × ByteArray × Nat × Option FieldType × String × List (Nat × Nat × Nat × Nat) := ("java/lang/StringUTF16", prog_27_method_17_code, 6, (some (.array .byte)), "compress", [])
def y_S2_compress_aBIaBII : MethodName := ⟨"java/lang/StringUTF16", "compress", "([BI[BII)I"⟩
abbrev M_S2_compress_aBIaBII : String × ByteArray × Nat × Option FieldType × String × List (Nat × Nat × Nat × Nat) := ("java/lang/StringUTF16", prog_27_method_22_code, 7, (some .int), "compress", [])
def y_S2_coderFromArrayLen : MethodName := ⟨"java/lang/StringUTF16", "coderFromArrayLen", "([BI)B"⟩
abbrev M_S2_coderFromArrayLen : String × ByteArray × Nat × Option FieldType × String × List (Nat × Nat × Nat × Nat) := ("java/lang/StringUTF16", prog_27_method_15_code, 2, (some .byte), "coderFromArrayLen", [])
def y_S1_fillNull : MethodName := ⟨"java/lang/StringLatin1", "fillNull", "([BII)V"⟩
abbrev M_S1_fillNull : String × ByteArray × Nat × Option FieldType × String × List (Nat × Nat × Nat × Nat) := ("java/lang/StringLatin1", prog_26_method_48_code, 3, none, "fillNull", [])
def y_Ar_fill : MethodName := ⟨"java/util/Arrays", "fill", "([BIIB)V"⟩
abbrev M_Ar_fill : String × ByteArray × Nat × Option FieldType × String × List (Nat × Nat × Nat × Nat) := ("java/util/Arrays", prog_30_method_110_code, 5, none, "fill", [])
def y_Ar_rangeCheck : MethodName := ⟨"java/util/Arrays", "rangeCheck", "(III)V"⟩
abbrev M_Ar_rangeCheck : String × ByteArray × Nat × Option FieldType × String × List (Nat × Nat × Nat × Nat) := ("java/util/Arrays", prog_30_method_30_code, 3, none, "rangeCheck", [])
def y_AI_init : MethodName := ⟨"java/lang/ArrayIndexOutOfBoundsException", "<init>", "(I)V"⟩
abbrev M_AI_init : String × ByteArray × Nat × Option FieldType × String × List (Nat × Nat × Nat × Nat) := ("java/lang/ArrayIndexOutOfBoundsException", prog_15_method_3_code, 2, none, "<init>", [])
def y_S2_fillNull : MethodName := ⟨"java/lang/StringUTF16", "fillNull", "([BII)V"⟩
abbrev M_S2_fillNull : String × ByteArray × Nat × Option FieldType × String × List (Nat × Nat × Nat × Nat) := ("java/lang/StringUTF16", prog_27_method_70_code, 3, none, "fillNull", [])
def y_Wr_writeSentence : MethodName := ⟨"RuleText$Writer", "writeSentence", "(LRuleText$Rule;)V"⟩
abbrev M_Wr_writeSentence : String × ByteArray × Nat × Option FieldType × String × List (Nat × Nat × Nat × Nat) := ("RuleText$Writer", prog_11_method_3_code, 2, none, "writeSentence", [])
def y_Wr_writeScope : MethodName := ⟨"RuleText$Writer", "writeScope", "(LRuleText$Rule;)V"⟩
abbrev M_Wr_writeScope : String × ByteArray × Nat × Option FieldType × String × List (Nat × Nat × Nat × Nat) := ("RuleText$Writer", prog_11_method_4_code, 2, none, "writeScope", [])
def y_Wr_writeThing : MethodName := ⟨"RuleText$Writer", "writeThing", "(I)V"⟩
abbrev M_Wr_writeThing : String × ByteArray × Nat × Option FieldType × String × List (Nat × Nat × Nat × Nat) := ("RuleText$Writer", prog_11_method_5_code, 2, none, "writeThing", [])
def y_Wr_writeName : MethodName := ⟨"RuleText$Writer", "writeName", "(I)V"⟩
abbrev M_Wr_writeName : String × ByteArray × Nat × Option FieldType × String × List (Nat × Nat × Nat × Nat) := ("RuleText$Writer", prog_11_method_6_code, 3, none, "writeName", [])
def y_SB_append_C : MethodName := ⟨"java/lang/StringBuilder", "append", "(C)Ljava/lang/StringBuilder;"⟩
abbrev M_SB_append_C : String × ByteArray × Nat × Option FieldType × String × List (Nat × Nat × Nat × Nat) := ("java/lang/StringBuilder", prog_24_method_14_code, 2, (some (.object "java/lang/StringBuilder")), "append", [])
def y_AB_append_C : MethodName := ⟨"java/lang/AbstractStringBuilder", "append", "(C)Ljava/lang/AbstractStringBuilder;"⟩
abbrev M_AB_append_C : String × ByteArray × Nat × Option FieldType × String × List (Nat × Nat × Nat × Nat) := ("java/lang/AbstractStringBuilder", prog_14_method_31_code, 2, (some (.object "java/lang/AbstractStringBuilder")), "append", [])
def y_S1_canEncode : MethodName := ⟨"java/lang/StringLatin1", "canEncode", "(C)Z"⟩
abbrev M_S1_canEncode : String × ByteArray × Nat × Option FieldType × String × List (Nat × Nat × Nat × Nat) := ("java/lang/StringLatin1", prog_26_method_3_code, 1, (some .boolean), "canEncode", [])
def y_S2_putCharSB : MethodName := ⟨"java/lang/StringUTF16", "putCharSB", "([BII)V"⟩
abbrev M_S2_putCharSB : String × ByteArray × Nat × Option FieldType × String × List (Nat × Nat × Nat × Nat) := ("java/lang/StringUTF16", prog_27_method_71_code, 3, none, "putCharSB", [])
def y_Wr_writeLayer : MethodName := ⟨"RuleText$Writer", "writeLayer", "(I)V"⟩
abbrev M_Wr_writeLayer : String × ByteArray × Nat × Option FieldType × String × List (Nat × Nat × Nat × Nat) := ("RuleText$Writer", prog_11_method_7_code, 2, none, "writeLayer", [])
def y_Wr_writeArea : MethodName := ⟨"RuleText$Writer", "writeArea", "(I)V"⟩
abbrev M_Wr_writeArea : String × ByteArray × Nat × Option FieldType × String × List (Nat × Nat × Nat × Nat) := ("RuleText$Writer", prog_11_method_8_code, 2, none, "writeArea", [])
def y_Wr_writeRank : MethodName := ⟨"RuleText$Writer", "writeRank", "(I)V"⟩
abbrev M_Wr_writeRank : String × ByteArray × Nat × Option FieldType × String × List (Nat × Nat × Nat × Nat) := ("RuleText$Writer", prog_11_method_9_code, 2, none, "writeRank", [])
def y_Wr_writeSpan : MethodName := ⟨"RuleText$Writer", "writeSpan", "(LRuleText$Rule;)V"⟩
abbrev M_Wr_writeSpan : String × ByteArray × Nat × Option FieldType × String × List (Nat × Nat × Nat × Nat) := ("RuleText$Writer", prog_11_method_10_code, 2, none, "writeSpan", [])
def y_Wr_writeNumber : MethodName := ⟨"RuleText$Writer", "writeNumber", "(J)V"⟩
abbrev M_Wr_writeNumber : String × ByteArray × Nat × Option FieldType × String × List (Nat × Nat × Nat × Nat) := ("RuleText$Writer", prog_11_method_11_code, 5, none, "writeNumber", [])
def y_SB_charAt : MethodName := ⟨"java/lang/StringBuilder", "charAt", "(I)C"⟩
abbrev M_SB_charAt : String × ByteArray × Nat × Option FieldType × String × List (Nat × Nat × Nat × Nat) := ("java/lang/StringBuilder", prog_24_method_88_code, 2, (some .char), "charAt", [])
def y_AB_charAt : MethodName := ⟨"java/lang/AbstractStringBuilder", "charAt", "(I)C"⟩
abbrev M_AB_charAt : String × ByteArray × Nat × Option FieldType × String × List (Nat × Nat × Nat × Nat) := ("java/lang/AbstractStringBuilder", prog_14_method_14_code, 5, (some .char), "charAt", [])
def y_Mo_init : MethodName := ⟨"RuleTextModel", "<init>", "()V"⟩
abbrev M_Mo_init : String × ByteArray × Nat × Option FieldType × String × List (Nat × Nat × Nat × Nat) := ("RuleTextModel", prog_13_method_1_code, 1, none, "<init>", [])
def y_Mo_thrown : MethodName := ⟨"RuleTextModel", "thrown", "()I"⟩
abbrev M_Mo_thrown : String × ByteArray × Nat × Option FieldType × String × List (Nat × Nat × Nat × Nat) := ("RuleTextModel", prog_13_method_2_code, 1, (some .int), "thrown", [])
def y_Mo_unit : MethodName := ⟨"RuleTextModel", "unit", "(I)Z"⟩
abbrev M_Mo_unit : String × ByteArray × Nat × Option FieldType × String × List (Nat × Nat × Nat × Nat) := ("RuleTextModel", prog_13_method_5_code, 3, (some .boolean), "unit", [])
def y_Mo_isLetter : MethodName := ⟨"RuleTextModel", "isLetter", "(I)Z"⟩
abbrev M_Mo_isLetter : String × ByteArray × Nat × Option FieldType × String × List (Nat × Nat × Nat × Nat) := ("RuleTextModel", prog_13_method_3_code, 1, (some .boolean), "isLetter", [])
def y_Mo_isDigit : MethodName := ⟨"RuleTextModel", "isDigit", "(I)Z"⟩
abbrev M_Mo_isDigit : String × ByteArray × Nat × Option FieldType × String × List (Nat × Nat × Nat × Nat) := ("RuleTextModel", prog_13_method_4_code, 1, (some .boolean), "isDigit", [])
def y_Mo_clear : MethodName := ⟨"RuleTextModel", "clear", "()V"⟩
abbrev M_Mo_clear : String × ByteArray × Nat × Option FieldType × String × List (Nat × Nat × Nat × Nat) := ("RuleTextModel", prog_13_method_6_code, 1, none, "clear", [])
def y_Mo_name : MethodName := ⟨"RuleTextModel", "name", "(III)Z"⟩
abbrev M_Mo_name : String × ByteArray × Nat × Option FieldType × String × List (Nat × Nat × Nat × Nat) := ("RuleTextModel", prog_13_method_7_code, 5, (some .boolean), "name", [])
def y_Mo_shape : MethodName := ⟨"RuleTextModel", "shape", "(IJJJJ)Z"⟩
abbrev M_Mo_shape : String × ByteArray × Nat × Option FieldType × String × List (Nat × Nat × Nat × Nat) := ("RuleTextModel", prog_13_method_8_code, 10, (some .boolean), "shape", [])
def y_Mo_read : MethodName := ⟨"RuleTextModel", "read", "()I"⟩
abbrev M_Mo_read : String × ByteArray × Nat × Option FieldType × String × List (Nat × Nat × Nat × Nat) := ("RuleTextModel", prog_13_method_33_code, 3, (some .int), "read", [])
def y_Mo_findWords : MethodName := ⟨"RuleTextModel", "findWords", "()V"⟩
abbrev M_Mo_findWords : String × ByteArray × Nat × Option FieldType × String × List (Nat × Nat × Nat × Nat) := ("RuleTextModel", prog_13_method_10_code, 3, none, "findWords", [])
def y_Mo_isWordSign : MethodName := ⟨"RuleTextModel", "isWordSign", "(I)Z"⟩
abbrev M_Mo_isWordSign : String × ByteArray × Nat × Option FieldType × String × List (Nat × Nat × Nat × Nat) := ("RuleTextModel", prog_13_method_9_code, 1, (some .boolean), "isWordSign", [])
def y_Mo_good : MethodName := ⟨"RuleTextModel", "good", "()Z"⟩
abbrev M_Mo_good : String × ByteArray × Nat × Option FieldType × String × List (Nat × Nat × Nat × Nat) := ("RuleTextModel", prog_13_method_15_code, 1, (some .boolean), "good", [])
def y_Mo_fail : MethodName := ⟨"RuleTextModel", "fail", "(I)V"⟩
abbrev M_Mo_fail : String × ByteArray × Nat × Option FieldType × String × List (Nat × Nat × Nat × Nat) := ("RuleTextModel", prog_13_method_16_code, 2, none, "fail", [])
def y_Mo_sentence : MethodName := ⟨"RuleTextModel", "sentence", "()V"⟩
abbrev M_Mo_sentence : String × ByteArray × Nat × Option FieldType × String × List (Nat × Nat × Nat × Nat) := ("RuleTextModel", prog_13_method_32_code, 3, none, "sentence", [])
def y_Mo_spelt : MethodName := ⟨"RuleTextModel", "spelt", "()J"⟩
abbrev M_Mo_spelt : String × ByteArray × Nat × Option FieldType × String × List (Nat × Nat × Nat × Nat) := ("RuleTextModel", prog_13_method_12_code, 4, (some .long), "spelt", [])
def y_Mo_length : MethodName := ⟨"RuleTextModel", "length", "()I"⟩
abbrev M_Mo_length : String × ByteArray × Nat × Option FieldType × String × List (Nat × Nat × Nat × Nat) := ("RuleTextModel", prog_13_method_11_code, 1, (some .int), "length", [])
def y_Mo_kindWord : MethodName := ⟨"RuleTextModel", "kindWord", "(I)J"⟩
abbrev M_Mo_kindWord : String × ByteArray × Nat × Option FieldType × String × List (Nat × Nat × Nat × Nat) := ("RuleTextModel", prog_13_method_14_code, 1, (some .long), "kindWord", [])
def y_Mo_word : MethodName := ⟨"RuleTextModel", "word", "(IIIIIII)J"⟩
abbrev M_Mo_word : String × ByteArray × Nat × Option FieldType × String × List (Nat × Nat × Nat × Nat) := ("RuleTextModel", prog_13_method_13_code, 9, (some .long), "word", [])
def y_Mo_lineOf : MethodName := ⟨"RuleTextModel", "lineOf", "(I)I"⟩
abbrev M_Mo_lineOf : String × ByteArray × Nat × Option FieldType × String × List (Nat × Nat × Nat × Nat) := ("RuleTextModel", prog_13_method_31_code, 4, (some .int), "lineOf", [])
def y_Mo_thing : MethodName := ⟨"RuleTextModel", "thing", "(I)V"⟩
abbrev M_Mo_thing : String × ByteArray × Nat × Option FieldType × String × List (Nat × Nat × Nat × Nat) := ("RuleTextModel", prog_13_method_21_code, 4, none, "thing", [])
def y_Mo_took : MethodName := ⟨"RuleTextModel", "took", "(J)Z"⟩
abbrev M_Mo_took : String × ByteArray × Nat × Option FieldType × String × List (Nat × Nat × Nat × Nat) := ("RuleTextModel", prog_13_method_17_code, 4, (some .boolean), "took", [])
def y_Mo_named : MethodName := ⟨"RuleTextModel", "named", "(I)I"⟩
abbrev M_Mo_named : String × ByteArray × Nat × Option FieldType × String × List (Nat × Nat × Nat × Nat) := ("RuleTextModel", prog_13_method_20_code, 5, (some .int), "named", [])
def y_Mo_expect : MethodName := ⟨"RuleTextModel", "expect", "(J)V"⟩
abbrev M_Mo_expect : String × ByteArray × Nat × Option FieldType × String × List (Nat × Nat × Nat × Nat) := ("RuleTextModel", prog_13_method_18_code, 3, none, "expect", [])
def y_Mo_layer : MethodName := ⟨"RuleTextModel", "layer", "()V"⟩
abbrev M_Mo_layer : String × ByteArray × Nat × Option FieldType × String × List (Nat × Nat × Nat × Nat) := ("RuleTextModel", prog_13_method_23_code, 1, none, "layer", [])
def y_Mo_small : MethodName := ⟨"RuleTextModel", "small", "(II)I"⟩
abbrev M_Mo_small : String × ByteArray × Nat × Option FieldType × String × List (Nat × Nat × Nat × Nat) := ("RuleTextModel", prog_13_method_22_code, 6, (some .int), "small", [])
def y_Mo_value_ : MethodName := ⟨"RuleTextModel", "value", "()V"⟩
abbrev M_Mo_value_ : String × ByteArray × Nat × Option FieldType × String × List (Nat × Nat × Nat × Nat) := ("RuleTextModel", prog_13_method_30_code, 11, none, "value", [])
def y_Mo_number : MethodName := ⟨"RuleTextModel", "number", "()V"⟩
abbrev M_Mo_number : String × ByteArray × Nat × Option FieldType × String × List (Nat × Nat × Nat × Nat) := ("RuleTextModel", prog_13_method_25_code, 1, none, "number", [])
def y_Mo_tookNumber : MethodName := ⟨"RuleTextModel", "tookNumber", "()Z"⟩
abbrev M_Mo_tookNumber : String × ByteArray × Nat × Option FieldType × String × List (Nat × Nat × Nat × Nat) := ("RuleTextModel", prog_13_method_24_code, 9, (some .boolean), "tookNumber", [])
def y_Mo_bare : MethodName := ⟨"RuleTextModel", "bare", "(JI)V"⟩
abbrev M_Mo_bare : String × ByteArray × Nat × Option FieldType × String × List (Nat × Nat × Nat × Nat) := ("RuleTextModel", prog_13_method_29_code, 4, none, "bare", [])
def y_Mo_isBare : MethodName := ⟨"RuleTextModel", "isBare", "()Z"⟩
abbrev M_Mo_isBare : String × ByteArray × Nat × Option FieldType × String × List (Nat × Nat × Nat × Nat) := ("RuleTextModel", prog_13_method_28_code, 1, (some .boolean), "isBare", [])
def y_Mo_unitOf : MethodName := ⟨"RuleTextModel", "unitOf", "()J"⟩
abbrev M_Mo_unitOf : String × ByteArray × Nat × Option FieldType × String × List (Nat × Nat × Nat × Nat) := ("RuleTextModel", prog_13_method_26_code, 5, (some .long), "unitOf", [])
def y_Mo_whole : MethodName := ⟨"RuleTextModel", "whole", "(JJI)J"⟩
abbrev M_Mo_whole : String × ByteArray × Nat × Option FieldType × String × List (Nat × Nat × Nat × Nat) := ("RuleTextModel", prog_13_method_27_code, 13, (some .long), "whole", [])
def y_Mo_isSemicolon : MethodName := ⟨"RuleTextModel", "isSemicolon", "()Z"⟩
abbrev M_Mo_isSemicolon : String × ByteArray × Nat × Option FieldType × String × List (Nat × Nat × Nat × Nat) := ("RuleTextModel", prog_13_method_19_code, 1, (some .boolean), "isSemicolon", [])
def y_Mo_rule : MethodName := ⟨"RuleTextModel", "rule", "(II)I"⟩
abbrev M_Mo_rule : String × ByteArray × Nat × Option FieldType × String × List (Nat × Nat × Nat × Nat) := ("RuleTextModel", prog_13_method_35_code, 3, (some .int), "rule", [])
def y_Mo_isRule : MethodName := ⟨"RuleTextModel", "isRule", "(I)Z"⟩
abbrev M_Mo_isRule : String × ByteArray × Nat × Option FieldType × String × List (Nat × Nat × Nat × Nat) := ("RuleTextModel", prog_13_method_34_code, 2, (some .boolean), "isRule", [])
def y_Mo_value_II : MethodName := ⟨"RuleTextModel", "value", "(II)J"⟩
abbrev M_Mo_value_II : String × ByteArray × Nat × Option FieldType × String × List (Nat × Nat × Nat × Nat) := ("RuleTextModel", prog_13_method_36_code, 3, (some .long), "value", [])
def y_Mo_rank : MethodName := ⟨"RuleTextModel", "rank", "(I)I"⟩
abbrev M_Mo_rank : String × ByteArray × Nat × Option FieldType × String × List (Nat × Nat × Nat × Nat) := ("RuleTextModel", prog_13_method_38_code, 4, (some .int), "rank", [])
def y_Mo_isAhead : MethodName := ⟨"RuleTextModel", "isAhead", "(II)Z"⟩
abbrev M_Mo_isAhead : String × ByteArray × Nat × Option FieldType × String × List (Nat × Nat × Nat × Nat) := ("RuleTextModel", prog_13_method_37_code, 7, (some .boolean), "isAhead", [])
def y_Mo_never : MethodName := ⟨"RuleTextModel", "never", "(I)I"⟩
abbrev M_Mo_never : String × ByteArray × Nat × Option FieldType × String × List (Nat × Nat × Nat × Nat) := ("RuleTextModel", prog_13_method_42_code, 6, (some .int), "never", [])
def y_Mo_covers : MethodName := ⟨"RuleTextModel", "covers", "(II)Z"⟩
abbrev M_Mo_covers : String × ByteArray × Nat × Option FieldType × String × List (Nat × Nat × Nat × Nat) := ("RuleTextModel", prog_13_method_41_code, 10, (some .boolean), "covers", [])
def y_Mo_isLike : MethodName := ⟨"RuleTextModel", "isLike", "(IIII)Z"⟩
abbrev M_Mo_isLike : String × ByteArray × Nat × Option FieldType × String × List (Nat × Nat × Nat × Nat) := ("RuleTextModel", prog_13_method_39_code, 5, (some .boolean), "isLike", [])
def y_Mo_holds : MethodName := ⟨"RuleTextModel", "holds", "(JJ)Z"⟩
abbrev M_Mo_holds : String × ByteArray × Nat × Option FieldType × String × List (Nat × Nat × Nat × Nat) := ("RuleTextModel", prog_13_method_40_code, 7, (some .boolean), "holds", [])
def y_Mo_clash : MethodName := ⟨"RuleTextModel", "clash", "(II)I"⟩
abbrev M_Mo_clash : String × ByteArray × Nat × Option FieldType × String × List (Nat × Nat × Nat × Nat) := ("RuleTextModel", prog_13_method_44_code, 6, (some .int), "clash", [])
def y_Mo_isClash : MethodName := ⟨"RuleTextModel", "isClash", "(II)Z"⟩
abbrev M_Mo_isClash : String × ByteArray × Nat × Option FieldType × String × List (Nat × Nat × Nat × Nat) := ("RuleTextModel", prog_13_method_43_code, 11, (some .boolean), "isClash", [])
def y_Mo_line : MethodName := ⟨"RuleTextModel", "line", "(I)I"⟩
abbrev M_Mo_line : String × ByteArray × Nat × Option FieldType × String × List (Nat × Nat × Nat × Nat) := ("RuleTextModel", prog_13_method_45_code, 2, (some .int), "line", [])
def y_Mo_kinds : MethodName := ⟨"RuleTextModel", "kinds", "()I"⟩
abbrev M_Mo_kinds : String × ByteArray × Nat × Option FieldType × String × List (Nat × Nat × Nat × Nat) := ("RuleTextModel", prog_13_method_46_code, 3, (some .int), "kinds", [])
def y_Mo_write : MethodName := ⟨"RuleTextModel", "write", "(I)I"⟩
abbrev M_Mo_write : String × ByteArray × Nat × Option FieldType × String × List (Nat × Nat × Nat × Nat) := ("RuleTextModel", prog_13_method_54_code, 3, (some .int), "write", [])
def y_Mo_sayRule : MethodName := ⟨"RuleTextModel", "sayRule", "(I)V"⟩
abbrev M_Mo_sayRule : String × ByteArray × Nat × Option FieldType × String × List (Nat × Nat × Nat × Nat) := ("RuleTextModel", prog_13_method_52_code, 3, none, "sayRule", [])
def y_Mo_sayWord : MethodName := ⟨"RuleTextModel", "sayWord", "(J)V"⟩
abbrev M_Mo_sayWord : String × ByteArray × Nat × Option FieldType × String × List (Nat × Nat × Nat × Nat) := ("RuleTextModel", prog_13_method_48_code, 4, none, "sayWord", [])
def y_Mo_say : MethodName := ⟨"RuleTextModel", "say", "(I)V"⟩
abbrev M_Mo_say : String × ByteArray × Nat × Option FieldType × String × List (Nat × Nat × Nat × Nat) := ("RuleTextModel", prog_13_method_47_code, 2, none, "say", [])
def y_Mo_sayThing : MethodName := ⟨"RuleTextModel", "sayThing", "(I)V"⟩
abbrev M_Mo_sayThing : String × ByteArray × Nat × Option FieldType × String × List (Nat × Nat × Nat × Nat) := ("RuleTextModel", prog_13_method_51_code, 2, none, "sayThing", [])
def y_Mo_sayName : MethodName := ⟨"RuleTextModel", "sayName", "(IJ)V"⟩
abbrev M_Mo_sayName : String × ByteArray × Nat × Option FieldType × String × List (Nat × Nat × Nat × Nat) := ("RuleTextModel", prog_13_method_50_code, 6, none, "sayName", [])
def y_Mo_sayRest : MethodName := ⟨"RuleTextModel", "sayRest", "(I)V"⟩
abbrev M_Mo_sayRest : String × ByteArray × Nat × Option FieldType × String × List (Nat × Nat × Nat × Nat) := ("RuleTextModel", prog_13_method_53_code, 8, none, "sayRest", [])
def y_Mo_sayNumber : MethodName := ⟨"RuleTextModel", "sayNumber", "(J)V"⟩
abbrev M_Mo_sayNumber : String × ByteArray × Nat × Option FieldType × String × List (Nat × Nat × Nat × Nat) := ("RuleTextModel", prog_13_method_49_code, 5, none, "sayNumber", [])
def rx_NB : List Cond := [(Jvm.Cond.methodLinkNest "RuleText" (9 : Nat) ({ cls := "RuleText$Names", name := "<init>", desc := "()V" } : Jvm.MethodName) "RuleText"), (Jvm.Cond.methodLinkNest "RuleText" (18 : Nat) ({ cls := "RuleText$Shapes", name := "<init>", desc := "()V" } : Jvm.MethodName) "RuleText"), (Jvm.Cond.methodLinkNest "RuleText" (25 : Nat) ({ cls := "RuleText$Words", name := "<init>", desc := "()V" } : Jvm.MethodName) "RuleText"), (Jvm.Cond.methodLinkNest "RuleText$Reader" (11 : Nat) ({ cls := "RuleText$Amount", name := "<init>", desc := "()V" } : Jvm.MethodName) "RuleText"), (Jvm.Cond.methodLinkNest "RuleText$RuleList" (17 : Nat) ({ cls := "RuleText$Rule", name := "<init>", desc := "()V" } : Jvm.MethodName) "RuleText"), (Jvm.Cond.methodLinkNest "RuleText$Words" (15 : Nat) ({ cls := "RuleText", name := "isLetterOrDigit", desc := "(I)Z" } : Jvm.MethodName) "RuleText"), (Jvm.Cond.fieldLinkNest "RuleText$Reader" (98 : Nat) "RuleText" "KINDS" "[LRuleText$Kind;" "RuleText"), (Jvm.Cond.methodLinkNest "RuleText$Names" (29 : Nat) ({ cls := "RuleText", name := "slotOf", desc := "(II)I" } : Jvm.MethodName) "RuleText"), (Jvm.Cond.methodLinkNest "RuleText$Reader" (142 : Nat) ({ cls := "RuleText", name := "slotOf", desc := "(II)I" } : Jvm.MethodName) "RuleText"), (Jvm.Cond.fieldLinkNest "RuleText$Reader" (240 : Nat) "RuleText" "UNITS" "[LRuleText$Unit;" "RuleText"), (Jvm.Cond.methodLinkNest "RuleText$Names" (19 : Nat) ({ cls := "RuleText", name := "isLetterOrDigit", desc := "(I)Z" } : Jvm.MethodName) "RuleText"), (Jvm.Cond.methodLinkNest "RuleText$Writer" (106 : Nat) ({ cls := "RuleText", name := "kindOf", desc := "(I)I" } : Jvm.MethodName) "RuleText"), (Jvm.Cond.methodLinkNest "RuleText$Writer" (143 : Nat) ({ cls := "RuleText", name := "slotOf", desc := "(II)I" } : Jvm.MethodName) "RuleText")]
theorem rx_NB_in : ∀ w ∈ rx_NB, w ∈ tables_1 := by
  intro w hw
  unfold rx_NB at hw
  simp only [List.mem_cons, List.not_mem_nil, or_false] at hw
  rcases hw with rfl | rfl | rfl | rfl | rfl | rfl | rfl | rfl | rfl | rfl | rfl | rfl | rfl
  · exact (tm_1 (List.mem_of_getElem? (i := 40) rfl))
  · exact (tm_1 (List.mem_of_getElem? (i := 57) rfl))
  · exact (tm_1 (List.mem_of_getElem? (i := 81) rfl))
  · exact (tm_1 (List.mem_of_getElem? (i := 124) rfl))
  · exact (tm_1 (List.mem_of_getElem? (i := 215) rfl))
  · exact (tm_2 (List.mem_of_getElem? (i := 81) rfl))
  · exact (tm_2 (List.mem_of_getElem? (i := 112) rfl))
  · exact (tm_2 (List.mem_of_getElem? (i := 203) rfl))
  · exact (tm_2 (List.mem_of_getElem? (i := 210) rfl))
  · exact (tm_3 (List.mem_of_getElem? (i := 39) rfl))
  · exact (tm_3 (List.mem_of_getElem? (i := 179) rfl))
  · exact (tm_5 (List.mem_of_getElem? (i := 45) rfl))
  · exact (tm_5 (List.mem_of_getElem? (i := 80) rfl))
end
section
/-! THE LAYER: one memory of numbered cells for the class and the reference; a method's walk over it -/
/-- next number, kind and length of each cell, its ints, its longs, its references -/
abbrev rx_S : Type := Nat × (Nat → Nat × Nat) × (Nat → Nat → Int32) × (Nat → Nat → Int64) × (Nat → Nat → Option Nat)
/-- classes, array classes, where the cells below 256 lie, the heap at the start, the script -/
abbrev rx_E : Type := va_G × (Nat → ClassId) × (Nat → Nat) × Heap × Nat × (Nat → Int32)
def rx_ea (ev : rx_E) (r : Nat) : Nat := if r < 256 then ev.2.2.1 r else ev.2.2.2.1.size + (r - 256)
def rx_tv (ev : rx_E) (v : Value) : Value := match v with
  | .ref a => .ref (rx_ea ev a)
  | w => w
def rx_u {α : Type} (f : Nat → Nat → α) (r k : Nat) (v : α) : Nat → Nat → α := va_up f r (va_up (f r) k v)
theorem rx_u_same {α : Type} (f : Nat → Nat → α) (r k : Nat) (v : α) : rx_u f r k v r k = v := by simp [rx_u, va_up]
theorem rx_u_k {α : Type} (f : Nat → Nat → α) {r k j : Nat} (v : α) (h : j ≠ k) : rx_u f r k v r j = f r j := by simp [rx_u, va_up, h]
theorem rx_u_r {α : Type} (f : Nat → Nat → α) {r k q : Nat} (v : α) (h : q ≠ r) : rx_u f r k v q = f q := by simp [rx_u, va_up, h]
theorem rx_u_at {α : Type} (f : Nat → Nat → α) (r k : Nat) (v : α) : rx_u f r k v r = va_up (f r) k v := by simp [rx_u, va_up]
theorem rx_u_u {α : Type} (f : Nat → Nat → α) (r k : Nat) (v w : α) : rx_u (rx_u f r k v) r k w = rx_u f r k w := by
  funext q j
  by_cases h : q = r
  · subst h
    by_cases hj : j = k
    · subst hj; rw [rx_u_same, rx_u_same]
    · rw [rx_u_k _ _ hj, rx_u_k _ _ hj, rx_u_k _ _ hj]
  · rw [rx_u_r _ _ h, rx_u_r _ _ h, rx_u_r _ _ h]
theorem rx_u_id {α : Type} (f : Nat → Nat → α) (r k : Nat) : rx_u f r k (f r k) = f := by
  funext q j
  by_cases h : q = r
  · subst h
    by_cases hj : j = k
    · subst hj; rw [rx_u_same]
    · rw [rx_u_k _ _ hj]
  · rw [rx_u_r _ _ h]
def rx_fv (ev : rx_E) (mi : Nat → Nat → Int32) (ml : Nat → Nat → Int64) (mr : Nat → Nat → Option Nat) (r : Nat) (t : FieldType) (k : Nat) : Value := match t with
  | .long => .long (ml r k)
  | .object _ => rx_tv ev (va_rf (mr r k))
  | .array _ => rx_tv ev (va_rf (mr r k))
  | _ => .int (mi r k)
def rx_con (ev : rx_E) (mi : Nat → Nat → Int32) (ml : Nat → Nat → Int64) (mr : Nat → Nat → Option Nat) (tg r : Nat) : (Nat → Int32) ⊕ (Nat → Int64) ⊕ (Nat → UInt32) ⊕ (Nat → UInt64) ⊕ (Nat → Option Nat) :=
  if tg < 104 then .inl (mi r) else if tg = 104 then .inr (.inl (ml r)) else .inr (.inr (.inr (.inr (fun i => (mr r i).map (rx_ea ev)))))
def rx_cell (ev : rx_E) (σ : rx_S) (r : Nat) (H : Heap) : Prop :=
  (∀ ci n, σ.2.1 r = (ci, n) → ci < 90 → ∃ q : vw_C, vwCl[ci]? = some q ∧ t_OB (rx_ea ev r) (ev.1.1 ci) q.2.2 (ev.1.2 ci) H (fun k => rx_fv ev σ.2.2.1 σ.2.2.2.1 σ.2.2.2.2 r (rx_ty ci k) k)) ∧
  (∀ tg n, σ.2.1 r = (tg, n) → 100 ≤ tg → H[rx_ea ev r]? = some (vp_cell (ev.2.1 tg) (n, rx_con ev σ.2.2.1 σ.2.2.2.1 σ.2.2.2.2 tg r))) ∧
  (∃ cell : Cell, H[rx_ea ev r]? = some cell ∧ cell.vm.isStatics = false)
def rx_R (ev : rx_E) (σ : rx_S) (H : Heap) : Prop :=
  256 ≤ σ.1 ∧ H.size = ev.2.2.2.1.size + (σ.1 - 256) ∧ (∀ q : Nat, q < ev.2.2.2.1.size → H[q]? = ev.2.2.2.1[q]?) ∧ (∀ r, 256 ≤ r → r < σ.1 → rx_cell ev σ r H) ∧ (σ.2.1 0 = (100, ev.2.2.2.2.1) ∧ ∀ j, j < ev.2.2.2.2.1 → σ.2.2.1 0 j = ev.2.2.2.2.2 j)
/-- cell r is of this kind and length -/
def rx_is (σ : rx_S) (r tg n : Nat) : Prop := 256 ≤ r ∧ r < σ.1 ∧ σ.2.1 r = (tg, n)
theorem rx_ea_in {ev : rx_E} {r : Nat} (h : 256 ≤ r) : rx_ea ev r = ev.2.2.2.1.size + (r - 256) := by
  unfold rx_ea
  rw [if_neg (by omega)]
theorem rx_ea_inj {ev : rx_E} {r q : Nat} (h : 256 ≤ r) (h2 : 256 ≤ q) (e : rx_ea ev r = rx_ea ev q) : r = q := by
  rw [rx_ea_in h, rx_ea_in h2] at e
  omega
theorem rx_R.new {ev : rx_E} {σ : rx_S} {H : Heap} (h : rx_R ev σ H) : rx_ea ev σ.1 = H.size := by
  rw [rx_ea_in h.1, h.2.1]
theorem rx_cell.kept {ev : rx_E} {σ σ' : rx_S} {r : Nat} {H H1 : Heap} (h : rx_cell ev σ r H) (hH : H1[rx_ea ev r]? = H[rx_ea ev r]?) (hc : σ'.2.1 r = σ.2.1 r) (hi : σ'.2.2.1 r = σ.2.2.1 r) (hl : σ'.2.2.2.1 r = σ.2.2.2.1 r) (hr : σ'.2.2.2.2 r = σ.2.2.2.2 r) : rx_cell ev σ' r H1 := by
  refine ⟨fun ci n e hci => ?_, fun tg n e htg => ?_, by rw [hH]; exact h.2.2⟩
  · obtain ⟨q, h1, h2⟩ := h.1 ci n (hc ▸ e) hci
    refine ⟨q, h1, (h2.kept hH).to (fun k _ => ?_)⟩
    show rx_fv _ _ _ _ r _ k = rx_fv _ _ _ _ r _ k
    unfold rx_fv
    split <;> simp only [hi, hl, hr]
  · rw [hH, h.2.1 tg n (hc ▸ e) htg]
    unfold rx_con
    simp only [hi, hl, hr]
/-- one cell changes -/
theorem rx_R.upd {ev : rx_E} {σ σ' : rx_S} {r : Nat} {H H1 : Heap} (h : rx_R ev σ H) (hr0 : 256 ≤ r) (hr1 : r < σ.1) (hn : σ'.1 = σ.1) (hz : H1.size = H.size) (ho : ∀ q : Nat, q ≠ rx_ea ev r → H1[q]? = H[q]?)
    (hs : ∀ q : Nat, q ≠ r → σ'.2.1 q = σ.2.1 q ∧ σ'.2.2.1 q = σ.2.2.1 q ∧ σ'.2.2.2.1 q = σ.2.2.2.1 q ∧ σ'.2.2.2.2 q = σ.2.2.2.2 q) (hc : rx_cell ev σ' r H1) : rx_R ev σ' H1 := by
  obtain ⟨h1, h2, h3, h4, h5, h6⟩ := h
  obtain ⟨z1, z2, -⟩ := hs 0 (by omega)
  refine ⟨by rw [hn]; exact h1, by rw [hz, hn]; exact h2, fun q hq => ?_, fun q hq0 hq1 => ?_, by rw [z1]; exact h5, fun j hj => by rw [z2]; exact h6 j hj⟩
  · rw [ho q (by rw [rx_ea_in hr0]; omega)]
    exact h3 q hq
  · by_cases e : q = r
    · subst e; exact hc
    · obtain ⟨s1, s2, s3, s4⟩ := hs q e
      exact (h4 q hq0 (by rw [← hn]; exact hq1)).kept (ho _ (fun z => e (rx_ea_inj hq0 hr0 z))) s1 s2 s3 s4
/-- one cell comes -/
theorem rx_R.grow {ev : rx_E} {σ σ' : rx_S} {H H1 : Heap} (h : rx_R ev σ H) (hn : σ'.1 = σ.1 + 1) (hz : H1.size = H.size + 1) (ho : ∀ q : Nat, q < H.size → H1[q]? = H[q]?)
    (hs : ∀ q : Nat, q ≠ σ.1 → σ'.2.1 q = σ.2.1 q ∧ σ'.2.2.1 q = σ.2.2.1 q ∧ σ'.2.2.2.1 q = σ.2.2.2.1 q ∧ σ'.2.2.2.2 q = σ.2.2.2.2 q) (hc : rx_cell ev σ' σ.1 H1) : rx_R ev σ' H1 := by
  obtain ⟨h1, h2, h3, h4, h5, h6⟩ := h
  obtain ⟨z1, z2, -⟩ := hs 0 (by omega)
  refine ⟨by omega, by rw [hz, hn, h2]; omega, fun q hq => ?_, fun q hq0 hq1 => ?_, by rw [z1]; exact h5, fun j hj => by rw [z2]; exact h6 j hj⟩
  · rw [ho q (by omega)]
    exact h3 q hq
  · by_cases e : q = σ.1
    · subst e; exact hc
    · obtain ⟨s1, s2, s3, s4⟩ := hs q e
      refine (h4 q hq0 (by omega)).kept (ho _ ?_) s1 s2 s3 s4
      rw [rx_ea_in hq0]; omega
end
section
/-! THE ENVIRONMENT: what stands from the start: constants of enums, tables, texts, the script -/
def rx_kw (i : Nat) : Nat := ([73, 75, 76, 77, 78, 79, 80, 81, 82, 83, 84, 85, 74] : List Nat).getD i 0
def rx_kc (i : Nat) : Int32 := ([0, 0, 0, 0, 0, 1, 0, 0, 0, 1, 0, 0, 0] : List Int32).getD i 0
def rx_uw (i : Nat) : Nat := ([86, 87, 88, 89, 90] : List Nat).getD i 0
def rx_un (i : Nat) : Int64 := ([1, 1000, 1000000, 25400, 25400000] : List Int64).getD i 0
/-- the texts, by their bytes -/
def rx_tx (s : Nat) : List Int32 := ([[98, 101, 116, 119, 101, 101, 110], [111, 102], [97, 110, 121], [99, 108, 97, 115, 115], [110, 101, 116], [97, 110, 100], [111, 110], [108, 97, 121, 101, 114], [116, 111, 112], [98, 111, 116, 116, 111, 109], [105, 110, 110, 101, 114], [105, 110], [114, 97, 110, 107], [108, 101, 97, 115, 116], [109, 111, 115, 116], [116, 111], [59], [110, 111, 32, 115, 117, 99, 104, 32, 107, 105, 110, 100, 32, 111, 114, 32, 116, 104, 105, 110, 103], [110, 111, 32, 115, 117, 99, 104, 32, 114, 117, 108, 101, 32, 111, 114, 32, 112, 97, 114, 116], [110, 111, 32, 115, 117, 99, 104, 32, 114, 117, 108, 101, 32, 111, 114, 32, 101, 110, 100], [110, 111, 32, 115, 117, 99, 104, 32, 114, 117, 108, 101], [110, 111, 32, 115, 117, 99, 104, 32, 97, 114, 101, 97], [110, 111, 32, 115, 117, 99, 104, 32, 111, 110, 101, 32, 111, 102, 32, 116, 119, 111], [110, 111, 32, 99, 104, 97, 114, 97, 99, 116, 101, 114, 32, 97, 104, 101, 97, 100, 32, 111, 102, 32, 116, 104, 101, 32, 102, 105, 114, 115, 116], [83, 116, 114, 105, 110, 103, 32, 105, 110, 100, 101, 120, 32, 111, 117, 116, 32, 111, 102, 32, 114, 97, 110, 103, 101, 58, 32], [65, 114, 114, 97, 121, 32, 105, 110, 100, 101, 120, 32, 111, 117, 116, 32, 111, 102, 32, 114, 97, 110, 103, 101, 58, 32], [32, 98, 101, 116, 119, 101, 101, 110], [32, 111, 102], [32, 97, 110, 121], [32, 99, 108, 97, 115, 115], [32, 110, 101, 116], [32, 97, 110, 100], [32, 111, 110, 32, 116, 111, 112], [32, 111, 110, 32, 98, 111, 116, 116, 111, 109], [32, 111, 110, 32, 105, 110, 110, 101, 114], [32, 111, 110, 32, 108, 97, 121, 101, 114, 32], [32, 105, 110], [32, 114, 97, 110, 107, 32], [32, 108, 101, 97, 115, 116], [32, 109, 111, 115, 116], [32, 116, 111], [32, 110, 109], [32, 59, 10], [103, 97, 112], [119, 97, 105, 118, 101], [119, 105, 100, 116, 104], [118, 105, 97], [108, 101, 110, 103, 116, 104], [115, 107, 101, 119], [116, 117, 114, 110, 115], [104, 101, 105, 103, 104, 116], [109, 97, 115, 107], [115, 105, 108, 107], [116, 101, 115, 116], [112, 108, 97, 110, 101], [114, 105, 110, 103], [110, 109], [117, 109], [109, 109], [109, 105, 108], [105, 110, 99, 104]] : List (List Int32)).getD s []
def rx_sl (s : Nat) : Nat := (rx_tx s).length
def rx_sb (s j : Nat) : Int32 := (rx_tx s).getD j 0
def rx_d1 (j : Nat) : Int32 := nI (48 + j % 10)
def rx_d10 (j : Nat) : Int32 := nI (48 + j / 10)
def rx_SR : List (String × Nat × String × Nat) := [("RuleText$Reader", 114, "between", 30), ("RuleText$Reader", 116, "of", 31), ("RuleText$Reader", 130, "any", 32), ("RuleText$Reader", 132, "class", 33), ("RuleText$Reader", 134, "net", 34), ("RuleText$Reader", 125, "and", 35), ("RuleText$Reader", 146, "on", 36), ("RuleText$Reader", 148, "layer", 37), ("RuleText$Reader", 155, "top", 38), ("RuleText$Reader", 157, "bottom", 39), ("RuleText$Reader", 159, "inner", 40), ("RuleText$Reader", 161, "in", 41), ("RuleText$Reader", 166, "rank", 42), ("RuleText$Reader", 191, "least", 43), ("RuleText$Reader", 193, "most", 44), ("RuleText$Reader", 199, "to", 45), ("RuleText$Reader", 92, ";", 46), ("RuleText", 68, "no such kind or thing", 47), ("RuleText", 87, "no such rule or part", 48), ("RuleText", 127, "no such rule or end", 49), ("RuleText", 136, "no such rule", 50), ("RuleText", 141, "no such area", 51), ("RuleText", 154, "no such one of two", 52), ("RuleText", 168, "no character ahead of the first", 53), ("java/lang/StringIndexOutOfBoundsException", 13, "String index out of range: ", 54), ("java/lang/ArrayIndexOutOfBoundsException", 13, "Array index out of range: ", 55), ("RuleText$Writer", 89, " between", 56), ("RuleText$Writer", 91, " of", 57), ("RuleText$Writer", 104, " any", 58), ("RuleText$Writer", 110, " class", 59), ("RuleText$Writer", 112, " net", 60), ("RuleText$Writer", 99, " and", 61), ("RuleText$Writer", 130, " on top", 62), ("RuleText$Writer", 132, " on bottom", 63), ("RuleText$Writer", 134, " on inner", 64), ("RuleText$Writer", 136, " on layer ", 65), ("RuleText$Writer", 141, " in", 66), ("RuleText$Writer", 147, " rank ", 67), ("RuleText$Writer", 155, " least", 68), ("RuleText$Writer", 160, " most", 69), ("RuleText$Writer", 166, " to", 70), ("RuleText$Writer", 172, " nm", 71), ("RuleText$Writer", 84, " ;\n", 72), ("RuleText$Kind", 75, "gap", 73), ("RuleText$Kind", 114, "waive", 74), ("RuleText$Kind", 81, "width", 75), ("RuleText$Kind", 84, "via", 76), ("RuleText$Kind", 87, "length", 77), ("RuleText$Kind", 90, "skew", 78), ("RuleText$Kind", 93, "turns", 79), ("RuleText$Kind", 96, "height", 80), ("RuleText$Kind", 99, "mask", 81), ("RuleText$Kind", 102, "silk", 82), ("RuleText$Kind", 105, "test", 83), ("RuleText$Kind", 108, "plane", 84), ("RuleText$Kind", 111, "ring", 85), ("RuleText$Unit", 47, "nm", 86), ("RuleText$Unit", 52, "um", 87), ("RuleText$Unit", 57, "mm", 88), ("RuleText$Unit", 62, "mil", 89), ("RuleText$Unit", 67, "inch", 90)]
def rx_ST : List (String × String × String × Value) := [("RuleText$Kind", "GAP", "LRuleText$Kind;", .ref 1), ("RuleText$Kind", "WAIVER", "LRuleText$Kind;", .ref 13), ("RuleText", "KINDS", "[LRuleText$Kind;", .ref 19), ("RuleText", "UNITS", "[LRuleText$Unit;", .ref 20), ("java/lang/String", "COMPACT_STRINGS", "Z", .int 1), ("java/lang/Integer", "DigitOnes", "[B", .ref 21), ("java/lang/Integer", "DigitTens", "[B", .ref 22)]
def rx_tys (ev : rx_E) : List (ClassId × FieldType) := [(ev.2.1 100, .int), (ev.2.1 101, .char), (ev.2.1 102, .boolean), (ev.2.1 103, .byte), (ev.2.1 104, .long), (ev.2.1 105, .object "RuleText$Rule")]
abbrev rx_A (ev : rx_E) : Nat → Prop := fun q => ev.2.2.2.1.size ≤ q
/-- what an exception's making asks beside the good words -/
def rx_DW : List Cond := [(Jvm.Cond.declares ({ cls := "java/lang/RuntimeException", name := "<init>", desc := "(Ljava/lang/String;)V" } : Jvm.MethodName)), (Jvm.Cond.declares ({ cls := "java/lang/Exception", name := "<init>", desc := "(Ljava/lang/String;)V" } : Jvm.MethodName)), (Jvm.Cond.declares ({ cls := "java/lang/Throwable", name := "<init>", desc := "(Ljava/lang/String;)V" } : Jvm.MethodName)), (Jvm.Cond.castable "java/lang/IndexOutOfBoundsException" "java/lang/IndexOutOfBoundsException")]
def rx_lS (C n d : String) (U : State) (H : Heap) : Prop := ∃ (c : ClassId) (k : Class) (i : Nat) (f : Field) (a : Nat) (cell : Cell), U.vm.findClass C = some c ∧ U.fieldFound? C n d = some (c, k, i, f) ∧ f.isStatic = true ∧ k.statics = some a ∧ H[a]? = some cell ∧ cell.vm.isStatics = true ∧ cell.cls = c ∧ f.slot < cell.slots.size ∧ k.staticTypes[f.slot]? = some f.type
theorem rx_lS.moved {C n d : String} {u U : State} {H : Heap} (hvm : u.vm.Alike U.vm) (h : rx_lS C n d u H) : rx_lS C n d U H := by
  obtain ⟨c, k, i, f, a, cell, h1, h2, h3, h4, h5, h6, h7, h8, h9⟩ := h
  obtain ⟨k', hi', he⟩ := State.fieldFound?_setVm hvm h2
  exact ⟨c, k', i, f, a, cell, by rw [hvm.findClass]; exact h1, hi', h3, by rw [he]; exact h4, h5, h6, h7, h8, by rw [he]; exact h9⟩
theorem rx_lS.cond {C n d : String} {s : State} {args : Array Value} (h : rx_lS C n d s s.heap) : (Cond.laysStatic C n d).before args s = true := by
  obtain ⟨c, k, i, f, a, cell, h1, h2, h3, h4, h5, h6, h7, h8, h9⟩ := h
  simp [Cond.before, Cond.holds, Cond.value, h1, h2, h3, h4, h5, h6, h7, h8, h9]
theorem rx_Zq.cond {C n d : String} {A : Nat → Prop} {s : State} {args : Array Value} (h : va_Zq C n d A s s.heap) : (Cond.isRef (.static C n d)).before args s = true := by
  rcases h with h | ⟨t, h⟩
  · obtain ⟨cf, kf, fi, f, a, cell, h1, h2, h3, h4, h5, h6, h7, h8⟩ := h
    simp [Cond.before, Cond.holds, Cond.value, Term.eval, State.fieldNamed?, h1, h2, h4, h5, h6, h7]
  · obtain ⟨cf, kf, fi, f, a, cell, h1, h2, h3, h4, h5, h6, h7, h8⟩ := h
    simp [Cond.before, Cond.holds, Cond.value, Term.eval, State.fieldNamed?, h1, h2, h4, h5, h6, h7]
def rx_ExtT (ev : rx_E) (U : State) : Prop :=
  (∀ w ∈ rx_DW, va_Nw w U) ∧ (rx_lS "java/lang/Throwable" "UNASSIGNED_STACK" "[Ljava/lang/StackTraceElement;" U ev.2.2.2.1 ∧ rx_lS "java/lang/Throwable" "SUPPRESSED_SENTINEL" "Ljava/util/List;" U ev.2.2.2.1) ∧
  (va_Zq "java/lang/Throwable" "UNASSIGNED_STACK" "[Ljava/lang/StackTraceElement;" (rx_A ev) U ev.2.2.2.1 ∧ va_Zq "java/lang/Throwable" "SUPPRESSED_SENTINEL" "Ljava/util/List;" (rx_A ev) U ev.2.2.2.1) ∧ (va_Z "jdk/internal/util/Preconditions" "SIOOBE_FORMATTER" "Ljava/util/function/BiFunction;" .null (rx_A ev) U ev.2.2.2.1 ∨ va_Z "jdk/internal/util/Preconditions" "SIOOBE_FORMATTER" "Ljava/util/function/BiFunction;" (.ref (rx_ea ev 23)) (rx_A ev) U ev.2.2.2.1)
theorem rx_ExtT_of {ev : rx_E} {s U : State} (hvm : s.vm.Alike U.vm) (hw : ∀ w ∈ rx_DW, va_Nw w U) (h : rx_ExtT ev s) : rx_ExtT ev U :=
  ⟨hw, ⟨h.2.1.1.moved hvm, h.2.1.2.moved hvm⟩, ⟨h.2.2.1.1.moved hvm, h.2.2.1.2.moved hvm⟩, h.2.2.2.elim (fun q => Or.inl (va_Z.moved hvm q)) (fun q => Or.inr (va_Z.moved hvm q))⟩
theorem rx_DW_kinds : ∀ w ∈ rx_DW, (∃ x, w = Cond.declares x) ∨ ∃ a b, w = Cond.castable a b := by
  unfold rx_DW
  simp
theorem rx_ExtT_warm {ev : rx_E} {s U : State} (hW : s.WarmedH U.vm) (h : rx_ExtT ev s) : rx_ExtT ev U := by
  refine rx_ExtT_of hW.alike (fun w hw => ?_) h
  rcases rx_DW_kinds w hw with ⟨x, e⟩ | ⟨a, b, e⟩
  · subst e; exact va_Nw.warmD hW (h.1 _ hw)
  · subst e; exact va_Nw.warmC hW (h.1 _ hw)
theorem rx_ExtT_same {ev : rx_E} {u U : State} (hv : U.vm = u.vm) (h : rx_ExtT ev u) : rx_ExtT ev U := by
  refine rx_ExtT_of (by rw [hv]; exact Vm.Alike.refl _) (fun w hw => ?_) h
  rcases rx_DW_kinds w hw with ⟨x, e⟩ | ⟨a, b, e⟩
  · subst e; exact va_Nw.same rfl hv.symm (h.1 _ hw)
  · subst e; exact va_Nw.same rfl hv.symm (h.1 _ hw)
def rx_Ext (ev : rx_E) (U : State) : Prop :=
  (∀ q ∈ rx_ST, va_Z q.1 q.2.1 q.2.2.1 (rx_tv ev q.2.2.2) (rx_A ev) U ev.2.2.2.1) ∧
  (∀ i, i < 13 → va_OF "RuleText$Kind" "number" "I" (.int (nI i)) (rx_ea ev (1 + i)) (rx_A ev) U ev.2.2.2.1 ∧ va_OF "RuleText$Kind" "word" "Ljava/lang/String;" (.ref (rx_ea ev (rx_kw i))) (rx_ea ev (1 + i)) (rx_A ev) U ev.2.2.2.1 ∧ va_OF "RuleText$Kind" "counted" "Z" (.int (rx_kc i)) (rx_ea ev (1 + i)) (rx_A ev) U ev.2.2.2.1) ∧
  (∀ j, j < 5 → va_OF "RuleText$Unit" "word" "Ljava/lang/String;" (.ref (rx_ea ev (rx_uw j))) (rx_ea ev (14 + j)) (rx_A ev) U ev.2.2.2.1 ∧ va_OF "RuleText$Unit" "nm" "J" (.long (rx_un j)) (rx_ea ev (14 + j)) (rx_A ev) U ev.2.2.2.1) ∧
  (∀ s, s < 61 → va_O "java/lang/String" (rx_ea ev (30 + s)) (rx_A ev) U ev.2.2.2.1 ∧ va_OF "java/lang/String" "coder" "B" (.int 0) (rx_ea ev (30 + s)) (rx_A ev) U ev.2.2.2.1 ∧ va_OF "java/lang/String" "value" "[B" (.ref (rx_ea ev (100 + s))) (rx_ea ev (30 + s)) (rx_A ev) U ev.2.2.2.1 ∧ va_T .byte (rx_ea ev (100 + s)) (rx_sl s) (fun j => .int (rx_sb s j)) (rx_A ev) U ev.2.2.2.1) ∧
  va_T (.object "RuleText$Kind") (rx_ea ev 19) 13 (fun j => .ref (rx_ea ev (1 + j))) (rx_A ev) U ev.2.2.2.1 ∧ va_T (.object "RuleText$Unit") (rx_ea ev 20) 5 (fun j => .ref (rx_ea ev (14 + j))) (rx_A ev) U ev.2.2.2.1 ∧
  va_T .byte (rx_ea ev 21) 100 (fun j => .int (rx_d1 j)) (rx_A ev) U ev.2.2.2.1 ∧ va_T .byte (rx_ea ev 22) 100 (fun j => .int (rx_d10 j)) (rx_A ev) U ev.2.2.2.1 ∧
  (∀ q ∈ rx_SR, vk_R q.1 q.2.1 q.2.2.1 (rx_ea ev q.2.2.2) U) ∧ va_X (rx_ea ev 0) ev.2.2.2.2.1 ev.2.2.2.2.2 U ev.2.2.2.1 ∧ rx_ea ev 0 < ev.2.2.2.1.size ∧
  (∀ i j, 1 ≤ i → i ≤ 18 → 1 ≤ j → j ≤ 18 → rx_ea ev i = rx_ea ev j → i = j) ∧ va_AO "RuleText$Rule" U ∧ rx_ExtT ev U
def rx_Ok (ev : rx_E) (U : State) : Prop := va_K ev.1 vwCl (rx_tys ev) U ∧ (∀ w ∈ rx_NB, va_Nw w U) ∧ rx_Ext ev U
theorem rx_NB_warm {s U : State} (hW : s.WarmedH U.vm) (h : ∀ w ∈ rx_NB, va_Nw w s) : ∀ w ∈ rx_NB, va_Nw w U := by
  have key : ∀ w ∈ rx_NB, (∃ a i x q, w = Cond.methodLinkNest a i x q) ∨ ∃ a i b n d q, w = Cond.fieldLinkNest a i b n d q := by
    unfold rx_NB
    simp
  intro w hw
  rcases key w hw with ⟨a, i, x, q, e⟩ | ⟨a, i, b, n, d, q, e⟩
  · subst e
    exact va_Nw.warmM hW (h _ hw)
  · subst e
    exact va_Nw.warmF hW (h _ hw)
theorem rx_Ext_moved {ev : rx_E} {s U : State} (hvm : s.vm.Alike U.vm) (hR : ∀ q ∈ rx_SR, vk_R q.1 q.2.1 q.2.2.1 (rx_ea ev q.2.2.2) U) (hT : rx_ExtT ev s → rx_ExtT ev U) (h : rx_Ext ev s) : rx_Ext ev U := by
  obtain ⟨h1, h2, h3, h4, h5, h6, h7, h8, h9, h10, h11, h12, h13, h14⟩ := h
  exact ⟨fun q hq => va_Z.moved hvm (h1 q hq), fun i hi => ⟨va_OF.moved hvm (h2 i hi).1, va_OF.moved hvm (h2 i hi).2.1, va_OF.moved hvm (h2 i hi).2.2⟩, fun j hj => ⟨va_OF.moved hvm (h3 j hj).1, va_OF.moved hvm (h3 j hj).2⟩,
    fun s hs => ⟨va_O.moved hvm (h4 s hs).1, va_OF.moved hvm (h4 s hs).2.1, va_OF.moved hvm (h4 s hs).2.2.1, va_T.moved hvm (h4 s hs).2.2.2⟩, va_T.moved hvm h5, va_T.moved hvm h6, va_T.moved hvm h7, va_T.moved hvm h8, hR, va_X.moved hvm h10, h11, h12, h13.moved hvm, hT h14⟩
theorem rx_Ok_warm {ev : rx_E} {s U : State} (hW : s.WarmedH U.vm) (h : rx_Ok ev s) : rx_Ok ev U :=
  ⟨va_K.moved hW.alike h.1, rx_NB_warm hW h.2.1, rx_Ext_moved hW.alike (fun q hq => vk_R.warm hW (h.2.2.2.2.2.2.2.2.2.2.1 q hq)) (rx_ExtT_warm hW) h.2.2⟩
theorem rx_Nw_same {w : Cond} {u U : State} (hw : w ∈ rx_NB) (hv : u.vm = U.vm) (h : va_Nw w u) : va_Nw w U := by
  have key : ∀ w ∈ rx_NB, (∃ a i x q, w = Cond.methodLinkNest a i x q) ∨ ∃ a i b n d q, w = Cond.fieldLinkNest a i b n d q := by
    unfold rx_NB
    simp
  rcases key w hw with ⟨a, i, x, q, e⟩ | ⟨a, i, b, n, d, q, e⟩
  · subst e
    exact va_Nw.same rfl hv h
  · subst e
    exact va_Nw.same rfl hv h
theorem rx_Ok_same {ev : rx_E} {u U : State} (hv : U.vm = u.vm) (h : rx_Ok ev u) : rx_Ok ev U := by
  have hal : u.vm.Alike U.vm := by rw [hv]; exact Vm.Alike.refl _
  exact ⟨va_K.moved hal h.1, fun w hw => rx_Nw_same hw hv.symm (h.2.1 w hw), rx_Ext_moved hal (fun q hq => vk_R.same hv (h.2.2.2.2.2.2.2.2.2.2.1 q hq)) (rx_ExtT_same hv) h.2.2⟩
end
section
/-! A METHOD'S WALK over the memory -/
/-- a method: its class, its code, its locals, what it returns, its name -/
abbrev rx_M : Type := String × ByteArray × Nat × Option FieldType × String × List (Nat × Nat × Nat × Nat)
def rx_lo (ev : rx_E) (lo : List (Nat × Value)) : List (Nat × Value) := lo.map (fun q => (q.1, rx_tv ev q.2))
def rx_get (i : Nat) : List (Nat × Value) → Option Value
  | [] => none
  | q :: t => match Nat.beq q.1 i with
    | true => some q.2
    | false => rx_get i t
def rx_st1 (i : Nat) (v : Value) (lo : List (Nat × Value)) : List (Nat × Value) := (i, v) :: lo.filter (fun q => !(q.1 == i) && !(q.1 + 1 == i && q.2.category == 2))
def rx_st2 (i : Nat) (v : Value) (lo : List (Nat × Value)) : List (Nat × Value) := (i, v) :: lo.filter (fun q => !(q.1 == i) && (!(q.1 == i + 1) && !(q.1 + 1 == i && q.2.category == 2)))
def rx_sub : List (Nat × Value) → List (Nat × Value) → Prop
  | [], _ => True
  | q :: t, lo => rx_get q.1 lo = some q.2 ∧ rx_sub t lo
theorem rx_tv_cat (ev : rx_E) (v : Value) : (rx_tv ev v).category = v.category := by cases v <;> rfl
theorem rx_get_in : ∀ {i : Nat} {lo : List (Nat × Value)} {v : Value}, rx_get i lo = some v → (i, v) ∈ lo
  | i, [], v, h => by cases h
  | i, q :: t, v, h => by
    unfold rx_get at h
    cases hb : Nat.beq q.1 i with
    | true =>
      rw [hb] at h
      have h2 : q.1 = i := Nat.eq_of_beq_eq_true hb
      have h3 : q.2 = v := Option.some.inj h
      rw [← h2, ← h3]
      exact List.mem_cons_self
    | false =>
      rw [hb] at h
      exact List.mem_cons_of_mem _ (rx_get_in h)
theorem rx_get_mem {ev : rx_E} {i : Nat} {lo : List (Nat × Value)} {v : Value} (h : rx_get i lo = some v) : (i, rx_tv ev v) ∈ rx_lo ev lo := List.mem_map.mpr ⟨(i, v), rx_get_in h, rfl⟩
theorem rx_filter_map (ev : rx_E) (P : Nat → Nat → Bool) (lo : List (Nat × Value)) : (rx_lo ev lo).filter (fun q => P q.1 q.2.category) = rx_lo ev (lo.filter (fun q => P q.1 q.2.category)) := by
  unfold rx_lo
  rw [List.filter_map]
  congr 1
  apply List.filter_congr
  intro q _
  simp only [Function.comp, rx_tv_cat]
theorem rx_st1_map {ev : rx_E} {ls : Array Slot} {nL i : Nat} {v : Value} {lo : List (Nat × Value)} (h : lv_has ls nL ((i, rx_tv ev v) :: (rx_lo ev lo).filter (fun q => !(q.1 == i) && !(q.1 + 1 == i && q.2.category == 2)))) : lv_has ls nL (rx_lo ev (rx_st1 i v lo)) := by
  rw [rx_filter_map ev (fun a b => !(a == i) && !(a + 1 == i && b == 2))] at h
  exact h
theorem rx_st2_map {ev : rx_E} {ls : Array Slot} {nL i : Nat} {v : Value} {lo : List (Nat × Value)} (h : lv_has ls nL ((i, rx_tv ev v) :: (rx_lo ev lo).filter (fun q => !(q.1 == i) && (!(q.1 == i + 1) && !(q.1 + 1 == i && q.2.category == 2))))) : lv_has ls nL (rx_lo ev (rx_st2 i v lo)) := by
  rw [rx_filter_map ev (fun a b => !(a == i) && (!(a == i + 1) && !(a + 1 == i && b == 2)))] at h
  exact h
theorem rx_sub_in : ∀ {lo' lo : List (Nat × Value)}, rx_sub lo' lo → ∀ q ∈ lo', q ∈ lo
  | [], _, _, q, hq => by cases hq
  | a :: t, lo, h, q, hq => by
    rcases List.mem_cons.mp hq with e | e
    · subst e
      exact rx_get_in h.1
    · exact rx_sub_in h.2 q e
theorem rx_sub_has {ev : rx_E} {ls : Array Slot} {nL : Nat} {lo' lo : List (Nat × Value)} (h : rx_sub lo' lo) (hl : lv_has ls nL (rx_lo ev lo)) : lv_has ls nL (rx_lo ev lo') := by
  refine ⟨hl.1, hl.2.1, fun q hq => ?_⟩
  obtain ⟨a, ha, rfl⟩ := List.mem_map.mp hq
  exact hl.2.2 _ (List.mem_map.mpr ⟨a, rx_sub_in h a ha, rfl⟩)
/-- what a method's end is -/
def rx_Q (ev : rx_E) (post : Option Value → rx_S → Prop) : Array Value → State → Outcome → State → Prop := fun _ _ o t => ∃ (v : Option Value) (τ : rx_S), o = .returned (v.map (rx_tv ev)) ∧ post v τ ∧ rx_R ev τ t.heap
/-- what a walk comes to -/
abbrev rx_End : Type := List Frame → rx_E → Array Value → State → Nat → Nat → State → Prop
/-- it returns so -/
def pR (post : Option Value → rx_S → Prop) : rx_End := fun below ev args s mt sst => MQ below (rx_Q ev post) args s mt sst (fun q => ev.2.2.2.1.size ≤ q)
abbrev rx_C (l : Launch) (ev : rx_E) (M : rx_M) (p : Program) (s : State) (m : MethodId) (args : Array Value) (meth : Method) (c : Code) : Prop :=
  p.tables.exec = Jvm.exec ∧ c.code = M.2.1 ∧ c.maxLocals = M.2.2.1 ∧ s.vm.findClass M.1 = some m.cls ∧ (∀ w ∈ rx_TB, w.before args s = true) ∧ meth.sig.returnType = M.2.2.2.1 ∧ meth.locks = false ∧ meth.name = M.2.2.2.2.1 ∧ rx_Ok ev s ∧
    (ev.2.2.2.1.size ≤ s.heap.size ∧ ∀ q : Nat, q < ev.2.2.2.1.size → s.heap[q]? = ev.2.2.2.1[q]?) ∧ l.stackTraces = false ∧ (∀ (q : Nat) (cell : Cell), ev.2.2.2.1.size ≤ q → s.heap[q]? = some cell → cell.vm.isStatics = false) ∧ c.exceptionTable.toList.map (fun h => (h.startPc, h.endPc, h.handlerPc, h.catchType)) = M.2.2.2.2.2
def rx_at (ev : rx_E) (M : rx_M) (d mc ms : Nat) (lo : List (Nat × Value)) (σ : rx_S) (R : Room) (H : Heap) (locs : List Loc) (cells slots mt sst : Nat) (ls : Array Slot) : Prop :=
  d ≤ R.frames ∧ 40 * d ≤ R.locals ∧ rx_R ev σ H ∧ lv_has ls M.2.2.1 (rx_lo ev lo) ∧ (∀ q ∈ locs, ev.2.2.2.1.size ≤ q.base) ∧ cells + mc ≤ mt ∧ slots + ms ≤ sst ∧ mt ≤ R.cells ∧ sst ≤ R.slots
def rx_W (M : rx_M) (d mc ms pc : Nat) (lo : List (Nat × Value)) (st : List Value) (σ : rx_S) (post : rx_End) : Prop :=
  ∀ (l : Launch) (ev : rx_E) (p : Program) (e : Env) (s : State) (m : MethodId) (args : Array Value) (below : List Frame) (meth : Method) (c : Code), rx_C l ev M p s m args meth c →
    ∀ (R : Room) (H : Heap) (locs : List Loc) (cells slots mt sst : Nat) (ls : Array Slot), rx_at ev M d mc ms lo σ R H locs cells slots mt sst ls →
      W p l e R s m args below meth c H locs cells slots (post below ev args s mt sst) (F0 m pc ls (st.map (rx_tv ev)))
theorem rx_at.lo {ev : rx_E} {M : rx_M} {d mc ms : Nat} {lo lo' : List (Nat × Value)} {σ : rx_S} {R : Room} {H : Heap} {locs : List Loc} {cells slots mt sst : Nat} {ls ls' : Array Slot} (A : rx_at ev M d mc ms lo σ R H locs cells slots mt sst ls) (h : lv_has ls' M.2.2.1 (rx_lo ev lo')) : rx_at ev M d mc ms lo' σ R H locs cells slots mt sst ls' := by
  obtain ⟨a1, a2, a3, a4, a5, a6⟩ := A
  exact ⟨a1, a2, a3, h, a5, a6⟩
theorem rx_ld {ev : rx_E} {M : rx_M} {d mc ms : Nat} {lo : List (Nat × Value)} {σ : rx_S} {R : Room} {H : Heap} {locs : List Loc} {cells slots mt sst : Nat} {ls : Array Slot} (A : rx_at ev M d mc ms lo σ R H locs cells slots mt sst ls) {i : Nat} {v : Value} (h : rx_get i lo = some v) : ls[i]? = some (.val (rx_tv ev v)) := A.2.2.2.1.2.2 _ (rx_get_mem h)
/-- a method's contract -/
def rx_ws (y : MethodName) (M : rx_M) : List Cond := Cond.code y M.2.1 M.2.2.1 M.2.2.2.1 :: rx_TB
def rx_wsW (y : MethodName) (M : rx_M) : List Cond := Cond.codeWith y M.2.1 M.2.2.1 M.2.2.2.1 M.2.2.2.2.2 :: rx_TB
def rx_P (ev : rx_E) (as : List Value) (σ : rx_S) : Array Value → State → Prop := fun v U => v = (as.map (rx_tv ev)).toArray ∧ rx_R ev σ U.heap ∧ rx_Ok ev U
def rx_Calls (y : MethodName) (M : rx_M) (d mc ms : Nat) (as : List Value) (σ : rx_S) (post : Option Value → rx_S → Prop) : Prop :=
  ∀ (l : Launch), l.stackTraces = false → ∀ (ev : rx_E), Met l y (rx_ws y M) { frames := d, cells := mc, slots := ms, locals := 40 * d } (rx_P ev as σ) (rx_Q ev post) mc ms (fun q => ev.2.2.2.1.size ≤ q)
theorem rx_args_map (ev : rx_E) : ∀ (as : List Value) (i : Nat), lv_args i (as.map (rx_tv ev)) = rx_lo ev (lv_args i as)
  | [], _ => rfl
  | v :: vs, i => by
    show (i, rx_tv ev v) :: lv_args (if (rx_tv ev v).category = 2 then i + 2 else i + 1) (vs.map (rx_tv ev)) = (i, rx_tv ev v) :: rx_lo ev (lv_args (if v.category = 2 then i + 2 else i + 1) vs)
    rw [rx_tv_cat, rx_args_map ev vs]
theorem rx_sl_map (ev : rx_E) : ∀ (as : List Value), (lg_sl (as.map (rx_tv ev))).length = (lg_sl as).length
  | [] => rfl
  | v :: vs => by
    have ih := rx_sl_map ev vs
    unfold lg_sl at ih ⊢
    rw [List.map_cons, List.flatMap_cons, List.flatMap_cons, List.length_append, List.length_append, ih, rx_tv_cat]
    congr 1
    split <;> rfl
theorem rx_R.ns {ev : rx_E} {σ : rx_S} {H : Heap} (h : rx_R ev σ H) : ∀ (q : Nat) (cell : Cell), ev.2.2.2.1.size ≤ q → H[q]? = some cell → cell.vm.isStatics = false := by
  intro q cell hq hc
  have hlt : q < H.size := (Array.getElem?_eq_some_iff.mp hc).1
  rw [h.2.1] at hlt
  obtain ⟨cell', h1, h2⟩ := (h.2.2.2.1 (256 + (q - ev.2.2.2.1.size)) (by omega) (by have := h.1; omega)).2.2
  rw [rx_ea_in (by omega), show ev.2.2.2.1.size + (256 + (q - ev.2.2.2.1.size) - 256) = q by omega] at h1
  cases hc.symm.trans h1
  exact h2
theorem rx_enter0 {l : Launch} {ev : rx_E} {M : rx_M} {d mc ms : Nat} {as : List Value} {σ : rx_S} {post : rx_End} {p : Program} {e : Env} {s : State} {m : MethodId} {below : List Frame} {meth : Method} {c : Code} {R : Room} (hn : (lg_sl as).length ≤ M.2.2.1) (hR : rx_R ev σ s.heap) (hd : d ≤ R.frames ∧ 40 * d ≤ R.locals ∧ mc ≤ R.cells ∧ ms ≤ R.slots)
    (C : rx_C l ev M p s m (as.map (rx_tv ev)).toArray meth c) (k : rx_W M d mc ms 0 (lv_args 0 as) [] σ post) : W p l e R s m (as.map (rx_tv ev)).toArray below meth c s.heap [] 0 0 (post below ev (as.map (rx_tv ev)).toArray s mc ms) (entryFrame m (as.map (rx_tv ev)).toArray M.2.2.1) := by
  have hl := lv_entry (as.map (rx_tv ev)) (n := M.2.2.1) (by rw [rx_sl_map]; exact hn)
  rw [lg_entry_eq]
  generalize (lg_sl (as.map (rx_tv ev)) ++ List.replicate (M.2.2.1 - (lg_sl (as.map (rx_tv ev))).length) Slot.unset).toArray = ls at hl ⊢
  rw [rx_args_map] at hl
  exact k l ev p e s m _ below meth c C R s.heap [] 0 0 mc ms ls ⟨hd.1, hd.2.1, hR, hl, (fun q h => by cases h), by omega, by omega, hd.2.2.1, hd.2.2.2⟩
theorem rx_enter {y : MethodName} {M : rx_M} {d mc ms : Nat} {as : List Value} {σ : rx_S} {post : Option Value → rx_S → Prop} (hy : plainFor y = true) (hM : y.cls = M.1) (hnm : y.name = M.2.2.2.2.1) (hn : (lg_sl as).length ≤ M.2.2.1) (k : rx_W M d mc ms 0 (lv_args 0 as) [] σ (pR post)) (hh : M.2.2.2.2.2 = [] := by rfl) : rx_Calls y M d mc ms as σ post := by
  intro l htr ev
  refine va_MetF (cc := M.2.1) (maxL := M.2.2.1) (ret := M.2.2.2.1) hy rfl ?_
  intro p e s m args below meth c s₁ B hml hv
  obtain ⟨rfl, hR, hOk⟩ := hv
  have hts := atoms_spec (ws := rx_ws y M) B.pre
  have hown : s.vm.findClass M.1 = some m.cls := by rw [← hM]; exact findClass_of_methodNamed B.named
  have htab : c.exceptionTable.toList.map (fun h => (h.startPc, h.endPc, h.handlerPc, h.catchType)) = M.2.2.2.2.2 := by
    have h1 := BodyLoose.noHandlers B (hts _ List.mem_cons_self)
    rw [hh]
    simp [Array.isEmpty_iff.mp h1]
  refine rx_enter0 (d := d) (mc := mc) (ms := ms) (post := pR post) (R := { frames := d, cells := mc, slots := ms, locals := 40 * d }) hn hR ⟨Nat.le_refl _, Nat.le_refl _, Nat.le_refl _, Nat.le_refl _⟩ ⟨B.exec, B.bytes, hml, hown, fun w h => hts w (List.mem_cons_of_mem _ h), B.returns, B.notSynchronized, (name_of_methodNamed B.named B.method).1.trans hnm, hOk, ⟨?_, hR.2.2.1⟩, htr, hR.ns, htab⟩ k
  rw [hR.2.1]
  omega
end
section
/-! ROWS OF THE LAYER: an instruction, a row -/
section
variable {M : rx_M} {d mc ms pc : Nat} {lo : List (Nat × Value)} {st : List Value} {σ : rx_S} {post : rx_End}
theorem ru_iconst {n : Int} {v : Int32} (hd : decode M.2.1 pc = .ok (.iconst n, 1)) (hv : Int32.ofInt n = v) (k : rx_W M d mc ms (pc + 1) lo (.int v :: st) σ post) : rx_W M d mc ms pc lo (st) σ post := by
  intro l ev p e s m args below meth c C R H locs cells slots mt sst ls A
  exact lv_iconst C.1 C.2.1 hd hv (k l ev p e s m args below meth c C R H locs cells slots mt sst ls A)
theorem ru_bipush {n : Int} {v : Int32} (hd : decode M.2.1 pc = .ok (.bipush n, 2)) (hv : (Int8.ofInt n).toInt32 = v) (k : rx_W M d mc ms (pc + 2) lo (.int v :: st) σ post) : rx_W M d mc ms pc lo (st) σ post := by
  intro l ev p e s m args below meth c C R H locs cells slots mt sst ls A
  exact lv_bipush C.1 C.2.1 hd hv (k l ev p e s m args below meth c C R H locs cells slots mt sst ls A)
theorem ru_sipush {n : Int} {v : Int32} (hd : decode M.2.1 pc = .ok (.sipush n, 3)) (hv : (Int16.ofInt n).toInt32 = v) (k : rx_W M d mc ms (pc + 3) lo (.int v :: st) σ post) : rx_W M d mc ms pc lo (st) σ post := by
  intro l ev p e s m args below meth c C R H locs cells slots mt sst ls A
  exact lv_sipush C.1 C.2.1 hd hv (k l ev p e s m args below meth c C R H locs cells slots mt sst ls A)
theorem ru_lconst {n : Fin 2} {v : Int64} (hd : decode M.2.1 pc = .ok (.lconst n, 1)) (hv : Int64.ofNat (n : Nat) = v) (k : rx_W M d mc ms (pc + 1) lo (.long v :: st) σ post) : rx_W M d mc ms pc lo (st) σ post := by
  intro l ev p e s m args below meth c C R H locs cells slots mt sst ls A
  exact lv_lconst C.1 C.2.1 hd hv (k l ev p e s m args below meth c C R H locs cells slots mt sst ls A)
theorem ru_null  (hd : decode M.2.1 pc = .ok (.aconst_null, 1))  (k : rx_W M d mc ms (pc + 1) lo (.null :: st) σ post) : rx_W M d mc ms pc lo (st) σ post := by
  intro l ev p e s m args below meth c C R H locs cells slots mt sst ls A
  exact lv_null C.1 C.2.1 hd  (k l ev p e s m args below meth c C R H locs cells slots mt sst ls A)
theorem ru_iload {i : Nat} {x : Int32} (hd : decode M.2.1 pc = .ok (.iload i, 2)) (hl : rx_get i lo = some (.int x)) (k : rx_W M d mc ms (pc + 2) lo (.int x :: st) σ post) : rx_W M d mc ms pc lo (st) σ post := by
  intro l ev p e s m args below meth c C R H locs cells slots mt sst ls A
  exact lv_iload C.1 C.2.1 hd (rx_ld A hl) (k l ev p e s m args below meth c C R H locs cells slots mt sst ls A)
theorem ru_iload_n {n : Fin 4} {i : Nat} {x : Int32} (hd : decode M.2.1 pc = .ok (.iload_n n, 1)) (hi : (n : Nat) = i) (hl : rx_get i lo = some (.int x)) (k : rx_W M d mc ms (pc + 1) lo (.int x :: st) σ post) : rx_W M d mc ms pc lo (st) σ post := by
  intro l ev p e s m args below meth c C R H locs cells slots mt sst ls A
  exact lv_iload_n C.1 C.2.1 hd hi (rx_ld A hl) (k l ev p e s m args below meth c C R H locs cells slots mt sst ls A)
theorem ru_lload {i : Nat} {x : Int64} (hd : decode M.2.1 pc = .ok (.lload i, 2)) (hl : rx_get i lo = some (.long x)) (k : rx_W M d mc ms (pc + 2) lo (.long x :: st) σ post) : rx_W M d mc ms pc lo (st) σ post := by
  intro l ev p e s m args below meth c C R H locs cells slots mt sst ls A
  exact lv_lload C.1 C.2.1 hd (rx_ld A hl) (k l ev p e s m args below meth c C R H locs cells slots mt sst ls A)
theorem ru_lload_n {n : Fin 4} {i : Nat} {x : Int64} (hd : decode M.2.1 pc = .ok (.lload_n n, 1)) (hi : (n : Nat) = i) (hl : rx_get i lo = some (.long x)) (k : rx_W M d mc ms (pc + 1) lo (.long x :: st) σ post) : rx_W M d mc ms pc lo (st) σ post := by
  intro l ev p e s m args below meth c C R H locs cells slots mt sst ls A
  exact lv_lload_n C.1 C.2.1 hd hi (rx_ld A hl) (k l ev p e s m args below meth c C R H locs cells slots mt sst ls A)
theorem ru_aload {i x : Nat} (hd : decode M.2.1 pc = .ok (.aload i, 2)) (hl : rx_get i lo = some (.ref x)) (k : rx_W M d mc ms (pc + 2) lo (.ref x :: st) σ post) : rx_W M d mc ms pc lo (st) σ post := by
  intro l ev p e s m args below meth c C R H locs cells slots mt sst ls A
  exact lv_aload C.1 C.2.1 hd (rx_ld A hl) (k l ev p e s m args below meth c C R H locs cells slots mt sst ls A)
theorem ru_aload_n {n : Fin 4} {i x : Nat} (hd : decode M.2.1 pc = .ok (.aload_n n, 1)) (hi : (n : Nat) = i) (hl : rx_get i lo = some (.ref x)) (k : rx_W M d mc ms (pc + 1) lo (.ref x :: st) σ post) : rx_W M d mc ms pc lo (st) σ post := by
  intro l ev p e s m args below meth c C R H locs cells slots mt sst ls A
  exact lv_aload_n C.1 C.2.1 hd hi (rx_ld A hl) (k l ev p e s m args below meth c C R H locs cells slots mt sst ls A)
theorem ru_aloadN {i : Nat} (hd : decode M.2.1 pc = .ok (.aload i, 2)) (hl : rx_get i lo = some .null) (k : rx_W M d mc ms (pc + 2) lo (.null :: st) σ post) : rx_W M d mc ms pc lo (st) σ post := by
  intro l ev p e s m args below meth c C R H locs cells slots mt sst ls A
  exact lv_aloadN C.1 C.2.1 hd (rx_ld A hl) (k l ev p e s m args below meth c C R H locs cells slots mt sst ls A)
theorem ru_aload_nN {n : Fin 4} {i : Nat} (hd : decode M.2.1 pc = .ok (.aload_n n, 1)) (hi : (n : Nat) = i) (hl : rx_get i lo = some .null) (k : rx_W M d mc ms (pc + 1) lo (.null :: st) σ post) : rx_W M d mc ms pc lo (st) σ post := by
  intro l ev p e s m args below meth c C R H locs cells slots mt sst ls A
  exact lv_aload_nN C.1 C.2.1 hd hi (rx_ld A hl) (k l ev p e s m args below meth c C R H locs cells slots mt sst ls A)
theorem ru_istore {i : Nat} {x : Int32} (hd : decode M.2.1 pc = .ok (.istore i, 2)) (hn : i < M.2.2.1) (k : rx_W M d mc ms (pc + 2) (rx_st1 i (.int x) lo) st σ post) : rx_W M d mc ms pc lo ((.int x) :: st) σ post := by
  intro l ev p e s m args below meth c C R H locs cells slots mt sst ls A
  refine lv_istore C.1 C.2.1 hd A.2.2.2.1 hn rfl (fun ls hl => ?_)
  exact k l ev p e s m args below meth c C R H locs cells slots mt sst ls (A.lo (rx_st1_map hl))
theorem ru_istore_n {n : Fin 4} {i : Nat} {x : Int32} (hd : decode M.2.1 pc = .ok (.istore_n n, 1)) (hi : (n : Nat) = i) (hn : i < M.2.2.1) (k : rx_W M d mc ms (pc + 1) (rx_st1 i (.int x) lo) st σ post) : rx_W M d mc ms pc lo ((.int x) :: st) σ post := by
  intro l ev p e s m args below meth c C R H locs cells slots mt sst ls A
  refine lv_istore_n C.1 C.2.1 hd hi A.2.2.2.1 hn rfl (fun ls hl => ?_)
  exact k l ev p e s m args below meth c C R H locs cells slots mt sst ls (A.lo (rx_st1_map hl))
theorem ru_lstore {i : Nat} {x : Int64} (hd : decode M.2.1 pc = .ok (.lstore i, 2)) (hn : i + 1 < M.2.2.1) (k : rx_W M d mc ms (pc + 2) (rx_st2 i (.long x) lo) st σ post) : rx_W M d mc ms pc lo ((.long x) :: st) σ post := by
  intro l ev p e s m args below meth c C R H locs cells slots mt sst ls A
  refine lv_lstore C.1 C.2.1 hd A.2.2.2.1 hn rfl (fun ls hl => ?_)
  exact k l ev p e s m args below meth c C R H locs cells slots mt sst ls (A.lo (rx_st2_map hl))
theorem ru_lstore_n {n : Fin 4} {i : Nat} {x : Int64} (hd : decode M.2.1 pc = .ok (.lstore_n n, 1)) (hi : (n : Nat) = i) (hn : i + 1 < M.2.2.1) (k : rx_W M d mc ms (pc + 1) (rx_st2 i (.long x) lo) st σ post) : rx_W M d mc ms pc lo ((.long x) :: st) σ post := by
  intro l ev p e s m args below meth c C R H locs cells slots mt sst ls A
  refine lv_lstore_n C.1 C.2.1 hd hi A.2.2.2.1 hn rfl (fun ls hl => ?_)
  exact k l ev p e s m args below meth c C R H locs cells slots mt sst ls (A.lo (rx_st2_map hl))
theorem ru_astore {i : Nat} {x : Nat} (hd : decode M.2.1 pc = .ok (.astore i, 2)) (hn : i < M.2.2.1) (k : rx_W M d mc ms (pc + 2) (rx_st1 i (.ref x) lo) st σ post) : rx_W M d mc ms pc lo ((.ref x) :: st) σ post := by
  intro l ev p e s m args below meth c C R H locs cells slots mt sst ls A
  refine lv_astore C.1 C.2.1 hd A.2.2.2.1 hn rfl (fun ls hl => ?_)
  exact k l ev p e s m args below meth c C R H locs cells slots mt sst ls (A.lo (rx_st1_map hl))
theorem ru_astore_n {n : Fin 4} {i : Nat} {x : Nat} (hd : decode M.2.1 pc = .ok (.astore_n n, 1)) (hi : (n : Nat) = i) (hn : i < M.2.2.1) (k : rx_W M d mc ms (pc + 1) (rx_st1 i (.ref x) lo) st σ post) : rx_W M d mc ms pc lo ((.ref x) :: st) σ post := by
  intro l ev p e s m args below meth c C R H locs cells slots mt sst ls A
  refine lv_astore_n C.1 C.2.1 hd hi A.2.2.2.1 hn rfl (fun ls hl => ?_)
  exact k l ev p e s m args below meth c C R H locs cells slots mt sst ls (A.lo (rx_st1_map hl))
theorem ru_astoreN {i : Nat} (hd : decode M.2.1 pc = .ok (.astore i, 2)) (hn : i < M.2.2.1) (k : rx_W M d mc ms (pc + 2) (rx_st1 i (.null) lo) st σ post) : rx_W M d mc ms pc lo ((.null) :: st) σ post := by
  intro l ev p e s m args below meth c C R H locs cells slots mt sst ls A
  refine lv_astoreN C.1 C.2.1 hd A.2.2.2.1 hn rfl (fun ls hl => ?_)
  exact k l ev p e s m args below meth c C R H locs cells slots mt sst ls (A.lo (rx_st1_map hl))
theorem ru_astore_nN {n : Fin 4} {i : Nat} (hd : decode M.2.1 pc = .ok (.astore_n n, 1)) (hi : (n : Nat) = i) (hn : i < M.2.2.1) (k : rx_W M d mc ms (pc + 1) (rx_st1 i (.null) lo) st σ post) : rx_W M d mc ms pc lo ((.null) :: st) σ post := by
  intro l ev p e s m args below meth c C R H locs cells slots mt sst ls A
  refine lv_astore_nN C.1 C.2.1 hd hi A.2.2.2.1 hn rfl (fun ls hl => ?_)
  exact k l ev p e s m args below meth c C R H locs cells slots mt sst ls (A.lo (rx_st1_map hl))
theorem ru_iinc {i : Nat} {n : Int} {x v : Int32} (hd : decode M.2.1 pc = .ok (.iinc i n, 3)) (hl : rx_get i lo = some (.int x)) (hv : x + Int32.ofInt n = v) (hn : i < M.2.2.1) (k : rx_W M d mc ms (pc + 3) (rx_st1 i (.int v) lo) st σ post) : rx_W M d mc ms pc lo st σ post := by
  intro l ev p e s m args below meth c C R H locs cells slots mt sst ls A
  obtain ⟨j, hj⟩ := List.getElem?_of_mem (rx_get_mem (ev := ev) hl)
  refine lv_iinc C.1 C.2.1 hd A.2.2.2.1 hj hv hn rfl (fun ls hl => ?_)
  exact k l ev p e s m args below meth c C R H locs cells slots mt sst ls (A.lo (rx_st1_map hl))
theorem ru_iadd {x y : Int32} (hd : decode M.2.1 pc = .ok (.iadd, 1))  (k : rx_W M d mc ms (pc + 1) lo (.int (x + y) :: st) σ post) : rx_W M d mc ms pc lo (.int y :: .int x :: st) σ post := by
  intro l ev p e s m args below meth c C R H locs cells slots mt sst ls A
  exact lv_iadd C.1 C.2.1 hd  (k l ev p e s m args below meth c C R H locs cells slots mt sst ls A)
theorem ru_isub {x y : Int32} (hd : decode M.2.1 pc = .ok (.isub, 1))  (k : rx_W M d mc ms (pc + 1) lo (.int (x - y) :: st) σ post) : rx_W M d mc ms pc lo (.int y :: .int x :: st) σ post := by
  intro l ev p e s m args below meth c C R H locs cells slots mt sst ls A
  exact lv_isub C.1 C.2.1 hd  (k l ev p e s m args below meth c C R H locs cells slots mt sst ls A)
theorem ru_imul {x y : Int32} (hd : decode M.2.1 pc = .ok (.imul, 1))  (k : rx_W M d mc ms (pc + 1) lo (.int (x * y) :: st) σ post) : rx_W M d mc ms pc lo (.int y :: .int x :: st) σ post := by
  intro l ev p e s m args below meth c C R H locs cells slots mt sst ls A
  exact lv_imul C.1 C.2.1 hd  (k l ev p e s m args below meth c C R H locs cells slots mt sst ls A)
theorem ru_iand {x y : Int32} (hd : decode M.2.1 pc = .ok (.iand, 1))  (k : rx_W M d mc ms (pc + 1) lo (.int (x &&& y) :: st) σ post) : rx_W M d mc ms pc lo (.int y :: .int x :: st) σ post := by
  intro l ev p e s m args below meth c C R H locs cells slots mt sst ls A
  exact lv_iand C.1 C.2.1 hd  (k l ev p e s m args below meth c C R H locs cells slots mt sst ls A)
theorem ru_ior {x y : Int32} (hd : decode M.2.1 pc = .ok (.ior, 1))  (k : rx_W M d mc ms (pc + 1) lo (.int (x ||| y) :: st) σ post) : rx_W M d mc ms pc lo (.int y :: .int x :: st) σ post := by
  intro l ev p e s m args below meth c C R H locs cells slots mt sst ls A
  exact lv_ior C.1 C.2.1 hd  (k l ev p e s m args below meth c C R H locs cells slots mt sst ls A)
theorem ru_ixor {x y : Int32} (hd : decode M.2.1 pc = .ok (.ixor, 1))  (k : rx_W M d mc ms (pc + 1) lo (.int (x ^^^ y) :: st) σ post) : rx_W M d mc ms pc lo (.int y :: .int x :: st) σ post := by
  intro l ev p e s m args below meth c C R H locs cells slots mt sst ls A
  exact lv_ixor C.1 C.2.1 hd  (k l ev p e s m args below meth c C R H locs cells slots mt sst ls A)
theorem ru_ladd {x y : Int64} (hd : decode M.2.1 pc = .ok (.ladd, 1))  (k : rx_W M d mc ms (pc + 1) lo (.long (x + y) :: st) σ post) : rx_W M d mc ms pc lo (.long y :: .long x :: st) σ post := by
  intro l ev p e s m args below meth c C R H locs cells slots mt sst ls A
  exact lv_ladd C.1 C.2.1 hd  (k l ev p e s m args below meth c C R H locs cells slots mt sst ls A)
theorem ru_lsub {x y : Int64} (hd : decode M.2.1 pc = .ok (.lsub, 1))  (k : rx_W M d mc ms (pc + 1) lo (.long (x - y) :: st) σ post) : rx_W M d mc ms pc lo (.long y :: .long x :: st) σ post := by
  intro l ev p e s m args below meth c C R H locs cells slots mt sst ls A
  exact lv_lsub C.1 C.2.1 hd  (k l ev p e s m args below meth c C R H locs cells slots mt sst ls A)
theorem ru_lmul {x y : Int64} (hd : decode M.2.1 pc = .ok (.lmul, 1))  (k : rx_W M d mc ms (pc + 1) lo (.long (x * y) :: st) σ post) : rx_W M d mc ms pc lo (.long y :: .long x :: st) σ post := by
  intro l ev p e s m args below meth c C R H locs cells slots mt sst ls A
  exact lv_lmul C.1 C.2.1 hd  (k l ev p e s m args below meth c C R H locs cells slots mt sst ls A)
theorem ru_land {x y : Int64} (hd : decode M.2.1 pc = .ok (.land, 1))  (k : rx_W M d mc ms (pc + 1) lo (.long (x &&& y) :: st) σ post) : rx_W M d mc ms pc lo (.long y :: .long x :: st) σ post := by
  intro l ev p e s m args below meth c C R H locs cells slots mt sst ls A
  exact lv_land C.1 C.2.1 hd  (k l ev p e s m args below meth c C R H locs cells slots mt sst ls A)
theorem ru_lor {x y : Int64} (hd : decode M.2.1 pc = .ok (.lor, 1))  (k : rx_W M d mc ms (pc + 1) lo (.long (x ||| y) :: st) σ post) : rx_W M d mc ms pc lo (.long y :: .long x :: st) σ post := by
  intro l ev p e s m args below meth c C R H locs cells slots mt sst ls A
  exact lv_lor C.1 C.2.1 hd  (k l ev p e s m args below meth c C R H locs cells slots mt sst ls A)
theorem ru_lxor {x y : Int64} (hd : decode M.2.1 pc = .ok (.lxor, 1))  (k : rx_W M d mc ms (pc + 1) lo (.long (x ^^^ y) :: st) σ post) : rx_W M d mc ms pc lo (.long y :: .long x :: st) σ post := by
  intro l ev p e s m args below meth c C R H locs cells slots mt sst ls A
  exact lv_lxor C.1 C.2.1 hd  (k l ev p e s m args below meth c C R H locs cells slots mt sst ls A)
theorem ru_idiv {x y : Int32} (hd : decode M.2.1 pc = .ok (.idiv, 1)) (hne : ¬ y = 0) (k : rx_W M d mc ms (pc + 1) lo (.int (x / y) :: st) σ post) : rx_W M d mc ms pc lo (.int y :: .int x :: st) σ post := by
  intro l ev p e s m args below meth c C R H locs cells slots mt sst ls A
  exact lv_idiv C.1 C.2.1 hd hne (k l ev p e s m args below meth c C R H locs cells slots mt sst ls A)
theorem ru_irem {x y : Int32} (hd : decode M.2.1 pc = .ok (.irem, 1)) (hne : ¬ y = 0) (k : rx_W M d mc ms (pc + 1) lo (.int (x - x / y * y) :: st) σ post) : rx_W M d mc ms pc lo (.int y :: .int x :: st) σ post := by
  intro l ev p e s m args below meth c C R H locs cells slots mt sst ls A
  exact lv_irem C.1 C.2.1 hd hne (k l ev p e s m args below meth c C R H locs cells slots mt sst ls A)
theorem ru_ldiv {x y : Int64} (hd : decode M.2.1 pc = .ok (.ldiv, 1)) (hne : ¬ y = 0) (k : rx_W M d mc ms (pc + 1) lo (.long (x / y) :: st) σ post) : rx_W M d mc ms pc lo (.long y :: .long x :: st) σ post := by
  intro l ev p e s m args below meth c C R H locs cells slots mt sst ls A
  exact lv_ldiv C.1 C.2.1 hd hne (k l ev p e s m args below meth c C R H locs cells slots mt sst ls A)
theorem ru_lrem {x y : Int64} (hd : decode M.2.1 pc = .ok (.lrem, 1)) (hne : ¬ y = 0) (k : rx_W M d mc ms (pc + 1) lo (.long (x - x / y * y) :: st) σ post) : rx_W M d mc ms pc lo (.long y :: .long x :: st) σ post := by
  intro l ev p e s m args below meth c C R H locs cells slots mt sst ls A
  exact lv_lrem C.1 C.2.1 hd hne (k l ev p e s m args below meth c C R H locs cells slots mt sst ls A)
theorem ru_ineg {x : Int32} (hd : decode M.2.1 pc = .ok (.ineg, 1))  (k : rx_W M d mc ms (pc + 1) lo (.int (-x) :: st) σ post) : rx_W M d mc ms pc lo (.int x :: st) σ post := by
  intro l ev p e s m args below meth c C R H locs cells slots mt sst ls A
  exact lv_ineg C.1 C.2.1 hd  (k l ev p e s m args below meth c C R H locs cells slots mt sst ls A)
theorem ru_i2l {x : Int32} (hd : decode M.2.1 pc = .ok (.i2l, 1))  (k : rx_W M d mc ms (pc + 1) lo (.long x.toInt64 :: st) σ post) : rx_W M d mc ms pc lo (.int x :: st) σ post := by
  intro l ev p e s m args below meth c C R H locs cells slots mt sst ls A
  exact lv_i2l C.1 C.2.1 hd rfl (k l ev p e s m args below meth c C R H locs cells slots mt sst ls A)
theorem ru_l2i {x : Int64} (hd : decode M.2.1 pc = .ok (.l2i, 1))  (k : rx_W M d mc ms (pc + 1) lo (.int x.toInt32 :: st) σ post) : rx_W M d mc ms pc lo (.long x :: st) σ post := by
  intro l ev p e s m args below meth c C R H locs cells slots mt sst ls A
  exact lv_l2i C.1 C.2.1 hd rfl (k l ev p e s m args below meth c C R H locs cells slots mt sst ls A)
theorem ru_i2b {x : Int32} (hd : decode M.2.1 pc = .ok (.i2b, 1))  (k : rx_W M d mc ms (pc + 1) lo (.int x.toInt8.toInt32 :: st) σ post) : rx_W M d mc ms pc lo (.int x :: st) σ post := by
  intro l ev p e s m args below meth c C R H locs cells slots mt sst ls A
  exact lv_i2b C.1 C.2.1 hd rfl (k l ev p e s m args below meth c C R H locs cells slots mt sst ls A)
theorem ru_i2c {x : Int32} (hd : decode M.2.1 pc = .ok (.i2c, 1))  (k : rx_W M d mc ms (pc + 1) lo (.int (x.toUInt32 % 65536).toInt32 :: st) σ post) : rx_W M d mc ms pc lo (.int x :: st) σ post := by
  intro l ev p e s m args below meth c C R H locs cells slots mt sst ls A
  exact lv_i2c C.1 C.2.1 hd rfl (k l ev p e s m args below meth c C R H locs cells slots mt sst ls A)
theorem ru_iushr {x y : Int32} (hd : decode M.2.1 pc = .ok (.iushr, 1))  (k : rx_W M d mc ms (pc + 1) lo (.int (x.toUInt32 >>> (y.toUInt32 &&& Int32.toUInt32 31)).toInt32 :: st) σ post) : rx_W M d mc ms pc lo (.int y :: .int x :: st) σ post := by
  intro l ev p e s m args below meth c C R H locs cells slots mt sst ls A
  exact lv_iushr C.1 C.2.1 hd rfl (k l ev p e s m args below meth c C R H locs cells slots mt sst ls A)
theorem ru_lshl {x : Int64} {y : Int32} (hd : decode M.2.1 pc = .ok (.lshl, 1))  (k : rx_W M d mc ms (pc + 1) lo (.long (x <<< (y.toInt64 &&& 63)) :: st) σ post) : rx_W M d mc ms pc lo (.int y :: .long x :: st) σ post := by
  intro l ev p e s m args below meth c C R H locs cells slots mt sst ls A
  exact lv_lshl C.1 C.2.1 hd rfl (k l ev p e s m args below meth c C R H locs cells slots mt sst ls A)
theorem ru_ishl {x y : Int32} (hd : decode M.2.1 pc = .ok (.ishl, 1))  (k : rx_W M d mc ms (pc + 1) lo (.int (x <<< (y &&& 31)) :: st) σ post) : rx_W M d mc ms pc lo (.int y :: .int x :: st) σ post := by
  intro l ev p e s m args below meth c C R H locs cells slots mt sst ls A
  exact lv_ishl C.1 C.2.1 hd  (k l ev p e s m args below meth c C R H locs cells slots mt sst ls A)
theorem ru_ishr {x y : Int32} (hd : decode M.2.1 pc = .ok (.ishr, 1))  (k : rx_W M d mc ms (pc + 1) lo (.int (x >>> (y &&& 31)) :: st) σ post) : rx_W M d mc ms pc lo (.int y :: .int x :: st) σ post := by
  intro l ev p e s m args below meth c C R H locs cells slots mt sst ls A
  exact lv_ishr C.1 C.2.1 hd  (k l ev p e s m args below meth c C R H locs cells slots mt sst ls A)
theorem ru_lcmp {x y : Int64} (hd : decode M.2.1 pc = .ok (.lcmp, 1))  (k : rx_W M d mc ms (pc + 1) lo (.int (lg_cmp x y) :: st) σ post) : rx_W M d mc ms pc lo (.long y :: .long x :: st) σ post := by
  intro l ev p e s m args below meth c C R H locs cells slots mt sst ls A
  exact W.lcmp C.1 C.2.1 hd  (k l ev p e s m args below meth c C R H locs cells slots mt sst ls A)
theorem ru_dup {a : Value} (hd : decode M.2.1 pc = .ok (.dup, 1)) (ha : a.category = 1) (k : rx_W M d mc ms (pc + 1) lo (a :: a :: st) σ post) : rx_W M d mc ms pc lo (a :: st) σ post := by
  intro l ev p e s m args below meth c C R H locs cells slots mt sst ls A
  exact lv_dup C.1 C.2.1 hd ((rx_tv_cat ev a).trans ha) (k l ev p e s m args below meth c C R H locs cells slots mt sst ls A)
theorem ru_pop {a : Value} (hd : decode M.2.1 pc = .ok (.pop, 1)) (ha : a.category = 1) (k : rx_W M d mc ms (pc + 1) lo (st) σ post) : rx_W M d mc ms pc lo (a :: st) σ post := by
  intro l ev p e s m args below meth c C R H locs cells slots mt sst ls A
  exact lv_pop C.1 C.2.1 hd ((rx_tv_cat ev a).trans ha) (k l ev p e s m args below meth c C R H locs cells slots mt sst ls A)
theorem ru_dup_x1 {a b : Value} (hd : decode M.2.1 pc = .ok (.dup_x1, 1)) (ha : a.category = 1) (hb : b.category = 1) (k : rx_W M d mc ms (pc + 1) lo (a :: b :: a :: st) σ post) : rx_W M d mc ms pc lo (a :: b :: st) σ post := by
  intro l ev p e s m args below meth c C R H locs cells slots mt sst ls A
  exact lv_dup_x1 C.1 C.2.1 hd ((rx_tv_cat ev a).trans ha) ((rx_tv_cat ev b).trans hb) (k l ev p e s m args below meth c C R H locs cells slots mt sst ls A)
theorem ru_dup_x2 {a b v : Value} (hd : decode M.2.1 pc = .ok (.dup_x2, 1)) (ha : a.category = 1) (hb : b.category = 1) (hv : v.category = 1) (k : rx_W M d mc ms (pc + 1) lo (a :: b :: v :: a :: st) σ post) : rx_W M d mc ms pc lo (a :: b :: v :: st) σ post := by
  intro l ev p e s m args below meth c C R H locs cells slots mt sst ls A
  exact lv_dup_x2 C.1 C.2.1 hd ((rx_tv_cat ev a).trans ha) ((rx_tv_cat ev b).trans hb) ((rx_tv_cat ev v).trans hv) (k l ev p e s m args below meth c C R H locs cells slots mt sst ls A)
theorem ru_dup2 {a b : Value} (hd : decode M.2.1 pc = .ok (.dup2, 1)) (ha : a.category = 1) (hb : b.category = 1) (k : rx_W M d mc ms (pc + 1) lo (a :: b :: a :: b :: st) σ post) : rx_W M d mc ms pc lo (a :: b :: st) σ post := by
  intro l ev p e s m args below meth c C R H locs cells slots mt sst ls A
  exact lv_dup2_11 C.1 C.2.1 hd ((rx_tv_cat ev a).trans ha) ((rx_tv_cat ev b).trans hb) (k l ev p e s m args below meth c C R H locs cells slots mt sst ls A)
theorem ru_dup2L {a : Value} (hd : decode M.2.1 pc = .ok (.dup2, 1)) (ha : a.category = 2) (k : rx_W M d mc ms (pc + 1) lo (a :: a :: st) σ post) : rx_W M d mc ms pc lo (a :: st) σ post := by
  intro l ev p e s m args below meth c C R H locs cells slots mt sst ls A
  exact lv_dup2_2 C.1 C.2.1 hd ((rx_tv_cat ev a).trans ha) (k l ev p e s m args below meth c C R H locs cells slots mt sst ls A)
theorem ru_dup2_x1L {a b : Value} (hd : decode M.2.1 pc = .ok (.dup2_x1, 1)) (ha : a.category = 2) (hb : b.category = 1) (k : rx_W M d mc ms (pc + 1) lo (a :: b :: a :: st) σ post) : rx_W M d mc ms pc lo (a :: b :: st) σ post := by
  intro l ev p e s m args below meth c C R H locs cells slots mt sst ls A
  exact lv_dup2_x1_2 C.1 C.2.1 hd ((rx_tv_cat ev a).trans ha) ((rx_tv_cat ev b).trans hb) (k l ev p e s m args below meth c C R H locs cells slots mt sst ls A)
theorem ru_if_eq {x : Int32} {off : Int} {tgt : Nat} (hd : decode M.2.1 pc = .ok (.ifCond .eq off, 3)) (ht : (pc : Int) + off = (tgt : Int)) (kt : x = 0 → rx_W M d mc ms tgt lo st σ post) (kf : ¬ x = 0 → rx_W M d mc ms (pc + 3) lo st σ post) : rx_W M d mc ms pc lo (.int x :: st) σ post := by
  intro l ev p e s m args below meth c C R H locs cells slots mt sst ls A
  exact lv_if_eq C.1 C.2.1 hd ht (fun h => kt h l ev p e s m args below meth c C R H locs cells slots mt sst ls A) (fun h => kf h l ev p e s m args below meth c C R H locs cells slots mt sst ls A)
theorem ru_icmp_eq {x y : Int32} {off : Int} {tgt : Nat} (hd : decode M.2.1 pc = .ok (.if_icmp .eq off, 3)) (ht : (pc : Int) + off = (tgt : Int)) (kt : x = y → rx_W M d mc ms tgt lo st σ post) (kf : ¬ x = y → rx_W M d mc ms (pc + 3) lo st σ post) : rx_W M d mc ms pc lo (.int y :: .int x :: st) σ post := by
  intro l ev p e s m args below meth c C R H locs cells slots mt sst ls A
  exact lv_icmp_eq C.1 C.2.1 hd ht (fun h => kt h l ev p e s m args below meth c C R H locs cells slots mt sst ls A) (fun h => kf h l ev p e s m args below meth c C R H locs cells slots mt sst ls A)
theorem ru_if_ne {x : Int32} {off : Int} {tgt : Nat} (hd : decode M.2.1 pc = .ok (.ifCond .ne off, 3)) (ht : (pc : Int) + off = (tgt : Int)) (kt : ¬ x = 0 → rx_W M d mc ms tgt lo st σ post) (kf : x = 0 → rx_W M d mc ms (pc + 3) lo st σ post) : rx_W M d mc ms pc lo (.int x :: st) σ post := by
  intro l ev p e s m args below meth c C R H locs cells slots mt sst ls A
  exact lv_if_ne C.1 C.2.1 hd ht (fun h => kt h l ev p e s m args below meth c C R H locs cells slots mt sst ls A) (fun h => kf h l ev p e s m args below meth c C R H locs cells slots mt sst ls A)
theorem ru_icmp_ne {x y : Int32} {off : Int} {tgt : Nat} (hd : decode M.2.1 pc = .ok (.if_icmp .ne off, 3)) (ht : (pc : Int) + off = (tgt : Int)) (kt : ¬ x = y → rx_W M d mc ms tgt lo st σ post) (kf : x = y → rx_W M d mc ms (pc + 3) lo st σ post) : rx_W M d mc ms pc lo (.int y :: .int x :: st) σ post := by
  intro l ev p e s m args below meth c C R H locs cells slots mt sst ls A
  exact lv_icmp_ne C.1 C.2.1 hd ht (fun h => kt h l ev p e s m args below meth c C R H locs cells slots mt sst ls A) (fun h => kf h l ev p e s m args below meth c C R H locs cells slots mt sst ls A)
theorem ru_if_lt {x : Int32} {off : Int} {tgt : Nat} (hd : decode M.2.1 pc = .ok (.ifCond .lt off, 3)) (ht : (pc : Int) + off = (tgt : Int)) (kt : x < 0 → rx_W M d mc ms tgt lo st σ post) (kf : ¬ x < 0 → rx_W M d mc ms (pc + 3) lo st σ post) : rx_W M d mc ms pc lo (.int x :: st) σ post := by
  intro l ev p e s m args below meth c C R H locs cells slots mt sst ls A
  exact lv_if_lt C.1 C.2.1 hd ht (fun h => kt h l ev p e s m args below meth c C R H locs cells slots mt sst ls A) (fun h => kf h l ev p e s m args below meth c C R H locs cells slots mt sst ls A)
theorem ru_icmp_lt {x y : Int32} {off : Int} {tgt : Nat} (hd : decode M.2.1 pc = .ok (.if_icmp .lt off, 3)) (ht : (pc : Int) + off = (tgt : Int)) (kt : x < y → rx_W M d mc ms tgt lo st σ post) (kf : ¬ x < y → rx_W M d mc ms (pc + 3) lo st σ post) : rx_W M d mc ms pc lo (.int y :: .int x :: st) σ post := by
  intro l ev p e s m args below meth c C R H locs cells slots mt sst ls A
  exact lv_icmp_lt C.1 C.2.1 hd ht (fun h => kt h l ev p e s m args below meth c C R H locs cells slots mt sst ls A) (fun h => kf h l ev p e s m args below meth c C R H locs cells slots mt sst ls A)
theorem ru_if_ge {x : Int32} {off : Int} {tgt : Nat} (hd : decode M.2.1 pc = .ok (.ifCond .ge off, 3)) (ht : (pc : Int) + off = (tgt : Int)) (kt : 0 ≤ x → rx_W M d mc ms tgt lo st σ post) (kf : ¬ 0 ≤ x → rx_W M d mc ms (pc + 3) lo st σ post) : rx_W M d mc ms pc lo (.int x :: st) σ post := by
  intro l ev p e s m args below meth c C R H locs cells slots mt sst ls A
  exact lv_if_ge C.1 C.2.1 hd ht (fun h => kt h l ev p e s m args below meth c C R H locs cells slots mt sst ls A) (fun h => kf h l ev p e s m args below meth c C R H locs cells slots mt sst ls A)
theorem ru_icmp_ge {x y : Int32} {off : Int} {tgt : Nat} (hd : decode M.2.1 pc = .ok (.if_icmp .ge off, 3)) (ht : (pc : Int) + off = (tgt : Int)) (kt : y ≤ x → rx_W M d mc ms tgt lo st σ post) (kf : ¬ y ≤ x → rx_W M d mc ms (pc + 3) lo st σ post) : rx_W M d mc ms pc lo (.int y :: .int x :: st) σ post := by
  intro l ev p e s m args below meth c C R H locs cells slots mt sst ls A
  exact lv_icmp_ge C.1 C.2.1 hd ht (fun h => kt h l ev p e s m args below meth c C R H locs cells slots mt sst ls A) (fun h => kf h l ev p e s m args below meth c C R H locs cells slots mt sst ls A)
theorem ru_if_gt {x : Int32} {off : Int} {tgt : Nat} (hd : decode M.2.1 pc = .ok (.ifCond .gt off, 3)) (ht : (pc : Int) + off = (tgt : Int)) (kt : 0 < x → rx_W M d mc ms tgt lo st σ post) (kf : ¬ 0 < x → rx_W M d mc ms (pc + 3) lo st σ post) : rx_W M d mc ms pc lo (.int x :: st) σ post := by
  intro l ev p e s m args below meth c C R H locs cells slots mt sst ls A
  exact lv_if_gt C.1 C.2.1 hd ht (fun h => kt h l ev p e s m args below meth c C R H locs cells slots mt sst ls A) (fun h => kf h l ev p e s m args below meth c C R H locs cells slots mt sst ls A)
theorem ru_icmp_gt {x y : Int32} {off : Int} {tgt : Nat} (hd : decode M.2.1 pc = .ok (.if_icmp .gt off, 3)) (ht : (pc : Int) + off = (tgt : Int)) (kt : y < x → rx_W M d mc ms tgt lo st σ post) (kf : ¬ y < x → rx_W M d mc ms (pc + 3) lo st σ post) : rx_W M d mc ms pc lo (.int y :: .int x :: st) σ post := by
  intro l ev p e s m args below meth c C R H locs cells slots mt sst ls A
  exact lv_icmp_gt C.1 C.2.1 hd ht (fun h => kt h l ev p e s m args below meth c C R H locs cells slots mt sst ls A) (fun h => kf h l ev p e s m args below meth c C R H locs cells slots mt sst ls A)
theorem ru_if_le {x : Int32} {off : Int} {tgt : Nat} (hd : decode M.2.1 pc = .ok (.ifCond .le off, 3)) (ht : (pc : Int) + off = (tgt : Int)) (kt : x ≤ 0 → rx_W M d mc ms tgt lo st σ post) (kf : ¬ x ≤ 0 → rx_W M d mc ms (pc + 3) lo st σ post) : rx_W M d mc ms pc lo (.int x :: st) σ post := by
  intro l ev p e s m args below meth c C R H locs cells slots mt sst ls A
  exact lv_if_le C.1 C.2.1 hd ht (fun h => kt h l ev p e s m args below meth c C R H locs cells slots mt sst ls A) (fun h => kf h l ev p e s m args below meth c C R H locs cells slots mt sst ls A)
theorem ru_icmp_le {x y : Int32} {off : Int} {tgt : Nat} (hd : decode M.2.1 pc = .ok (.if_icmp .le off, 3)) (ht : (pc : Int) + off = (tgt : Int)) (kt : x ≤ y → rx_W M d mc ms tgt lo st σ post) (kf : ¬ x ≤ y → rx_W M d mc ms (pc + 3) lo st σ post) : rx_W M d mc ms pc lo (.int y :: .int x :: st) σ post := by
  intro l ev p e s m args below meth c C R H locs cells slots mt sst ls A
  exact lv_icmp_le C.1 C.2.1 hd ht (fun h => kt h l ev p e s m args below meth c C R H locs cells slots mt sst ls A) (fun h => kf h l ev p e s m args below meth c C R H locs cells slots mt sst ls A)
theorem ru_goto {off : Int} {tgt : Nat} (hd : decode M.2.1 pc = .ok (.goto off, 3)) (ht : (pc : Int) + off = (tgt : Int)) (k : rx_W M d mc ms tgt lo st σ post) : rx_W M d mc ms pc lo st σ post := by
  intro l ev p e s m args below meth c C R H locs cells slots mt sst ls A
  exact lv_goto C.1 C.2.1 hd ht (k l ev p e s m args below meth c C R H locs cells slots mt sst ls A)
theorem ru_ifnonnull {x : Nat} {off : Int} {tgt : Nat} (hd : decode M.2.1 pc = .ok (.ifnonnull off, 3)) (ht : (pc : Int) + off = (tgt : Int)) (k : rx_W M d mc ms tgt lo st σ post) : rx_W M d mc ms pc lo (.ref x :: st) σ post := by
  intro l ev p e s m args below meth c C R H locs cells slots mt sst ls A
  exact lv_ifnonnull C.1 C.2.1 hd ht (k l ev p e s m args below meth c C R H locs cells slots mt sst ls A)
theorem ru_ifnull {x : Nat} {off : Int} (hd : decode M.2.1 pc = .ok (.ifnull off, 3)) (k : rx_W M d mc ms (pc + 3) lo st σ post) : rx_W M d mc ms pc lo (.ref x :: st) σ post := by
  intro l ev p e s m args below meth c C R H locs cells slots mt sst ls A
  exact lv_ifnull C.1 C.2.1 hd (k l ev p e s m args below meth c C R H locs cells slots mt sst ls A)
theorem ru_ifnullN {off : Int} {tgt : Nat} (hd : decode M.2.1 pc = .ok (.ifnull off, 3)) (ht : (pc : Int) + off = (tgt : Int)) (k : rx_W M d mc ms tgt lo st σ post) : rx_W M d mc ms pc lo (.null :: st) σ post := by
  intro l ev p e s m args below meth c C R H locs cells slots mt sst ls A
  exact lv_ifnullN C.1 C.2.1 hd ht (k l ev p e s m args below meth c C R H locs cells slots mt sst ls A)
theorem ru_ifnonnullN {off : Int} (hd : decode M.2.1 pc = .ok (.ifnonnull off, 3)) (k : rx_W M d mc ms (pc + 3) lo st σ post) : rx_W M d mc ms pc lo (.null :: st) σ post := by
  intro l ev p e s m args below meth c C R H locs cells slots mt sst ls A
  exact lv_ifnonnullN C.1 C.2.1 hd (k l ev p e s m args below meth c C R H locs cells slots mt sst ls A)
theorem ru_tableOut {dflt a b : Int} {offs : Array Int} {len : Nat} {x : Int32} {tgt : Nat} (hd : decode M.2.1 pc = .ok (.tableswitch dflt a b offs, len)) (h : x.toInt < a ∨ b < x.toInt) (ht : (pc : Int) + dflt = (tgt : Int)) (k : rx_W M d mc ms tgt lo st σ post) : rx_W M d mc ms pc lo (.int x :: st) σ post := by
  intro l ev p e s m args below meth c C R H locs cells slots mt sst ls A
  exact lv_tableOut C.1 C.2.1 hd h ht (k l ev p e s m args below meth c C R H locs cells slots mt sst ls A)
theorem ru_tableIn {dflt a b : Int} {offs : Array Int} {len : Nat} {x : Int32} {off : Int} {tgt : Nat} (hd : decode M.2.1 pc = .ok (.tableswitch dflt a b offs, len)) (h1 : ¬ x.toInt < a) (h2 : ¬ b < x.toInt) (ho : offs[(x.toInt - a).toNat]? = some off) (ht : (pc : Int) + off = (tgt : Int)) (k : rx_W M d mc ms tgt lo st σ post) : rx_W M d mc ms pc lo (.int x :: st) σ post := by
  intro l ev p e s m args below meth c C R H locs cells slots mt sst ls A
  exact lv_tableIn C.1 C.2.1 hd h1 h2 ho ht (k l ev p e s m args below meth c C R H locs cells slots mt sst ls A)
theorem ru_lookup {dflt : Int} {ps : Array (Int × Int)} {len : Nat} {x : Int32} {off : Int} {tgt : Nat} (hd : decode M.2.1 pc = .ok (.lookupswitch dflt ps, len)) (hp : (ps.toList.zip (ps.toList.drop 1)).all (fun (a, next) => a.1 < next.1) = true) (ho : Op.lookupswitch.offset ps.toList dflt x.toInt = off) (ht : (pc : Int) + off = (tgt : Int)) (k : rx_W M d mc ms tgt lo st σ post) : rx_W M d mc ms pc lo (.int x :: st) σ post := by
  intro l ev p e s m args below meth c C R H locs cells slots mt sst ls A
  exact lv_lookup C.1 C.2.1 hd hp ho ht (k l ev p e s m args below meth c C R H locs cells slots mt sst ls A)
theorem ru_ldc {ix : Nat} {v : Int32} (hd : decode M.2.1 pc = .ok (.ldc ix, 2)) (hw : Cond.constant M.1 ix v ∈ rx_TB) (k : rx_W M d mc ms (pc + 2) lo (.int v :: st) σ post) : rx_W M d mc ms pc lo st σ post := by
  intro l ev p e s m args below meth c C R H locs cells slots mt sst ls A
  exact lv_ldc C.1 C.2.1 C.2.2.2.1 (C.2.2.2.2.1 _ hw) hd (k l ev p e s m args below meth c C R H locs cells slots mt sst ls A)
theorem ru_ldc2 {ix : Nat} {v : Int64} (hd : decode M.2.1 pc = .ok (.ldc2_w ix, 3)) (hw : Cond.constantLong M.1 ix v ∈ rx_TB) (k : rx_W M d mc ms (pc + 3) lo (.long v :: st) σ post) : rx_W M d mc ms pc lo st σ post := by
  intro l ev p e s m args below meth c C R H locs cells slots mt sst ls A
  exact lv_ldc2 C.1 C.2.1 C.2.2.2.1 (C.2.2.2.2.1 _ hw) hd (k l ev p e s m args below meth c C R H locs cells slots mt sst ls A)
theorem ru_eqi {x y : Int32} (h : x = y) (k : rx_W M d mc ms pc lo (.int y :: st) σ post) : rx_W M d mc ms pc lo (.int x :: st) σ post := h ▸ k
theorem ru_eql {x y : Int64} (h : x = y) (k : rx_W M d mc ms pc lo (.long y :: st) σ post) : rx_W M d mc ms pc lo (.long x :: st) σ post := h ▸ k
theorem ru_eqv {x y : Value} (h : x = y) (k : rx_W M d mc ms pc lo (y :: st) σ post) : rx_W M d mc ms pc lo (x :: st) σ post := h ▸ k
theorem ru_topi {x : Int32} (k : ∀ y : Int32, y = x → rx_W M d mc ms pc lo (.int y :: st) σ post) : rx_W M d mc ms pc lo (.int x :: st) σ post := k x rfl
theorem ru_topl {x : Int64} (k : ∀ y : Int64, y = x → rx_W M d mc ms pc lo (.long y :: st) σ post) : rx_W M d mc ms pc lo (.long x :: st) σ post := k x rfl
theorem ru_mem {σ' : rx_S} (h : σ = σ') (k : rx_W M d mc ms pc lo st σ' post) : rx_W M d mc ms pc lo st σ post := h ▸ k
theorem ru_lo (lo' : List (Nat × Value)) (h : rx_sub lo' lo) (k : rx_W M d mc ms pc lo' st σ post) : rx_W M d mc ms pc lo st σ post := by
  intro l ev p e s m args below meth c C R H locs cells slots mt sst ls A
  exact k l ev p e s m args below meth c C R H locs cells slots mt sst ls (A.lo (rx_sub_has h A.2.2.2.1))
theorem ru_room {mc' ms' : Nat} (h1 : mc' ≤ mc) (h2 : ms' ≤ ms) (k : rx_W M d mc' ms' pc lo st σ post) : rx_W M d mc ms pc lo st σ post := by
  intro l ev p e s m args below meth c C R H locs cells slots mt sst ls A
  obtain ⟨a1, a2, a3, a4, a5, a6, a7, a8, a9⟩ := A
  exact k l ev p e s m args below meth c C R H locs cells slots mt sst ls ⟨a1, a2, a3, a4, a5, by omega, by omega, a8, a9⟩
theorem ru_post {post' post : Option Value → rx_S → Prop} (h : ∀ v t, post' v t → post v t) (k : rx_W M d mc ms pc lo st σ (pR post')) : rx_W M d mc ms pc lo st σ (pR post) := by
  intro l ev p e s m args below meth c C R H locs cells slots mt sst ls A T hT X
  obtain ⟨t, a, o, b1, b2, ⟨v, τ, q1, q2, q3⟩, b4⟩ := k l ev p e s m args below meth c C R H locs cells slots mt sst ls A T hT X
  exact ⟨t, a, o, b1, b2, ⟨v, τ, q1, h v τ q2, q3⟩, b4⟩
theorem ru_iret {post : Option Value → rx_S → Prop} {v : Int32} (hd : decode M.2.1 pc = .ok (.ireturn, 1)) (hr : M.2.2.2.1 = some .int) (h : post (some (.int v)) σ) : rx_W M d mc ms pc lo ([.int v]) σ (pR post) := by
  intro l ev p e s m args below meth c C R H locs cells slots mt sst ls A
  obtain ⟨a1, a2, a3, a4, a5, a6, a7, a8, a9⟩ := A
  refine W.widen (k := mt) (n := sst) (by omega) (by omega) ?_
  exact W.iret C.1 C.2.1 (C.2.2.2.2.2.1.trans hr) (fun t ht hW => ⟨some (.int v), σ, rfl, h, by rw [ht]; exact a3⟩) a5 hd C.2.2.2.2.2.2.1
theorem ru_lret {post : Option Value → rx_S → Prop} {v : Int64} (hd : decode M.2.1 pc = .ok (.lreturn, 1)) (hr : M.2.2.2.1 = some .long) (h : post (some (.long v)) σ) : rx_W M d mc ms pc lo ([.long v]) σ (pR post) := by
  intro l ev p e s m args below meth c C R H locs cells slots mt sst ls A
  obtain ⟨a1, a2, a3, a4, a5, a6, a7, a8, a9⟩ := A
  refine W.widen (k := mt) (n := sst) (by omega) (by omega) ?_
  exact W.lret C.1 C.2.1 (C.2.2.2.2.2.1.trans hr) (fun t ht hW => ⟨some (.long v), σ, rfl, h, by rw [ht]; exact a3⟩) a5 hd C.2.2.2.2.2.2.1
theorem ru_vret {post : Option Value → rx_S → Prop}  (hd : decode M.2.1 pc = .ok (.return_, 1)) (hr : M.2.2.2.1 = none) (h : post (none) σ) : rx_W M d mc ms pc lo ([]) σ (pR post) := by
  intro l ev p e s m args below meth c C R H locs cells slots mt sst ls A
  obtain ⟨a1, a2, a3, a4, a5, a6, a7, a8, a9⟩ := A
  refine W.widen (k := mt) (n := sst) (by omega) (by omega) ?_
  exact W.vret C.1 C.2.1 (C.2.2.2.2.2.1.trans hr) (fun t ht hW => ⟨none, σ, rfl, h, by rw [ht]; exact a3⟩) a5 hd C.2.2.2.2.2.2.1
theorem ru_zret {post : Option Value → rx_S → Prop} {v : Int32} {ty : FieldType} (hd : decode M.2.1 pc = .ok (.ireturn, 1)) (hr : M.2.2.2.1 = some ty) (hn : narrow ty (.int v) = .int v) (h : post (some (.int v)) σ) : rx_W M d mc ms pc lo ([.int v]) σ (pR post) := by
  intro l ev p e s m args below meth c C R H locs cells slots mt sst ls A
  obtain ⟨a1, a2, a3, a4, a5, a6, a7, a8, a9⟩ := A
  refine W.widen (k := mt) (n := sst) (by omega) (by omega) ?_
  exact W.zret C.1 C.2.1 (C.2.2.2.2.2.1.trans hr) hn (fun t ht hW => ⟨some (.int v), σ, rfl, h, by rw [ht]; exact a3⟩) a5 hd C.2.2.2.2.2.2.1
theorem ru_aret {post : Option Value → rx_S → Prop} {v : Nat} {ty : FieldType} (hd : decode M.2.1 pc = .ok (.areturn, 1)) (hr : M.2.2.2.1 = some ty) (hrt : (∃ n, ty = .object n) ∨ ∃ t, ty = .array t) (h : post (some (.ref v)) σ) : rx_W M d mc ms pc lo ([.ref v]) σ (pR post) := by
  intro l ev p e s m args below meth c C R H locs cells slots mt sst ls A
  obtain ⟨a1, a2, a3, a4, a5, a6, a7, a8, a9⟩ := A
  refine W.widen (k := mt) (n := sst) (by omega) (by omega) ?_
  exact W.aret C.1 C.2.1 (C.2.2.2.2.2.1.trans hr) hrt (Or.inr ⟨_, rfl⟩) (fun t ht hW => ⟨some (.ref v), σ, rfl, h, by rw [ht]; exact a3⟩) a5 hd C.2.2.2.2.2.2.1
theorem ru_aretN {post : Option Value → rx_S → Prop} {ty : FieldType} (hd : decode M.2.1 pc = .ok (.areturn, 1)) (hr : M.2.2.2.1 = some ty) (hrt : (∃ n, ty = .object n) ∨ ∃ t, ty = .array t) (h : post (some .null) σ) : rx_W M d mc ms pc lo ([.null]) σ (pR post) := by
  intro l ev p e s m args below meth c C R H locs cells slots mt sst ls A
  obtain ⟨a1, a2, a3, a4, a5, a6, a7, a8, a9⟩ := A
  refine W.widen (k := mt) (n := sst) (by omega) (by omega) ?_
  exact W.aret C.1 C.2.1 (C.2.2.2.2.2.1.trans hr) hrt (Or.inl rfl) (fun t ht hW => ⟨some .null, σ, rfl, h, by rw [ht]; exact a3⟩) a5 hd C.2.2.2.2.2.2.1
end
end
section
/-! ROWS OF THE LAYER: fields, arrays, new cells -/
def rx_kd : FieldType → Nat
  | .long => 1
  | .object _ => 2
  | .array _ => 2
  | _ => 0
/-- class ci is this one, with these fields -/
def rx_cls (ci : Nat) (q : vw_C) : Prop := vwCl[ci]? = some q ∧ ci < 90 ∧ (∀ w ∈ u_ws q.1 q.2.1 q.2.2, w ∈ rx_TB) ∧ (∀ k, k < q.2.2 → parseFieldDescriptor (q.2.1 k).2.2.1 = some (rx_ty ci k)) ∧ (∀ a, a < q.2.2 → ∀ b, b < q.2.2 → a ≠ b → (q.2.1 a).2.1 ≠ (q.2.1 b).2.1)
/-- place ix of class own's pool is field k of class ci -/
def rx_F (own : String) (ix ci k : Nat) : Prop := ∃ q : vw_C, rx_cls ci q ∧ k < q.2.2 ∧ (Cond.fieldLink own ix (q.2.1 k).1 (q.2.1 k).2.1 (q.2.1 k).2.2.1 ∈ rx_TB ∨ ∃ host, Cond.fieldLinkNest own ix (q.2.1 k).1 (q.2.1 k).2.1 (q.2.1 k).2.2.1 host ∈ rx_NB)
theorem rx_fv_i {ev : rx_E} {mi : Nat → Nat → Int32} {ml : Nat → Nat → Int64} {mr : Nat → Nat → Option Nat} {r k : Nat} {t : FieldType} (h : rx_kd t = 0) : rx_fv ev mi ml mr r t k = .int (mi r k) := by
  cases t <;> first | rfl | cases h
theorem rx_fv_l {ev : rx_E} {mi : Nat → Nat → Int32} {ml : Nat → Nat → Int64} {mr : Nat → Nat → Option Nat} {r k : Nat} {t : FieldType} (h : rx_kd t = 1) : rx_fv ev mi ml mr r t k = .long (ml r k) := by
  cases t <;> first | rfl | cases h
theorem rx_fv_r {ev : rx_E} {mi : Nat → Nat → Int32} {ml : Nat → Nat → Int64} {mr : Nat → Nat → Option Nat} {r k : Nat} {t : FieldType} (h : rx_kd t = 2) : rx_fv ev mi ml mr r t k = rx_tv ev (va_rf (mr r k)) := by
  cases t <;> first | rfl | cases h
theorem rx_R.ob {ev : rx_E} {σ : rx_S} {H : Heap} {r ci n : Nat} {q : vw_C} (h : rx_R ev σ H) (hi : rx_is σ r ci n) (hc : rx_cls ci q) : t_OB (rx_ea ev r) (ev.1.1 ci) q.2.2 (ev.1.2 ci) H (fun k => rx_fv ev σ.2.2.1 σ.2.2.2.1 σ.2.2.2.2 r (rx_ty ci k) k) := by
  obtain ⟨q', h1, h2⟩ := (h.2.2.2.1 r hi.1 hi.2.1).1 ci n hi.2.2 hc.2.1
  cases hc.1.symm.trans h1
  exact h2
theorem rx_R.ar {ev : rx_E} {σ : rx_S} {H : Heap} {r tg n : Nat} (h : rx_R ev σ H) (hi : rx_is σ r tg n) (ht : 100 ≤ tg) : H[rx_ea ev r]? = some (vp_cell (ev.2.1 tg) (n, rx_con ev σ.2.2.1 σ.2.2.2.1 σ.2.2.2.2 tg r)) := (h.2.2.2.1 r hi.1 hi.2.1).2.1 tg n hi.2.2 ht
theorem rx_one {D : va_G} {cl : List vw_C} {a : Nat} {e : va_E} {H : Heap} (h : va_at D cl (a, e) H) : va_P D cl [(a, e)] H := by
  intro k q hk
  match k, hk with
  | 0, hk => cases hk; exact h
  | k + 1, hk => simp at hk
section
variable {M : rx_M} {d mc ms pc : Nat} {lo : List (Nat × Value)} {st : List Value} {nx : Nat} {ct : Nat → Nat × Nat} {mi : Nat → Nat → Int32} {ml : Nat → Nat → Int64} {mr : Nat → Nat → Option Nat} {post : rx_End}
theorem ru_get {ix ci k r n : Nat} {v : Value} (hd : decode M.2.1 pc = .ok (.getfield ix, 3)) (hF : rx_F M.1 ix ci k) (hi : rx_is (nx, ct, mi, ml, mr) r ci n) (hv : ∀ ev, rx_fv ev mi ml mr r (rx_ty ci k) k = rx_tv ev v) (kk : rx_W M d mc ms (pc + 3) lo (v :: st) (nx, ct, mi, ml, mr) post) : rx_W M d mc ms pc lo (.ref r :: st) (nx, ct, mi, ml, mr) post := by
  intro l ev p e s m args below meth c C R H locs cells slots mt sst ls A
  obtain ⟨q, hc, hk, hlk⟩ := hF
  have hob := A.2.2.1.ob hi hc
  obtain ⟨cell, q1, q2, q3, q4⟩ := hob
  have hOk := C.2.2.2.2.2.2.2.2.1
  obtain ⟨hS, hfc, kC, hkC, hkind⟩ := hOk.1.1 ci _ hc.1
  obtain ⟨cf, kf, fi, f, hfi, hsl⟩ := hS k hk
  have hsv : cell.slots[f.slot]? = some (rx_tv ev v) := by rw [hsl, q4 k hk]; exact congrArg some (hv ev)
  have hst := (u_facts hfc hkC (u_lays C.2.2.2.2.1 hc.2.2.1 hk) hfi).1
  have hkn : cell.vm ≠ .unknown := by rw [q3]; exact fun h => by cases h
  have K := kk l ev p e s m args below meth c C R H locs cells slots mt sst ls A
  rcases hlk with h | ⟨host, h⟩
  · exact W.getf C.1 C.2.1 C.2.2.2.1 (C.2.2.2.2.1 _ h) hfi hst q1 hkn (v := rx_tv ev v) hsv rfl rfl hd K
  · exact va_Wgetf C.1 C.2.1 C.2.2.2.1 (va_Nw.use rfl (hOk.2.1 _ h)) hfi hst q1 hkn (v := rx_tv ev v) hsv rfl rfl hd K
theorem ru_getI {ix ci k r n : Nat} (hd : decode M.2.1 pc = .ok (.getfield ix, 3)) (hF : rx_F M.1 ix ci k) (hi : rx_is (nx, ct, mi, ml, mr) r ci n) (hk : rx_kd (rx_ty ci k) = 0) (kk : rx_W M d mc ms (pc + 3) lo (.int (mi r k) :: st) (nx, ct, mi, ml, mr) post) : rx_W M d mc ms pc lo (.ref r :: st) (nx, ct, mi, ml, mr) post :=
  ru_get hd hF hi (fun _ => rx_fv_i hk) kk
theorem ru_getL {ix ci k r n : Nat} (hd : decode M.2.1 pc = .ok (.getfield ix, 3)) (hF : rx_F M.1 ix ci k) (hi : rx_is (nx, ct, mi, ml, mr) r ci n) (hk : rx_kd (rx_ty ci k) = 1) (kk : rx_W M d mc ms (pc + 3) lo (.long (ml r k) :: st) (nx, ct, mi, ml, mr) post) : rx_W M d mc ms pc lo (.ref r :: st) (nx, ct, mi, ml, mr) post :=
  ru_get hd hF hi (fun _ => rx_fv_l hk) kk
theorem ru_getR {ix ci k r n a : Nat} (hd : decode M.2.1 pc = .ok (.getfield ix, 3)) (hF : rx_F M.1 ix ci k) (hi : rx_is (nx, ct, mi, ml, mr) r ci n) (hk : rx_kd (rx_ty ci k) = 2) (ha : mr r k = some a) (kk : rx_W M d mc ms (pc + 3) lo (.ref a :: st) (nx, ct, mi, ml, mr) post) : rx_W M d mc ms pc lo (.ref r :: st) (nx, ct, mi, ml, mr) post :=
  ru_get hd hF hi (fun _ => by rw [rx_fv_r hk, ha]; rfl) kk
theorem ru_getN {ix ci k r n : Nat} (hd : decode M.2.1 pc = .ok (.getfield ix, 3)) (hF : rx_F M.1 ix ci k) (hi : rx_is (nx, ct, mi, ml, mr) r ci n) (hk : rx_kd (rx_ty ci k) = 2) (ha : mr r k = none) (kk : rx_W M d mc ms (pc + 3) lo (.null :: st) (nx, ct, mi, ml, mr) post) : rx_W M d mc ms pc lo (.ref r :: st) (nx, ct, mi, ml, mr) post :=
  ru_get hd hF hi (fun _ => by rw [rx_fv_r hk, ha]; rfl) kk
/-- a field is written; fin: a final one, in its class's own constructor -/
theorem ru_put {ix ci k r n : Nat} {v : Value} {mi' : Nat → Nat → Int32} {ml' : Nat → Nat → Int64} {mr' : Nat → Nat → Option Nat} (hd : decode M.2.1 pc = .ok (.putfield ix, 3)) (hF : rx_F M.1 ix ci k) (hi : rx_is (nx, ct, mi, ml, mr) r ci n)
    (hfin : ∀ q, vwCl[ci]? = some q → (q.2.1 k).2.2.2 = false ∨ ((q.2.1 k).2.2.2 = true ∧ M.2.2.2.2.1 = "<init>" ∧ (q.2.1 k).1 = M.1)) (hn : ∀ ev, narrow (rx_ty ci k) (rx_tv ev v) = rx_tv ev v ∧ fits (rx_ty ci k) (rx_tv ev v) = true)
    (hv : ∀ ev j, rx_fv ev mi' ml' mr' r (rx_ty ci j) j = if j = k then rx_tv ev v else rx_fv ev mi ml mr r (rx_ty ci j) j) (ho : ∀ q : Nat, q ≠ r → mi' q = mi q ∧ ml' q = ml q ∧ mr' q = mr q)
    (kk : rx_W M d mc ms (pc + 3) lo st (nx, ct, mi', ml', mr') post) : rx_W M d mc ms pc lo (v :: .ref r :: st) (nx, ct, mi, ml, mr) post := by
  intro l ev p e s m args below meth c C R H locs cells slots mt sst ls A
  obtain ⟨q, hc, hk, hlk⟩ := hF
  have hob := A.2.2.1.ob hi hc
  obtain ⟨cell, q1, q2, q3, q4⟩ := hob
  have hOk := C.2.2.2.2.2.2.2.2.1
  have hts := C.2.2.2.2.1
  have hap := va_apart (own := M.1) hts hc.2.2.1 (rx_ty ci) hc.2.2.2.1 hc.2.2.2.2 hOk.1 hc.1
  obtain ⟨hS, hfc, kC, hkC, hkind⟩ := hOk.1.1 ci _ hc.1
  obtain ⟨cf, kf, fi, f, hfi, hsl⟩ := hS k hk
  have hst := (u_facts hfc hkC (u_lays hts hc.2.2.1 hk) hfi).1
  have hkn : cell.vm ≠ .unknown := by rw [q3]; exact fun h => by cases h
  have hlay := hts _ (hc.2.2.1 _ (u_in_lay hk))
  have h6 := u_fits hfc hkC hkind (u_lays hts hc.2.2.1 hk) hfi (hc.2.2.2.1 k hk) (hn ev).1 (hn ev).2
  have hacc : hasFlag f.accessFlags Acc.final = false ∨ (m.cls = cf ∧ meth.name = "<init>") := by
    rcases hfin q hc.1 with h | ⟨h, h', h''⟩
    · unfold u_lay at hlay
      rw [if_neg (by rw [h]; decide)] at hlay
      exact Or.inl (u_store hfc hkC hkind hlay hfi (hc.2.2.2.1 k hk) (hn ev).1 (hn ev).2).1
    · unfold u_lay at hlay
      rw [if_pos h] at hlay
      have hcf : m.cls = cf := by
        obtain ⟨_, _, c', _, _, _, -, -, hf', -, -, -, hown2, -⟩ := Cond.laysFinal_spec hlay
        have e1 : c' = cf := by have := hfi.symm.trans hf'; simp at this; exact this.1.symm
        rw [h''] at hown2
        rw [← e1]; exact Option.some.inj (C.2.2.2.1.symm.trans hown2)
      exact Or.inr ⟨hcf, C.2.2.2.2.2.2.2.1.trans h'⟩
  have hlt : f.slot < cell.slots.size := by rw [hsl]; exact k2_hasslot (q4 k hk)
  have ha : rx_ea ev r < H.size := (Array.getElem?_eq_some_iff.mp q1).1
  have K := kk l ev p e s m args below meth c C R (H.setIfInBounds (rx_ea ev r) (cell.setSlot f.slot (rx_tv ev v))) (locs ++ [⟨rx_ea ev r, f.slot⟩]) cells slots mt sst ls (by
    obtain ⟨a1, a2, a3, a4, a5, a6⟩ := A
    refine ⟨a1, a2, ?_, a4, t_lc a5 (by rw [rx_ea_in hi.1]; omega), a6⟩
    refine a3.upd (r := r) hi.1 hi.2.1 rfl (by simp) (fun q hq => by simp [Array.getElem?_setIfInBounds, Ne.symm hq]) (fun q hq => ⟨rfl, ho q hq⟩) ⟨fun ci' n' e' _ => ?_, fun tg n' e' h9 => ?_, ⟨cell.setSlot f.slot (rx_tv ev v), by simp [Array.getElem?_setIfInBounds, ha], by show cell.vm.isStatics = false; rw [q3]; rfl⟩⟩
    · have e2 : ci' = ci := congrArg Prod.fst (e'.symm.trans hi.2.2)
      subst e2
      refine ⟨q, hc.1, ⟨cell.setSlot f.slot (rx_tv ev v), by simp [Array.getElem?_setIfInBounds, ha], q2, q3, fun j hj => ?_⟩⟩
      rw [hsl]
      have := t_set q4 hap hk (rx_tv ev v) j hj
      rw [this]
      show some (updV _ _ _ _) = some (rx_fv _ _ _ _ _ _ _)
      rw [hv ev j]
      simp only [updV]
    · have e2 : tg = ci := congrArg Prod.fst (e'.symm.trans hi.2.2)
      exact absurd hc.2.1 (by omega))
  rcases hlk with h | ⟨host, h⟩
  · exact W.putf C.1 C.2.1 C.2.2.2.1 (hts _ h) hfi hst hacc q1 hkn hlt h6.1 (by rw [q2, q3]; exact h6.2) rfl rfl hd K
  · exact va_Wputf C.1 C.2.1 C.2.2.2.1 (va_Nw.use rfl (hOk.2.1 _ h)) hfi hst hacc q1 hkn hlt h6.1 (by rw [q2, q3]; exact h6.2) rfl rfl hd K
theorem ru_putI {ix ci k r n : Nat} {x : Int32} (hd : decode M.2.1 pc = .ok (.putfield ix, 3)) (hF : rx_F M.1 ix ci k) (hi : rx_is (nx, ct, mi, ml, mr) r ci n) (hk : rx_kd (rx_ty ci k) = 0)
    (hfin : ∀ q, vwCl[ci]? = some q → (q.2.1 k).2.2.2 = false ∨ ((q.2.1 k).2.2.2 = true ∧ M.2.2.2.2.1 = "<init>" ∧ (q.2.1 k).1 = M.1)) (hn : narrow (rx_ty ci k) (.int x) = .int x ∧ fits (rx_ty ci k) (.int x) = true)
    (kk : rx_W M d mc ms (pc + 3) lo st (nx, ct, rx_u mi r k x, ml, mr) post) : rx_W M d mc ms pc lo (.int x :: .ref r :: st) (nx, ct, mi, ml, mr) post := by
  refine ru_put hd hF hi hfin (fun _ => hn) (fun ev j => ?_) (fun q hq => ⟨rx_u_r _ _ hq, rfl, rfl⟩) kk
  by_cases h : j = k
  · subst h
    rw [if_pos rfl, rx_fv_i hk, rx_u_same]
    rfl
  · rw [if_neg h]
    unfold rx_fv
    split <;> simp only [rx_u_k _ _ h]
theorem ru_putL {ix ci k r n : Nat} {x : Int64} (hd : decode M.2.1 pc = .ok (.putfield ix, 3)) (hF : rx_F M.1 ix ci k) (hi : rx_is (nx, ct, mi, ml, mr) r ci n) (hk : rx_ty ci k = .long)
    (hfin : ∀ q, vwCl[ci]? = some q → (q.2.1 k).2.2.2 = false ∨ ((q.2.1 k).2.2.2 = true ∧ M.2.2.2.2.1 = "<init>" ∧ (q.2.1 k).1 = M.1))
    (kk : rx_W M d mc ms (pc + 3) lo st (nx, ct, mi, rx_u ml r k x, mr) post) : rx_W M d mc ms pc lo (.long x :: .ref r :: st) (nx, ct, mi, ml, mr) post := by
  refine ru_put hd hF hi hfin (fun _ => by rw [hk]; exact ⟨rfl, rfl⟩) (fun ev j => ?_) (fun q hq => ⟨rfl, rx_u_r _ _ hq, rfl⟩) kk
  by_cases h : j = k
  · subst h
    rw [if_pos rfl, rx_fv_l (by rw [hk]; rfl), rx_u_same]
    rfl
  · rw [if_neg h]
    unfold rx_fv
    split <;> simp only [rx_u_k _ _ h]
theorem ru_putR {ix ci k r n : Nat} {a : Option Nat} (hd : decode M.2.1 pc = .ok (.putfield ix, 3)) (hF : rx_F M.1 ix ci k) (hi : rx_is (nx, ct, mi, ml, mr) r ci n) (hk : rx_kd (rx_ty ci k) = 2)
    (hfin : ∀ q, vwCl[ci]? = some q → (q.2.1 k).2.2.2 = false ∨ ((q.2.1 k).2.2.2 = true ∧ M.2.2.2.2.1 = "<init>" ∧ (q.2.1 k).1 = M.1))
    (kk : rx_W M d mc ms (pc + 3) lo st (nx, ct, mi, ml, rx_u mr r k a) post) : rx_W M d mc ms pc lo (va_rf a :: .ref r :: st) (nx, ct, mi, ml, mr) post := by
  have hnf : ∀ (t : FieldType) (ev : rx_E), rx_kd t = 2 → narrow t (rx_tv ev (va_rf a)) = rx_tv ev (va_rf a) ∧ fits t (rx_tv ev (va_rf a)) = true := by
    intro t ev ht
    cases t <;> first | (cases ht; done) | (cases a <;> exact ⟨rfl, rfl⟩)
  refine ru_put hd hF hi hfin (fun ev => hnf _ ev hk) (fun ev j => ?_) (fun q hq => ⟨rfl, rfl, rx_u_r _ _ hq⟩) kk
  by_cases h : j = k
  · subst h
    rw [if_pos rfl, rx_fv_r hk, rx_u_same]
  · rw [if_neg h]
    unfold rx_fv
    split <;> simp only [rx_u_k _ _ h]
end
end
section
/-! ROWS OF THE LAYER: arrays, new cells -/
section
variable {M : rx_M} {d mc ms pc : Nat} {lo : List (Nat × Value)} {st : List Value} {nx : Nat} {ct : Nat → Nat × Nat} {mi : Nat → Nat → Int32} {ml : Nat → Nat → Int64} {mr : Nat → Nat → Option Nat} {post : rx_End}
theorem ru_iald {r n : Nat} {i : Int32} (hd : decode M.2.1 pc = .ok (.iaload, 1)) (hi : rx_is (nx, ct, mi, ml, mr) r 100 n) (hin : vp_in i n) (kk : rx_W M d mc ms (pc + 1) lo (.int (mi r i.toNatClampNeg) :: st) (nx, ct, mi, ml, mr) post) : rx_W M d mc ms pc lo (.int i :: .ref r :: st) (nx, ct, mi, ml, mr) post := by
  intro l ev p e s m args below meth c C R H locs cells slots mt sst ls A
  have hP : va_at ev.1 vwCl (rx_ea ev r, .inl (ev.2.1 100, n, .inl (mi r))) H := A.2.2.1.ar hi (by decide)
  exact va_iald C.1 C.2.1 C.2.2.2.2.2.2.2.2.1.1 (rx_one hP) 0 0 rfl rfl hin hd (kk l ev p e s m args below meth c C R H locs cells slots mt sst ls A)
theorem ru_ialdN {r n j : Nat} (hd : decode M.2.1 pc = .ok (.iaload, 1)) (hi : rx_is (nx, ct, mi, ml, mr) r 100 n) (hj : j < n) (hn : n < 2 ^ 31) (kk : rx_W M d mc ms (pc + 1) lo (.int (mi r j) :: st) (nx, ct, mi, ml, mr) post) : rx_W M d mc ms pc lo (.int (nI j) :: .ref r :: st) (nx, ct, mi, ml, mr) post := by
  refine ru_iald hd hi (vp_in_nI hj hn) ?_
  rw [nI_clamp (by omega)]
  exact kk
theorem ru_cald {r n : Nat} {i : Int32} (hd : decode M.2.1 pc = .ok (.caload, 1)) (hi : rx_is (nx, ct, mi, ml, mr) r 101 n) (hin : vp_in i n) (kk : rx_W M d mc ms (pc + 1) lo (.int (mi r i.toNatClampNeg) :: st) (nx, ct, mi, ml, mr) post) : rx_W M d mc ms pc lo (.int i :: .ref r :: st) (nx, ct, mi, ml, mr) post := by
  intro l ev p e s m args below meth c C R H locs cells slots mt sst ls A
  have hP : va_at ev.1 vwCl (rx_ea ev r, .inl (ev.2.1 101, n, .inl (mi r))) H := A.2.2.1.ar hi (by decide)
  exact va_cald C.1 C.2.1 C.2.2.2.2.2.2.2.2.1.1 (rx_one hP) 0 1 rfl rfl hin hd (kk l ev p e s m args below meth c C R H locs cells slots mt sst ls A)
theorem ru_caldN {r n j : Nat} (hd : decode M.2.1 pc = .ok (.caload, 1)) (hi : rx_is (nx, ct, mi, ml, mr) r 101 n) (hj : j < n) (hn : n < 2 ^ 31) (kk : rx_W M d mc ms (pc + 1) lo (.int (mi r j) :: st) (nx, ct, mi, ml, mr) post) : rx_W M d mc ms pc lo (.int (nI j) :: .ref r :: st) (nx, ct, mi, ml, mr) post := by
  refine ru_cald hd hi (vp_in_nI hj hn) ?_
  rw [nI_clamp (by omega)]
  exact kk
theorem ru_zald {r n : Nat} {i : Int32} (hd : decode M.2.1 pc = .ok (.baload, 1)) (hi : rx_is (nx, ct, mi, ml, mr) r 102 n) (hin : vp_in i n) (kk : rx_W M d mc ms (pc + 1) lo (.int (mi r i.toNatClampNeg) :: st) (nx, ct, mi, ml, mr) post) : rx_W M d mc ms pc lo (.int i :: .ref r :: st) (nx, ct, mi, ml, mr) post := by
  intro l ev p e s m args below meth c C R H locs cells slots mt sst ls A
  have hP : va_at ev.1 vwCl (rx_ea ev r, .inl (ev.2.1 102, n, .inl (mi r))) H := A.2.2.1.ar hi (by decide)
  exact va_zald C.1 C.2.1 C.2.2.2.2.2.2.2.2.1.1 (rx_one hP) 0 2 rfl rfl hin hd (kk l ev p e s m args below meth c C R H locs cells slots mt sst ls A)
theorem ru_zaldN {r n j : Nat} (hd : decode M.2.1 pc = .ok (.baload, 1)) (hi : rx_is (nx, ct, mi, ml, mr) r 102 n) (hj : j < n) (hn : n < 2 ^ 31) (kk : rx_W M d mc ms (pc + 1) lo (.int (mi r j) :: st) (nx, ct, mi, ml, mr) post) : rx_W M d mc ms pc lo (.int (nI j) :: .ref r :: st) (nx, ct, mi, ml, mr) post := by
  refine ru_zald hd hi (vp_in_nI hj hn) ?_
  rw [nI_clamp (by omega)]
  exact kk
theorem ru_bald {r n : Nat} {i : Int32} (hd : decode M.2.1 pc = .ok (.baload, 1)) (hi : rx_is (nx, ct, mi, ml, mr) r 103 n) (hin : vp_in i n) (kk : rx_W M d mc ms (pc + 1) lo (.int (mi r i.toNatClampNeg) :: st) (nx, ct, mi, ml, mr) post) : rx_W M d mc ms pc lo (.int i :: .ref r :: st) (nx, ct, mi, ml, mr) post := by
  intro l ev p e s m args below meth c C R H locs cells slots mt sst ls A
  have hP : va_at ev.1 vwCl (rx_ea ev r, .inl (ev.2.1 103, n, .inl (mi r))) H := A.2.2.1.ar hi (by decide)
  exact va_bald C.1 C.2.1 C.2.2.2.2.2.2.2.2.1.1 (rx_one hP) 0 3 rfl rfl hin hd (kk l ev p e s m args below meth c C R H locs cells slots mt sst ls A)
theorem ru_baldN {r n j : Nat} (hd : decode M.2.1 pc = .ok (.baload, 1)) (hi : rx_is (nx, ct, mi, ml, mr) r 103 n) (hj : j < n) (hn : n < 2 ^ 31) (kk : rx_W M d mc ms (pc + 1) lo (.int (mi r j) :: st) (nx, ct, mi, ml, mr) post) : rx_W M d mc ms pc lo (.int (nI j) :: .ref r :: st) (nx, ct, mi, ml, mr) post := by
  refine ru_bald hd hi (vp_in_nI hj hn) ?_
  rw [nI_clamp (by omega)]
  exact kk
theorem ru_lald {r n : Nat} {i : Int32} (hd : decode M.2.1 pc = .ok (.laload, 1)) (hi : rx_is (nx, ct, mi, ml, mr) r 104 n) (hin : vp_in i n) (kk : rx_W M d mc ms (pc + 1) lo (.long (ml r i.toNatClampNeg) :: st) (nx, ct, mi, ml, mr) post) : rx_W M d mc ms pc lo (.int i :: .ref r :: st) (nx, ct, mi, ml, mr) post := by
  intro l ev p e s m args below meth c C R H locs cells slots mt sst ls A
  have hP : va_at ev.1 vwCl (rx_ea ev r, .inl (ev.2.1 104, n, .inr (.inl (ml r)))) H := A.2.2.1.ar hi (by decide)
  exact va_lald C.1 C.2.1 C.2.2.2.2.2.2.2.2.1.1 (rx_one hP) 0 4 rfl rfl hin hd (kk l ev p e s m args below meth c C R H locs cells slots mt sst ls A)
theorem ru_laldN {r n j : Nat} (hd : decode M.2.1 pc = .ok (.laload, 1)) (hi : rx_is (nx, ct, mi, ml, mr) r 104 n) (hj : j < n) (hn : n < 2 ^ 31) (kk : rx_W M d mc ms (pc + 1) lo (.long (ml r j) :: st) (nx, ct, mi, ml, mr) post) : rx_W M d mc ms pc lo (.int (nI j) :: .ref r :: st) (nx, ct, mi, ml, mr) post := by
  refine ru_lald hd hi (vp_in_nI hj hn) ?_
  rw [nI_clamp (by omega)]
  exact kk
theorem ru_aldq {r n tg a : Nat} {i : Int32} {Cn : String} (hd : decode M.2.1 pc = .ok (.aaload, 1)) (hi : rx_is (nx, ct, mi, ml, mr) r tg n) (htg : 104 < tg) (hty : ∀ ev, (rx_tys ev)[tg - 100]? = some (ev.2.1 tg, .object Cn)) (hin : vp_in i n) (ha : mr r i.toNatClampNeg = some a) (kk : rx_W M d mc ms (pc + 1) lo (.ref a :: st) (nx, ct, mi, ml, mr) post) : rx_W M d mc ms pc lo (.int i :: .ref r :: st) (nx, ct, mi, ml, mr) post := by
  intro l ev p e s m args below meth c C R H locs cells slots mt sst ls A
  have hP : va_at ev.1 vwCl (rx_ea ev r, .inl (ev.2.1 tg, n, .inr (.inr (.inr (.inr (fun i => (mr r i).map (rx_ea ev))))))) H := by
    have h := A.2.2.1.ar hi (by omega)
    simp only [rx_con, if_neg (show ¬ tg < 104 by omega), if_neg (show ¬ tg = 104 by omega)] at h
    exact h
  refine va_aldq C.1 C.2.1 C.2.2.2.2.2.2.2.2.1.1 (rx_one hP) 0 (tg - 100) rfl (hty ev) hin hd ?_
  have K := kk l ev p e s m args below meth c C R H locs cells slots mt sst ls A
  rw [ha]
  exact K
theorem ru_alen {r n tg : Nat} {v : Int32} {ty : FieldType} (hd : decode M.2.1 pc = .ok (.arraylength, 1)) (hi : rx_is (nx, ct, mi, ml, mr) r tg n) (htg : 100 ≤ tg) (hty : ∀ ev, (rx_tys ev)[tg - 100]? = some (ev.2.1 tg, ty)) (hv : nI n = v) (kk : rx_W M d mc ms (pc + 1) lo (.int v :: st) (nx, ct, mi, ml, mr) post) : rx_W M d mc ms pc lo (.ref r :: st) (nx, ct, mi, ml, mr) post := by
  intro l ev p e s m args below meth c C R H locs cells slots mt sst ls A
  have hP : va_at ev.1 vwCl (rx_ea ev r, .inl (ev.2.1 tg, n, rx_con ev mi ml mr tg r)) H := A.2.2.1.ar hi htg
  exact va_alen C.1 C.2.1 C.2.2.2.2.2.2.2.2.1.1 (rx_one hP) 0 (tg - 100) rfl (hty ev) hv hd (kk l ev p e s m args below meth c C R H locs cells slots mt sst ls A)
theorem ru_iast {r n : Nat} {i : Int32} {x : Int32} (hd : decode M.2.1 pc = .ok (.iastore, 1)) (hi : rx_is (nx, ct, mi, ml, mr) r 100 n) (hin : vp_in i n) (kk : rx_W M d mc ms (pc + 1) lo st (nx, ct, rx_u mi r i.toNatClampNeg x, ml, mr) post) : rx_W M d mc ms pc lo (.int x :: .int i :: .ref r :: st) (nx, ct, mi, ml, mr) post := by
  intro l ev p e s m args below meth c C R H locs cells slots mt sst ls A
  have hP : H[rx_ea ev r]? = some (vp_cell (ev.2.1 100) (n, .inl (mi r))) := A.2.2.1.ar hi (by decide)
  refine W.iast C.1 C.2.1 hP ((C.2.2.2.2.2.2.2.2.1.1.2 0 _ rfl).1 n (fun j => .int (mi r j))) (fun q => by cases q) (by show ¬ (i < 0 ∨ (arrV _ _ _).slots.size ≤ _); rw [arrV_size]; exact hin) rfl rfl hd fun H1 e1 z1 o1 => ?_
  refine kk l ev p e s m args below meth c C R H1 _ cells slots mt sst ls ?_
  obtain ⟨a1, a2, a3, a4, a5, a6⟩ := A
  refine ⟨a1, a2, ?_, a4, t_lc a5 (by rw [rx_ea_in hi.1]; omega), a6⟩
  refine a3.upd (r := r) hi.1 hi.2.1 rfl z1 o1 (fun q hq => ⟨rfl, rx_u_r _ _ hq, rfl, rfl⟩) ⟨fun ci' n' e' h9 => ?_, fun tg n' e' _ => ?_, ⟨_, e1, rfl⟩⟩
  · have e2 : ci' = 100 := congrArg Prod.fst (e'.symm.trans hi.2.2)
    omega
  · have e2 : (100, n) = (tg, n') := hi.2.2.symm.trans e'
    cases e2
    rw [e1]
    show some _ = some (vp_cell _ (n, .inl (rx_u mi r i.toNatClampNeg x r)))
    rw [vp_cell_i, vp_cell_i, arrV_store, rx_u_at]
    congr 2
    funext q
    by_cases hq : q = i.toNatClampNeg
    · subst hq
      simp [updV, va_up, vp_nar]
      try rfl
    · simp [updV, va_up, hq]
theorem ru_iastN {r n j : Nat} {x : Int32} (hd : decode M.2.1 pc = .ok (.iastore, 1)) (hi : rx_is (nx, ct, mi, ml, mr) r 100 n) (hj : j < n) (hn : n < 2 ^ 31) (kk : rx_W M d mc ms (pc + 1) lo st (nx, ct, rx_u mi r j x, ml, mr) post) : rx_W M d mc ms pc lo (.int x :: .int (nI j) :: .ref r :: st) (nx, ct, mi, ml, mr) post := by
  refine ru_iast hd hi (vp_in_nI hj hn) ?_
  rw [nI_clamp (by omega)]
  exact kk
theorem ru_cast {r n : Nat} {i : Int32} {x : Int32} (hd : decode M.2.1 pc = .ok (.castore, 1)) (hi : rx_is (nx, ct, mi, ml, mr) r 101 n) (hin : vp_in i n) (kk : rx_W M d mc ms (pc + 1) lo st (nx, ct, rx_u mi r i.toNatClampNeg (vp_nar .char x), ml, mr) post) : rx_W M d mc ms pc lo (.int x :: .int i :: .ref r :: st) (nx, ct, mi, ml, mr) post := by
  intro l ev p e s m args below meth c C R H locs cells slots mt sst ls A
  have hP : H[rx_ea ev r]? = some (vp_cell (ev.2.1 101) (n, .inl (mi r))) := A.2.2.1.ar hi (by decide)
  refine W.cast C.1 C.2.1 hP ((C.2.2.2.2.2.2.2.2.1.1.2 1 _ rfl).1 n (fun j => .int (mi r j))) (fun q => by cases q) (by show ¬ (i < 0 ∨ (arrV _ _ _).slots.size ≤ _); rw [arrV_size]; exact hin) rfl rfl hd fun H1 e1 z1 o1 => ?_
  refine kk l ev p e s m args below meth c C R H1 _ cells slots mt sst ls ?_
  obtain ⟨a1, a2, a3, a4, a5, a6⟩ := A
  refine ⟨a1, a2, ?_, a4, t_lc a5 (by rw [rx_ea_in hi.1]; omega), a6⟩
  refine a3.upd (r := r) hi.1 hi.2.1 rfl z1 o1 (fun q hq => ⟨rfl, rx_u_r _ _ hq, rfl, rfl⟩) ⟨fun ci' n' e' h9 => ?_, fun tg n' e' _ => ?_, ⟨_, e1, rfl⟩⟩
  · have e2 : ci' = 101 := congrArg Prod.fst (e'.symm.trans hi.2.2)
    omega
  · have e2 : (101, n) = (tg, n') := hi.2.2.symm.trans e'
    cases e2
    rw [e1]
    show some _ = some (vp_cell _ (n, .inl (rx_u mi r i.toNatClampNeg (vp_nar .char x) r)))
    rw [vp_cell_i, vp_cell_i, arrV_store, rx_u_at]
    congr 2
    funext q
    by_cases hq : q = i.toNatClampNeg
    · subst hq
      simp [updV, va_up, vp_nar]
      try rfl
    · simp [updV, va_up, hq]
theorem ru_castN {r n j : Nat} {x : Int32} (hd : decode M.2.1 pc = .ok (.castore, 1)) (hi : rx_is (nx, ct, mi, ml, mr) r 101 n) (hj : j < n) (hn : n < 2 ^ 31) (kk : rx_W M d mc ms (pc + 1) lo st (nx, ct, rx_u mi r j (vp_nar .char x), ml, mr) post) : rx_W M d mc ms pc lo (.int x :: .int (nI j) :: .ref r :: st) (nx, ct, mi, ml, mr) post := by
  refine ru_cast hd hi (vp_in_nI hj hn) ?_
  rw [nI_clamp (by omega)]
  exact kk
theorem ru_zast {r n : Nat} {i : Int32} {x : Int32} (hd : decode M.2.1 pc = .ok (.bastore, 1)) (hi : rx_is (nx, ct, mi, ml, mr) r 102 n) (hin : vp_in i n) (kk : rx_W M d mc ms (pc + 1) lo st (nx, ct, rx_u mi r i.toNatClampNeg (vp_nar .boolean x), ml, mr) post) : rx_W M d mc ms pc lo (.int x :: .int i :: .ref r :: st) (nx, ct, mi, ml, mr) post := by
  intro l ev p e s m args below meth c C R H locs cells slots mt sst ls A
  have hP : H[rx_ea ev r]? = some (vp_cell (ev.2.1 102) (n, .inl (mi r))) := A.2.2.1.ar hi (by decide)
  refine W.zast C.1 C.2.1 hP ((C.2.2.2.2.2.2.2.2.1.1.2 2 _ rfl).1 n (fun j => .int (mi r j))) (fun q => by cases q) (by show ¬ (i < 0 ∨ (arrV _ _ _).slots.size ≤ _); rw [arrV_size]; exact hin) rfl rfl hd fun H1 e1 z1 o1 => ?_
  refine kk l ev p e s m args below meth c C R H1 _ cells slots mt sst ls ?_
  obtain ⟨a1, a2, a3, a4, a5, a6⟩ := A
  refine ⟨a1, a2, ?_, a4, t_lc a5 (by rw [rx_ea_in hi.1]; omega), a6⟩
  refine a3.upd (r := r) hi.1 hi.2.1 rfl z1 o1 (fun q hq => ⟨rfl, rx_u_r _ _ hq, rfl, rfl⟩) ⟨fun ci' n' e' h9 => ?_, fun tg n' e' _ => ?_, ⟨_, e1, rfl⟩⟩
  · have e2 : ci' = 102 := congrArg Prod.fst (e'.symm.trans hi.2.2)
    omega
  · have e2 : (102, n) = (tg, n') := hi.2.2.symm.trans e'
    cases e2
    rw [e1]
    show some _ = some (vp_cell _ (n, .inl (rx_u mi r i.toNatClampNeg (vp_nar .boolean x) r)))
    rw [vp_cell_i, vp_cell_i, arrV_store, rx_u_at]
    congr 2
    funext q
    by_cases hq : q = i.toNatClampNeg
    · subst hq
      simp [updV, va_up, vp_nar]
      try rfl
    · simp [updV, va_up, hq]
theorem ru_zastN {r n j : Nat} {x : Int32} (hd : decode M.2.1 pc = .ok (.bastore, 1)) (hi : rx_is (nx, ct, mi, ml, mr) r 102 n) (hj : j < n) (hn : n < 2 ^ 31) (kk : rx_W M d mc ms (pc + 1) lo st (nx, ct, rx_u mi r j (vp_nar .boolean x), ml, mr) post) : rx_W M d mc ms pc lo (.int x :: .int (nI j) :: .ref r :: st) (nx, ct, mi, ml, mr) post := by
  refine ru_zast hd hi (vp_in_nI hj hn) ?_
  rw [nI_clamp (by omega)]
  exact kk
theorem ru_bast {r n : Nat} {i : Int32} {x : Int32} (hd : decode M.2.1 pc = .ok (.bastore, 1)) (hi : rx_is (nx, ct, mi, ml, mr) r 103 n) (hin : vp_in i n) (kk : rx_W M d mc ms (pc + 1) lo st (nx, ct, rx_u mi r i.toNatClampNeg (vp_nar .byte x), ml, mr) post) : rx_W M d mc ms pc lo (.int x :: .int i :: .ref r :: st) (nx, ct, mi, ml, mr) post := by
  intro l ev p e s m args below meth c C R H locs cells slots mt sst ls A
  have hP : H[rx_ea ev r]? = some (vp_cell (ev.2.1 103) (n, .inl (mi r))) := A.2.2.1.ar hi (by decide)
  refine W.bast C.1 C.2.1 hP ((C.2.2.2.2.2.2.2.2.1.1.2 3 _ rfl).1 n (fun j => .int (mi r j))) (fun q => by cases q) (by show ¬ (i < 0 ∨ (arrV _ _ _).slots.size ≤ _); rw [arrV_size]; exact hin) rfl rfl hd fun H1 e1 z1 o1 => ?_
  refine kk l ev p e s m args below meth c C R H1 _ cells slots mt sst ls ?_
  obtain ⟨a1, a2, a3, a4, a5, a6⟩ := A
  refine ⟨a1, a2, ?_, a4, t_lc a5 (by rw [rx_ea_in hi.1]; omega), a6⟩
  refine a3.upd (r := r) hi.1 hi.2.1 rfl z1 o1 (fun q hq => ⟨rfl, rx_u_r _ _ hq, rfl, rfl⟩) ⟨fun ci' n' e' h9 => ?_, fun tg n' e' _ => ?_, ⟨_, e1, rfl⟩⟩
  · have e2 : ci' = 103 := congrArg Prod.fst (e'.symm.trans hi.2.2)
    omega
  · have e2 : (103, n) = (tg, n') := hi.2.2.symm.trans e'
    cases e2
    rw [e1]
    show some _ = some (vp_cell _ (n, .inl (rx_u mi r i.toNatClampNeg (vp_nar .byte x) r)))
    rw [vp_cell_i, vp_cell_i, arrV_store, rx_u_at]
    congr 2
    funext q
    by_cases hq : q = i.toNatClampNeg
    · subst hq
      simp [updV, va_up, vp_nar]
      try rfl
    · simp [updV, va_up, hq]
theorem ru_bastN {r n j : Nat} {x : Int32} (hd : decode M.2.1 pc = .ok (.bastore, 1)) (hi : rx_is (nx, ct, mi, ml, mr) r 103 n) (hj : j < n) (hn : n < 2 ^ 31) (kk : rx_W M d mc ms (pc + 1) lo st (nx, ct, rx_u mi r j (vp_nar .byte x), ml, mr) post) : rx_W M d mc ms pc lo (.int x :: .int (nI j) :: .ref r :: st) (nx, ct, mi, ml, mr) post := by
  refine ru_bast hd hi (vp_in_nI hj hn) ?_
  rw [nI_clamp (by omega)]
  exact kk
theorem ru_last {r n : Nat} {i : Int32} {x : Int64} (hd : decode M.2.1 pc = .ok (.lastore, 1)) (hi : rx_is (nx, ct, mi, ml, mr) r 104 n) (hin : vp_in i n) (kk : rx_W M d mc ms (pc + 1) lo st (nx, ct, mi, rx_u ml r i.toNatClampNeg x, mr) post) : rx_W M d mc ms pc lo (.long x :: .int i :: .ref r :: st) (nx, ct, mi, ml, mr) post := by
  intro l ev p e s m args below meth c C R H locs cells slots mt sst ls A
  have hP : H[rx_ea ev r]? = some (vp_cell (ev.2.1 104) (n, .inr (.inl (ml r)))) := A.2.2.1.ar hi (by decide)
  refine W.last C.1 C.2.1 hP ((C.2.2.2.2.2.2.2.2.1.1.2 4 _ rfl).1 n (fun j => .long (ml r j))) (fun q => by cases q) (by show ¬ (i < 0 ∨ (arrV _ _ _).slots.size ≤ _); rw [arrV_size]; exact hin) rfl rfl hd fun H1 e1 z1 o1 => ?_
  refine kk l ev p e s m args below meth c C R H1 _ cells slots mt sst ls ?_
  obtain ⟨a1, a2, a3, a4, a5, a6⟩ := A
  refine ⟨a1, a2, ?_, a4, t_lc a5 (by rw [rx_ea_in hi.1]; omega), a6⟩
  refine a3.upd (r := r) hi.1 hi.2.1 rfl z1 o1 (fun q hq => ⟨rfl, rfl, rx_u_r _ _ hq, rfl⟩) ⟨fun ci' n' e' h9 => ?_, fun tg n' e' _ => ?_, ⟨_, e1, rfl⟩⟩
  · have e2 : ci' = 104 := congrArg Prod.fst (e'.symm.trans hi.2.2)
    omega
  · have e2 : (104, n) = (tg, n') := hi.2.2.symm.trans e'
    cases e2
    rw [e1]
    show some _ = some (vp_cell _ (n, .inr (.inl (rx_u ml r i.toNatClampNeg x r))))
    rw [vp_cell_l, vp_cell_l, arrV_store, rx_u_at]
    congr 2
    funext q
    by_cases hq : q = i.toNatClampNeg
    · subst hq
      simp [updV, va_up, vp_nar]
      try rfl
    · simp [updV, va_up, hq]
theorem ru_lastN {r n j : Nat} {x : Int64} (hd : decode M.2.1 pc = .ok (.lastore, 1)) (hi : rx_is (nx, ct, mi, ml, mr) r 104 n) (hj : j < n) (hn : n < 2 ^ 31) (kk : rx_W M d mc ms (pc + 1) lo st (nx, ct, mi, rx_u ml r j x, mr) post) : rx_W M d mc ms pc lo (.long x :: .int (nI j) :: .ref r :: st) (nx, ct, mi, ml, mr) post := by
  refine ru_last hd hi (vp_in_nI hj hn) ?_
  rw [nI_clamp (by omega)]
  exact kk
/-- the memory with one more cell -/
def rx_new (nx : Nat) (ct : Nat → Nat × Nat) (mi : Nat → Nat → Int32) (ml : Nat → Nat → Int64) (mr : Nat → Nat → Option Nat) (tg n : Nat) : rx_S := (nx + 1, va_up ct nx (tg, n), va_up mi nx (fun _ => 0), va_up ml nx (fun _ => 0), va_up mr nx (fun _ => none))
/-- place ix of class own's pool is the class ci, which can be made -/
def rx_N (own : String) (ix ci N : Nat) : Prop := ∃ q : vw_C, rx_cls ci q ∧ q.2.2 = N ∧ Cond.classLink own ix q.1 ∈ rx_TB ∧ Cond.instantiable q.1 N ∈ rx_TB ∧ Cond.initialized q.1 ∈ rx_TB ∧ ∀ k, k < N → rx_ty ci k ≠ .float ∧ rx_ty ci k ≠ .double
theorem rx_dflt {ev : rx_E} {mi : Nat → Nat → Int32} {ml : Nat → Nat → Int64} {mr : Nat → Nat → Option Nat} {nx k : Nat} {t : FieldType} (h1 : t ≠ .float) (h2 : t ≠ .double) : defaultValue t = rx_fv ev (va_up mi nx (fun _ => 0)) (va_up ml nx (fun _ => 0)) (va_up mr nx (fun _ => none)) nx t k := by
  cases t <;> first | (exact absurd rfl h1) | (exact absurd rfl h2) | (simp [rx_fv, va_up, defaultValue, va_rf, rx_tv])
theorem rx_up_o {α : Type} (f : Nat → α) {k j : Nat} (v : α) (h : j ≠ k) : va_up f k v j = f j := va_up_ne f v h
theorem ru_new {ix ci N : Nat} (hd : decode M.2.1 pc = .ok (.new ix, 3)) (hN : rx_N M.1 ix ci N) (kk : rx_W M d mc ms (pc + 3) lo (.ref nx :: st) (rx_new nx ct mi ml mr ci 0) post) : rx_W M d (mc + 1) (ms + N) pc lo st (nx, ct, mi, ml, mr) post := by
  intro l ev p e s m args below meth c C R H locs cells slots mt sst ls A
  obtain ⟨q, hc, hq, w1, w2, w3, hnf⟩ := hN
  obtain ⟨a1, a2, a3, a4, a5, a6, a7, a8, a9⟩ := A
  have hts := C.2.2.2.2.1
  have hKn := C.2.2.2.2.2.2.2.2.1.1.1 ci _ hc.1
  have hea : rx_ea ev nx = H.size := a3.new
  refine W.newcK C.1 C.2.1 C.2.2.2.1 (hts _ w1) (hts _ w2) (hts _ w3) rfl hd (by omega) (by omega) hKn.2.1 rfl fun H1 kC hkC e1 z1 o1 => ?_
  have K := kk l ev p e s m args below meth c C R H1 locs (cells + 1) (slots + N) mt sst ls ⟨a1, a2, ?_, a4, a5, by omega, by omega, a8, a9⟩
  · rw [List.map_cons, show rx_tv ev (.ref nx) = .ref H.size by rw [← hea]; rfl] at K
    exact K
  · refine a3.grow rfl z1 o1 (fun x hx => ⟨va_up_ne _ _ hx, va_up_ne _ _ hx, va_up_ne _ _ hx, va_up_ne _ _ hx⟩) ⟨fun ci' n' e' h9 => ?_, fun tg n' e' h9 => ?_, ⟨_, by show H1[rx_ea ev nx]? = _; rw [hea]; exact e1, rfl⟩⟩
    · have e2 : (ci, 0) = (ci', n') := (va_up_self ct nx (ci, 0)).symm.trans e'
      cases e2
      refine ⟨q, hc.1, ?_⟩
      show t_OB (rx_ea ev nx) _ _ _ _ _
      rw [hea]
      exact (u_born (rx_ty ci) hts hc.2.2.1 hKn hkC e1 hc.2.2.2.1).to (fun k hk => rx_dflt (hnf k (by omega)).1 (hnf k (by omega)).2)
    · have e2 : (ci, 0) = (tg, n') := (va_up_self ct nx (ci, 0)).symm.trans e'
      cases e2
      exact absurd hc.2.1 (by omega)
theorem ru_newa {at_ : ArrayType} {ty : FieldType} {tg N : Nat} {n : Int32} (hd : decode M.2.1 pc = .ok (.newarray at_, 2)) (hty : newarray.typeOf at_ = ty) (hw : Cond.arrayClass ty ∈ rx_TB) (ht : ∀ ev, (rx_tys ev)[tg - 100]? = some (ev.2.1 tg, ty)) (htg : 100 ≤ tg) (hRA : ∀ U cA, va_RA U cA ty → U.vm.findClass ("[" ++ ty.toString) = some cA) (hcon : ∀ (ev : rx_E) (cA : ClassId), vp_cell cA (N, rx_con ev (va_up mi nx (fun _ => 0)) (va_up ml nx (fun _ => 0)) (va_up mr nx (fun _ => none)) tg nx) = arrV cA N (fun _ => defaultValue ty)) (hn : ¬ n < 0) (hN : n.toNatClampNeg = N) (hb : N * componentBytes ty ≤ 536870912) (kk : rx_W M d mc ms (pc + 2) lo (.ref nx :: st) (rx_new nx ct mi ml mr tg N) post) : rx_W M d (mc + 1) (ms + N) pc lo (.int n :: st) (nx, ct, mi, ml, mr) post := by
  intro l ev p e s m args below meth c C R H locs cells slots mt sst ls A
  subst hty
  obtain ⟨a1, a2, a3, a4, a5, a6, a7, a8, a9⟩ := A
  have hea : rx_ea ev nx = H.size := a3.new
  refine va_newaK C.1 C.2.1 (C.2.2.2.2.1 _ hw) rfl hd rfl hn hN hb (by omega) (by omega) rfl fun H1 cA e1 z1 o1 hAr hNm => ?_
  have hcA : cA = ev.2.1 tg := Option.some.inj (hNm.symm.trans (hRA _ _ (C.2.2.2.2.2.2.2.2.1.1.2 _ _ (ht ev)).2))
  subst hcA
  have K := kk l ev p e s m args below meth c C R H1 locs (cells + 1) (slots + N) mt sst ls ⟨a1, a2, ?_, a4, a5, by omega, by omega, a8, a9⟩
  · rw [List.map_cons, show rx_tv ev (.ref nx) = .ref H.size by rw [← hea]; rfl] at K
    exact K
  · refine a3.grow rfl z1 o1 (fun x hx => ⟨va_up_ne _ _ hx, va_up_ne _ _ hx, va_up_ne _ _ hx, va_up_ne _ _ hx⟩) ⟨fun ci' n' e' h9 => ?_, fun tg' n' e' h9 => ?_, ⟨_, by show H1[rx_ea ev nx]? = _; rw [hea]; exact e1, rfl⟩⟩
    · have e2 : (tg, N) = (ci', n') := (va_up_self ct nx (tg, N)).symm.trans e'
      cases e2
      omega
    · have e2 : (tg, N) = (tg', n') := (va_up_self ct nx (tg, N)).symm.trans e'
      cases e2
      show H1[rx_ea ev nx]? = some (vp_cell _ (N, rx_con ev _ _ _ tg nx))
      rw [hea]
      exact e1.trans (congrArg some (hcon ev _).symm)
end
end
section
/-! ROWS OF THE LAYER: calls -/
theorem rx_goodIn {y : MethodName} {M : rx_M} (h : Cond.code y M.2.1 M.2.2.1 M.2.2.2.1 ∈ rx_TB) : GoodIn rx_TB (rx_ws y M) := by
  intro w hw
  rcases List.mem_cons.mp hw with e | e
  · subst e
    exact ⟨h, good_of_word (rx_good _ h)⟩
  · exact ⟨e, good_of_word (rx_good _ e)⟩
/-- what every call needs: the callee's code, its class is there, its place in the caller's pool -/
def rx_L (own : String) (ix : Nat) (y : MethodName) (M : rx_M) (n : Nat) : Prop :=
  Cond.code y M.2.1 M.2.2.1 M.2.2.2.1 ∈ rx_TB ∧ Cond.initialized y.cls ∈ rx_TB ∧ (y.cls ≠ "java/lang/invoke/MethodHandle" ∧ y.cls ≠ "java/lang/invoke/VarHandle") ∧ (parseMethodDescriptor y.desc).map (fun d => d.parameters.length) = some n ∧ M.2.2.1 ≤ 21 ∧
    (Cond.methodLink own ix y ∈ rx_TB ∨ ∃ host, Cond.methodLinkNest own ix y host ∈ rx_NB)
def rx_LV (own : String) (ix : Nat) (y : MethodName) (M : rx_M) (n : Nat) : Prop := rx_L own ix y M n ∧ Cond.instanceMethod y ∈ rx_TB ∧ Cond.selects y.cls y y ∈ rx_TB
def rx_LS (own : String) (ix : Nat) (y : MethodName) (M : rx_M) (n : Nat) : Prop := rx_L own ix y M n ∧ Cond.static y ∈ rx_TB
def rx_LI (own : String) (ix : Nat) (y : MethodName) (M : rx_M) (n : Nat) : Prop := rx_L own ix y M n ∧ M.2.2.2.1 = none ∧ y.name = "<init>" ∧ Cond.instanceMethod y ∈ rx_TB
/-- cell r is an object of class Cn -/
def rx_recv (σ : rx_S) (r : Nat) (Cn : String) : Prop := ∀ (ev : rx_E) (s : State) (H : Heap), rx_Ok ev s → rx_R ev σ H → ∃ cell : Cell, H[rx_ea ev r]? = some cell ∧ cell.vm.isStatics = false ∧ s.vm.findClass Cn = some cell.cls
theorem rx_recv_is {σ : rx_S} {r ci n : Nat} {q : vw_C} (hi : rx_is σ r ci n) (hc : rx_cls ci q) : rx_recv σ r q.1 := by
  intro ev s H hOk hR
  obtain ⟨cell, q1, q2, q3, -⟩ := hR.ob hi hc
  exact ⟨cell, q1, by rw [q3]; rfl, by rw [q2]; exact (hOk.1.1 ci _ hc.1).2.1⟩
theorem rx_blind (ev : rx_E) (as : List Value) (σ : rx_S) : FrameBlind (rx_P ev as σ) := fun a U g mk h => ⟨h.1, h.2.1, rx_Ok_same (u := U) (U := U.calling g mk a) rfl h.2.2⟩
theorem rx_toList (ev : rx_E) (v : Option Value) (st : List Value) : (v.toList ++ st).map (rx_tv ev) = (v.map (rx_tv ev)).toList ++ st.map (rx_tv ev) := by cases v <;> rfl
theorem rx_cats (ev : rx_E) (st : List Value) : ((st.map (rx_tv ev)).map fun v => v.category) = st.map fun v => v.category := by
  rw [List.map_map]
  apply List.map_congr_left
  intro v _
  exact rx_tv_cat ev v
section
variable {p : Program} {l : Launch} {e : Env} {R : Room} {s : State} {m : MethodId} {args : Array Value} {below : List Frame} {meth : Method} {c : Code} {H : Heap} {locs : List Loc} {cells slots : Nat} {Q : State → Prop} {pc : Nat} {ls : Array Slot} {rest st0 : List Value} {a : Array Value} {mc1 ms1 : Nat} {ev : rx_E} {post1 : Option Value → rx_S → Prop}
theorem rx_after (hr : va_Run p l e R s m args below meth c H locs cells slots mc1 ms1 (F0 m pc ls st0) rest (rx_Q ev post1 a) (fun q => ev.2.2.2.1.size ≤ q))
    (kk : ∀ (v : Option Value) (τ : rx_S) (H1 : Heap) (L : List Loc), post1 v τ → rx_R ev τ H1 → (∀ q ∈ L, ev.2.2.2.1.size ≤ q.base) → W p l e R s m args below meth c H1 (locs ++ L) (cells + mc1) (slots + ms1) Q (F0 m (pc + 3) ls ((v.map (rx_tv ev)).toList ++ rest))) : W p l e R s m args below meth c H locs cells slots Q (F0 m pc ls st0) := by
  intro T hT X
  obtain ⟨v, st₀, t, T', L, h0, X', hL, e1, e2, ⟨v', τ, hv, hp, hR⟩, st⟩ := hr T hT X
  cases hv
  obtain ⟨t2, a1, b1⟩ := kk v' τ T'.heap L hp (by rw [e1]; exact hR) hL T' rfl X'
  exact ⟨t2, st t2 a1, b1⟩
end
section
variable {M M' : rx_M} {y : MethodName} {d d1 mc ms mc1 ms1 pc ix r : Nat} {lo : List (Nat × Value)} {st stk as : List Value} {σ : rx_S} {post : rx_End} {post1 : Option Value → rx_S → Prop}
theorem ru_callV (hd : decode M.2.1 pc = .ok (.invokevirtual ix, 3)) (hL : rx_LV M.1 ix y M' as.length) (hc : rx_Calls y M' d1 mc1 ms1 (.ref r :: as) σ post1) (hv : rx_recv σ r y.cls) (hdd : d1 + 1 ≤ d) (hstk : stk = as.reverse ++ .ref r :: st) (hcat : (st.map fun v => v.category).sum ≤ 8)
    (k : ∀ v τ, post1 v τ → rx_W M d mc ms (pc + 3) lo (v.toList ++ st) τ post) : rx_W M d (mc1 + mc) (ms1 + ms) pc lo stk σ post := by
  intro l ev p e s m args below meth c C R H locs cells slots mt sst ls A
  obtain ⟨⟨w1, w2, w3, w4, w5, w6⟩, w7, w8⟩ := hL
  obtain ⟨a1, a2, a3, a4, a5, a6, a7, a8, a9⟩ := A
  have hts := C.2.2.2.2.1
  have hOk := C.2.2.2.2.2.2.2.2.1
  have hws := pay_in hts (rx_goodIn (y := y) (M := M') w1)
  have hlen : ∀ sig, parseMethodDescriptor y.desc = some sig → as.length = sig.parameters.length := fun sig h => by
    rw [h] at w4
    exact (Option.some.inj w4).symm
  have hpre : PreV s H y.cls (rx_ea ev r) (rx_P ev (.ref r :: as) σ) (as.map (rx_tv ev)) := ⟨rx_blind _ _ _, hv ev s H hOk a3, fun U hU hW => ⟨rfl, by rw [hU]; exact a3, rx_Ok_warm hW hOk⟩⟩
  have hst : (F0 m pc ls (stk.map (rx_tv ev))).stack = (as.map (rx_tv ev)).reverse ++ .ref (rx_ea ev r) :: st.map (rx_tv ev) := by
    show stk.map (rx_tv ev) = _
    rw [hstk, List.map_append, List.map_reverse]
    rfl
  have hroom : 2 * (F0 m pc ls (stk.map (rx_tv ev))).monitorRoom + ((st.map (rx_tv ev)).map fun v => v.category).sum ≤ 8 := lv_room (by rw [rx_cats]; exact hcat)
  have fin : ∀ (v : Option Value) (τ : rx_S) (H1 : Heap) (L : List Loc), post1 v τ → rx_R ev τ H1 → (∀ q ∈ L, ev.2.2.2.1.size ≤ q.base) → W p l e R s m args below meth c H1 (locs ++ L) (cells + mc1) (slots + ms1) (post below ev args s mt sst) (F0 m (pc + 3) ls ((v.map (rx_tv ev)).toList ++ st.map (rx_tv ev))) := by
    intro v τ H1 L h1 h2 h3
    have K := k v τ h1 l ev p e s m args below meth c C R H1 (locs ++ L) (cells + mc1) (slots + ms1) mt sst ls ⟨a1, a2, h2, a4, t_lL a5 h3, by omega, by omega, a8, a9⟩
    rw [rx_toList] at K
    exact K
  rcases w6 with w6 | ⟨host, w6⟩
  · exact rx_after (va_runV ⟨C.1, C.2.1, C.2.2.1, C.2.2.2.1, hts⟩ (hc l C.2.2.2.2.2.2.2.2.2.2.1 ev) ⟨⟨rfl, rfl, by show d1 + 1 ≤ _; omega, by show 8 + (M'.2.2.1 + 11) + 40 * d1 ≤ _; omega, hws, List.mem_cons_self, hts _ w1, hts _ w2, w3, hlen, hts _ w6⟩, hts _ w7, hts _ w8⟩ hpre rfl (List.length_map _) a4.1 hst hroom hd ⟨by omega, by omega⟩) fin
  · exact rx_after (va_runVN ⟨C.1, C.2.1, C.2.2.1, C.2.2.2.1, hts⟩ (hc l C.2.2.2.2.2.2.2.2.2.2.1 ev) ⟨⟨⟨rfl, rfl, by show d1 + 1 ≤ _; omega, by show 8 + (M'.2.2.1 + 11) + 40 * d1 ≤ _; omega, hws, List.mem_cons_self⟩, hts _ w1, hts _ w2, w3, hlen, va_Nw.use rfl (hOk.2.1 _ w6)⟩, hts _ w7, hts _ w8⟩ hpre rfl (List.length_map _) a4.1 hst hroom hd ⟨by omega, by omega⟩) fin
theorem ru_callS (hd : decode M.2.1 pc = .ok (.invokestatic ix, 3)) (hL : rx_LS M.1 ix y M' as.length) (hc : rx_Calls y M' d1 mc1 ms1 as σ post1) (hdd : d1 + 1 ≤ d) (hstk : stk = as.reverse ++ st) (hcat : (st.map fun v => v.category).sum ≤ 8)
    (k : ∀ v τ, post1 v τ → rx_W M d mc ms (pc + 3) lo (v.toList ++ st) τ post) : rx_W M d (mc1 + mc) (ms1 + ms) pc lo stk σ post := by
  intro l ev p e s m args below meth c C R H locs cells slots mt sst ls A
  obtain ⟨⟨w1, w2, w3, w4, w5, w6⟩, w7⟩ := hL
  obtain ⟨a1, a2, a3, a4, a5, a6, a7, a8, a9⟩ := A
  have hts := C.2.2.2.2.1
  have hOk := C.2.2.2.2.2.2.2.2.1
  have hws := pay_in hts (rx_goodIn (y := y) (M := M') w1)
  have hlen : ∀ sig, parseMethodDescriptor y.desc = some sig → as.length = sig.parameters.length := fun sig h => by
    rw [h] at w4
    exact (Option.some.inj w4).symm
  have hpre : PreS s H (rx_P ev as σ) (as.map (rx_tv ev)) := ⟨rx_blind _ _ _, fun U hU hW => ⟨rfl, by rw [hU]; exact a3, rx_Ok_warm hW hOk⟩⟩
  have hst : (F0 m pc ls (stk.map (rx_tv ev))).stack = (as.map (rx_tv ev)).reverse ++ st.map (rx_tv ev) := by
    show stk.map (rx_tv ev) = _
    rw [hstk, List.map_append, List.map_reverse]
  have hroom : 2 * (F0 m pc ls (stk.map (rx_tv ev))).monitorRoom + ((st.map (rx_tv ev)).map fun v => v.category).sum ≤ 8 := lv_room (by rw [rx_cats]; exact hcat)
  have fin : ∀ (v : Option Value) (τ : rx_S) (H1 : Heap) (L : List Loc), post1 v τ → rx_R ev τ H1 → (∀ q ∈ L, ev.2.2.2.1.size ≤ q.base) → W p l e R s m args below meth c H1 (locs ++ L) (cells + mc1) (slots + ms1) (post below ev args s mt sst) (F0 m (pc + 3) ls ((v.map (rx_tv ev)).toList ++ st.map (rx_tv ev))) := by
    intro v τ H1 L h1 h2 h3
    have K := k v τ h1 l ev p e s m args below meth c C R H1 (locs ++ L) (cells + mc1) (slots + ms1) mt sst ls ⟨a1, a2, h2, a4, t_lL a5 h3, by omega, by omega, a8, a9⟩
    rw [rx_toList] at K
    exact K
  rcases w6 with w6 | ⟨host, w6⟩
  · exact rx_after (va_runS ⟨C.1, C.2.1, C.2.2.1, C.2.2.2.1, hts⟩ (hc l C.2.2.2.2.2.2.2.2.2.2.1 ev) ⟨⟨rfl, rfl, by show d1 + 1 ≤ _; omega, by show 8 + (M'.2.2.1 + 11) + 40 * d1 ≤ _; omega, hws, List.mem_cons_self, hts _ w1, hts _ w2, w3, hlen, hts _ w6⟩, hts _ w7⟩ hpre rfl (List.length_map _) a4.1 hst hroom hd ⟨by omega, by omega⟩) fin
  · exact rx_after (va_runSN ⟨C.1, C.2.1, C.2.2.1, C.2.2.2.1, hts⟩ (hc l C.2.2.2.2.2.2.2.2.2.2.1 ev) ⟨⟨⟨rfl, rfl, by show d1 + 1 ≤ _; omega, by show 8 + (M'.2.2.1 + 11) + 40 * d1 ≤ _; omega, hws, List.mem_cons_self⟩, hts _ w1, hts _ w2, w3, hlen, va_Nw.use rfl (hOk.2.1 _ w6)⟩, hts _ w7, trivial⟩ hpre rfl (List.length_map _) a4.1 hst hroom hd ⟨by omega, by omega⟩) fin
theorem ru_callI (hd : decode M.2.1 pc = .ok (.invokespecial ix, 3)) (hL : rx_LI M.1 ix y M' as.length) (hc : rx_Calls y M' d1 mc1 ms1 (.ref r :: as) σ post1) (hdd : d1 + 1 ≤ d) (hstk : stk = as.reverse ++ .ref r :: st) (hcat : (st.map fun v => v.category).sum ≤ 8)
    (k : ∀ v τ, post1 v τ → rx_W M d mc ms (pc + 3) lo (v.toList ++ st) τ post) : rx_W M d (mc1 + mc) (ms1 + ms) pc lo stk σ post := by
  intro l ev p e s m args below meth c C R H locs cells slots mt sst ls A
  obtain ⟨⟨w1, w2, w3, w4, w5, w6⟩, w7, w8, w9⟩ := hL
  obtain ⟨a1, a2, a3, a4, a5, a6, a7, a8, a9⟩ := A
  have hts := C.2.2.2.2.1
  have hOk := C.2.2.2.2.2.2.2.2.1
  have hws := pay_in hts (rx_goodIn (y := y) (M := M') w1)
  have hlen : ∀ sig, parseMethodDescriptor y.desc = some sig → as.length = sig.parameters.length := fun sig h => by
    rw [h] at w4
    exact (Option.some.inj w4).symm
  have hpre : PreS s H (rx_P ev (.ref r :: as) σ) (.ref (rx_ea ev r) :: as.map (rx_tv ev)) := ⟨rx_blind _ _ _, fun U hU hW => ⟨rfl, by rw [hU]; exact a3, rx_Ok_warm hW hOk⟩⟩
  have hst : (F0 m pc ls (stk.map (rx_tv ev))).stack = (as.map (rx_tv ev)).reverse ++ .ref (rx_ea ev r) :: st.map (rx_tv ev) := by
    show stk.map (rx_tv ev) = _
    rw [hstk, List.map_append, List.map_reverse]
    rfl
  have hroom : 2 * (F0 m pc ls (stk.map (rx_tv ev))).monitorRoom + ((st.map (rx_tv ev)).map fun v => v.category).sum ≤ 8 := lv_room (by rw [rx_cats]; exact hcat)
  have fin : ∀ (v : Option Value) (τ : rx_S) (H1 : Heap) (L : List Loc), post1 v τ → rx_R ev τ H1 → (∀ q ∈ L, ev.2.2.2.1.size ≤ q.base) → W p l e R s m args below meth c H1 (locs ++ L) (cells + mc1) (slots + ms1) (post below ev args s mt sst) (F0 m (pc + 3) ls ((v.map (rx_tv ev)).toList ++ st.map (rx_tv ev))) := by
    intro v τ H1 L h1 h2 h3
    have K := k v τ h1 l ev p e s m args below meth c C R H1 (locs ++ L) (cells + mc1) (slots + ms1) mt sst ls ⟨a1, a2, h2, a4, t_lL a5 h3, by omega, by omega, a8, a9⟩
    rw [rx_toList] at K
    exact K
  rw [w7] at w1
  have w1' := w1
  rcases w6 with w6 | ⟨host, w6⟩
  · exact rx_after (va_runI ⟨C.1, C.2.1, C.2.2.1, C.2.2.2.1, hts⟩ (hc l C.2.2.2.2.2.2.2.2.2.2.1 ev) ⟨⟨rfl, rfl, by show d1 + 1 ≤ _; omega, by show 8 + (M'.2.2.1 + 11) + 40 * d1 ≤ _; omega, hws, by rw [← w7]; exact List.mem_cons_self, hts _ w1, hts _ w2, w3, hlen, hts _ w6⟩, w8, hts _ w9⟩ hpre rfl (List.length_map _) a4.1 hst hroom hd ⟨by omega, by omega⟩) fin
  · exact rx_after (va_runIN ⟨C.1, C.2.1, C.2.2.1, C.2.2.2.1, hts⟩ (hc l C.2.2.2.2.2.2.2.2.2.2.1 ev) ⟨⟨⟨rfl, rfl, by show d1 + 1 ≤ _; omega, by show 8 + (M'.2.2.1 + 11) + 40 * d1 ≤ _; omega, hws, by rw [← w7]; exact List.mem_cons_self⟩, hts _ w1, hts _ w2, w3, hlen, va_Nw.use rfl (hOk.2.1 _ w6)⟩, w8, hts _ w9⟩ hpre rfl (List.length_map _) a4.1 hst hroom hd ⟨by omega, by omega⟩) fin
end
end
section
/-! LINKS: what a place of a pool is -/
theorem kx_RT : rx_cls 0 (R_RT, F_RT, 8) := by
  refine ⟨rfl, by decide, ?_, by decide +kernel, by decide +kernel⟩
  intro w hw
  obtain ⟨k, hk, rfl⟩ := List.mem_map.mp hw
  have hk : k < 8 := List.mem_range.mp hk
  match k, hk with
  | 0, _ => exact (rx_in (tm_2 (List.mem_of_getElem? (i := 56) rfl)) rfl)
  | 1, _ => exact (rx_in (tm_2 (List.mem_of_getElem? (i := 58) rfl)) rfl)
  | 2, _ => exact (rx_in (tm_2 (List.mem_of_getElem? (i := 60) rfl)) rfl)
  | 3, _ => exact (rx_in (tm_2 (List.mem_of_getElem? (i := 62) rfl)) rfl)
  | 4, _ => exact (rx_in (tm_2 (List.mem_of_getElem? (i := 64) rfl)) rfl)
  | 5, _ => exact (rx_in (tm_2 (List.mem_of_getElem? (i := 66) rfl)) rfl)
  | 6, _ => exact (rx_in (tm_2 (List.mem_of_getElem? (i := 68) rfl)) rfl)
  | 7, _ => exact (rx_in (tm_2 (List.mem_of_getElem? (i := 70) rfl)) rfl)
theorem kx_Am : rx_cls 1 (R_Am, F_Am, 4) := by
  refine ⟨rfl, by decide, ?_, by decide +kernel, by decide +kernel⟩
  intro w hw
  obtain ⟨k, hk, rfl⟩ := List.mem_map.mp hw
  have hk : k < 4 := List.mem_range.mp hk
  match k, hk with
  | 0, _ => exact (rx_in (tm_1 (List.mem_of_getElem? (i := 134) rfl)) rfl)
  | 1, _ => exact (rx_in (tm_1 (List.mem_of_getElem? (i := 136) rfl)) rfl)
  | 2, _ => exact (rx_in (tm_1 (List.mem_of_getElem? (i := 138) rfl)) rfl)
  | 3, _ => exact (rx_in (tm_1 (List.mem_of_getElem? (i := 140) rfl)) rfl)
theorem kx_Na : rx_cls 2 (R_Na, F_Na, 2) := by
  refine ⟨rfl, by decide, ?_, by decide +kernel, by decide +kernel⟩
  intro w hw
  obtain ⟨k, hk, rfl⟩ := List.mem_map.mp hw
  have hk : k < 2 := List.mem_range.mp hk
  match k, hk with
  | 0, _ => exact (rx_in (tm_1 (List.mem_of_getElem? (i := 48) rfl)) rfl)
  | 1, _ => exact (rx_in (tm_1 (List.mem_of_getElem? (i := 50) rfl)) rfl)
theorem kx_Rd : rx_cls 3 (R_Rd, F_Rd, 5) := by
  refine ⟨rfl, by decide, ?_, by decide +kernel, by decide +kernel⟩
  intro w hw
  obtain ⟨k, hk, rfl⟩ := List.mem_map.mp hw
  have hk : k < 5 := List.mem_range.mp hk
  match k, hk with
  | 0, _ => exact (rx_in (tm_1 (List.mem_of_getElem? (i := 148) rfl)) rfl)
  | 1, _ => exact (rx_in (tm_1 (List.mem_of_getElem? (i := 150) rfl)) rfl)
  | 2, _ => exact (rx_in (tm_1 (List.mem_of_getElem? (i := 152) rfl)) rfl)
  | 3, _ => exact (rx_in (tm_1 (List.mem_of_getElem? (i := 154) rfl)) rfl)
  | 4, _ => exact (rx_in (tm_1 (List.mem_of_getElem? (i := 156) rfl)) rfl)
theorem kx_Ru : rx_cls 4 (R_Ru, F_Ru, 9) := by
  refine ⟨rfl, by decide, ?_, by decide +kernel, by decide +kernel⟩
  intro w hw
  obtain ⟨k, hk, rfl⟩ := List.mem_map.mp hw
  have hk : k < 9 := List.mem_range.mp hk
  match k, hk with
  | 0, _ => exact (rx_in (tm_2 (List.mem_of_getElem? (i := 16) rfl)) rfl)
  | 1, _ => exact (rx_in (tm_2 (List.mem_of_getElem? (i := 18) rfl)) rfl)
  | 2, _ => exact (rx_in (tm_2 (List.mem_of_getElem? (i := 20) rfl)) rfl)
  | 3, _ => exact (rx_in (tm_2 (List.mem_of_getElem? (i := 22) rfl)) rfl)
  | 4, _ => exact (rx_in (tm_2 (List.mem_of_getElem? (i := 24) rfl)) rfl)
  | 5, _ => exact (rx_in (tm_2 (List.mem_of_getElem? (i := 26) rfl)) rfl)
  | 6, _ => exact (rx_in (tm_2 (List.mem_of_getElem? (i := 28) rfl)) rfl)
  | 7, _ => exact (rx_in (tm_2 (List.mem_of_getElem? (i := 30) rfl)) rfl)
  | 8, _ => exact (rx_in (tm_2 (List.mem_of_getElem? (i := 32) rfl)) rfl)
theorem kx_RL : rx_cls 5 (R_RL, F_RL, 2) := by
  refine ⟨rfl, by decide, ?_, by decide +kernel, by decide +kernel⟩
  intro w hw
  obtain ⟨k, hk, rfl⟩ := List.mem_map.mp hw
  have hk : k < 2 := List.mem_range.mp hk
  match k, hk with
  | 0, _ => exact (rx_in (tm_2 (List.mem_of_getElem? (i := 43) rfl)) rfl)
  | 1, _ => exact (rx_in (tm_2 (List.mem_of_getElem? (i := 45) rfl)) rfl)
theorem kx_Sh : rx_cls 6 (R_Sh, F_Sh, 5) := by
  refine ⟨rfl, by decide, ?_, by decide +kernel, by decide +kernel⟩
  intro w hw
  obtain ⟨k, hk, rfl⟩ := List.mem_map.mp hw
  have hk : k < 5 := List.mem_range.mp hk
  match k, hk with
  | 0, _ => exact (rx_in (tm_1 (List.mem_of_getElem? (i := 66) rfl)) rfl)
  | 1, _ => exact (rx_in (tm_1 (List.mem_of_getElem? (i := 68) rfl)) rfl)
  | 2, _ => exact (rx_in (tm_1 (List.mem_of_getElem? (i := 70) rfl)) rfl)
  | 3, _ => exact (rx_in (tm_1 (List.mem_of_getElem? (i := 72) rfl)) rfl)
  | 4, _ => exact (rx_in (tm_1 (List.mem_of_getElem? (i := 74) rfl)) rfl)
theorem kx_Wo : rx_cls 7 (R_Wo, F_Wo, 6) := by
  refine ⟨rfl, by decide, ?_, by decide +kernel, by decide +kernel⟩
  intro w hw
  obtain ⟨k, hk, rfl⟩ := List.mem_map.mp hw
  have hk : k < 6 := List.mem_range.mp hk
  match k, hk with
  | 0, _ => exact (rx_in (tm_1 (List.mem_of_getElem? (i := 103) rfl)) rfl)
  | 1, _ => exact (rx_in (tm_1 (List.mem_of_getElem? (i := 105) rfl)) rfl)
  | 2, _ => exact (rx_in (tm_1 (List.mem_of_getElem? (i := 107) rfl)) rfl)
  | 3, _ => exact (rx_in (tm_1 (List.mem_of_getElem? (i := 109) rfl)) rfl)
  | 4, _ => exact (rx_in (tm_1 (List.mem_of_getElem? (i := 111) rfl)) rfl)
  | 5, _ => exact (rx_in (tm_1 (List.mem_of_getElem? (i := 113) rfl)) rfl)
theorem kx_Wr : rx_cls 8 (R_Wr, F_Wr, 2) := by
  refine ⟨rfl, by decide, ?_, by decide +kernel, by decide +kernel⟩
  intro w hw
  obtain ⟨k, hk, rfl⟩ := List.mem_map.mp hw
  have hk : k < 2 := List.mem_range.mp hk
  match k, hk with
  | 0, _ => exact (rx_in (tm_1 (List.mem_of_getElem? (i := 201) rfl)) rfl)
  | 1, _ => exact (rx_in (tm_1 (List.mem_of_getElem? (i := 203) rfl)) rfl)
theorem kx_Mo : rx_cls 9 (R_Mo, F_Mo, 18) := by
  refine ⟨rfl, by decide, ?_, by decide +kernel, by decide +kernel⟩
  intro w hw
  obtain ⟨k, hk, rfl⟩ := List.mem_map.mp hw
  have hk : k < 18 := List.mem_range.mp hk
  match k, hk with
  | 0, _ => exact (rx_in (tm_5 (List.mem_of_getElem? (i := 138) rfl)) rfl)
  | 1, _ => exact (rx_in (tm_5 (List.mem_of_getElem? (i := 140) rfl)) rfl)
  | 2, _ => exact (rx_in (tm_5 (List.mem_of_getElem? (i := 142) rfl)) rfl)
  | 3, _ => exact (rx_in (tm_5 (List.mem_of_getElem? (i := 144) rfl)) rfl)
  | 4, _ => exact (rx_in (tm_5 (List.mem_of_getElem? (i := 146) rfl)) rfl)
  | 5, _ => exact (rx_in (tm_5 (List.mem_of_getElem? (i := 148) rfl)) rfl)
  | 6, _ => exact (rx_in (tm_5 (List.mem_of_getElem? (i := 150) rfl)) rfl)
  | 7, _ => exact (rx_in (tm_5 (List.mem_of_getElem? (i := 152) rfl)) rfl)
  | 8, _ => exact (rx_in (tm_5 (List.mem_of_getElem? (i := 154) rfl)) rfl)
  | 9, _ => exact (rx_in (tm_5 (List.mem_of_getElem? (i := 156) rfl)) rfl)
  | 10, _ => exact (rx_in (tm_5 (List.mem_of_getElem? (i := 158) rfl)) rfl)
  | 11, _ => exact (rx_in (tm_5 (List.mem_of_getElem? (i := 160) rfl)) rfl)
  | 12, _ => exact (rx_in (tm_5 (List.mem_of_getElem? (i := 162) rfl)) rfl)
  | 13, _ => exact (rx_in (tm_5 (List.mem_of_getElem? (i := 164) rfl)) rfl)
  | 14, _ => exact (rx_in (tm_5 (List.mem_of_getElem? (i := 166) rfl)) rfl)
  | 15, _ => exact (rx_in (tm_5 (List.mem_of_getElem? (i := 168) rfl)) rfl)
  | 16, _ => exact (rx_in (tm_5 (List.mem_of_getElem? (i := 170) rfl)) rfl)
  | 17, _ => exact (rx_in (tm_5 (List.mem_of_getElem? (i := 172) rfl)) rfl)
  | k + 18, h => exact absurd h (by omega)
theorem kx_SB : rx_cls 10 (R_SB, F_SB, 4) := by
  refine ⟨rfl, by decide, ?_, by decide +kernel, by decide +kernel⟩
  intro w hw
  obtain ⟨k, hk, rfl⟩ := List.mem_map.mp hw
  have hk : k < 4 := List.mem_range.mp hk
  match k, hk with
  | 0, _ => exact (rx_in (tm_1 (List.mem_of_getElem? (i := 188) rfl)) rfl)
  | 1, _ => exact (rx_in (tm_1 (List.mem_of_getElem? (i := 190) rfl)) rfl)
  | 2, _ => exact (rx_in (tm_1 (List.mem_of_getElem? (i := 192) rfl)) rfl)
  | 3, _ => exact (rx_in (tm_1 (List.mem_of_getElem? (i := 194) rfl)) rfl)
theorem lf_Na_9 : rx_F "RuleText$Names" 9 2 0 := ⟨_, kx_Na, by decide, Or.inl (rx_in (tm_1 (List.mem_of_getElem? (i := 44) rfl)) rfl)⟩
theorem lf_Wr_126 : rx_F "RuleText$Writer" 126 2 0 := ⟨_, kx_Na, by decide, Or.inl (rx_in (tm_1 (List.mem_of_getElem? (i := 45) rfl)) rfl)⟩
theorem lf_Na_15 : rx_F "RuleText$Names" 15 2 1 := ⟨_, kx_Na, by decide, Or.inl (rx_in (tm_1 (List.mem_of_getElem? (i := 46) rfl)) rfl)⟩
theorem lf_Wr_120 : rx_F "RuleText$Writer" 120 2 1 := ⟨_, kx_Na, by decide, Or.inl (rx_in (tm_1 (List.mem_of_getElem? (i := 47) rfl)) rfl)⟩
theorem lf_Sh_9 : rx_F "RuleText$Shapes" 9 6 0 := ⟨_, kx_Sh, by decide, Or.inl (rx_in (tm_1 (List.mem_of_getElem? (i := 61) rfl)) rfl)⟩
theorem lf_Sh_15 : rx_F "RuleText$Shapes" 15 6 1 := ⟨_, kx_Sh, by decide, Or.inl (rx_in (tm_1 (List.mem_of_getElem? (i := 62) rfl)) rfl)⟩
theorem lf_Sh_19 : rx_F "RuleText$Shapes" 19 6 2 := ⟨_, kx_Sh, by decide, Or.inl (rx_in (tm_1 (List.mem_of_getElem? (i := 63) rfl)) rfl)⟩
theorem lf_Sh_22 : rx_F "RuleText$Shapes" 22 6 3 := ⟨_, kx_Sh, by decide, Or.inl (rx_in (tm_1 (List.mem_of_getElem? (i := 64) rfl)) rfl)⟩
theorem lf_Sh_25 : rx_F "RuleText$Shapes" 25 6 4 := ⟨_, kx_Sh, by decide, Or.inl (rx_in (tm_1 (List.mem_of_getElem? (i := 65) rfl)) rfl)⟩
theorem lf_Wo_9 : rx_F "RuleText$Words" 9 7 0 := ⟨_, kx_Wo, by decide, Or.inl (rx_in (tm_1 (List.mem_of_getElem? (i := 85) rfl)) rfl)⟩
theorem lf_Am_41 : rx_F "RuleText$Amount" 41 7 0 := ⟨_, kx_Wo, by decide, Or.inl (rx_in (tm_1 (List.mem_of_getElem? (i := 86) rfl)) rfl)⟩
theorem lf_Na_44 : rx_F "RuleText$Names" 44 7 0 := ⟨_, kx_Wo, by decide, Or.inl (rx_in (tm_1 (List.mem_of_getElem? (i := 87) rfl)) rfl)⟩
theorem lf_Wo_19 : rx_F "RuleText$Words" 19 7 1 := ⟨_, kx_Wo, by decide, Or.inl (rx_in (tm_1 (List.mem_of_getElem? (i := 88) rfl)) rfl)⟩
theorem lf_RT_188 : rx_F "RuleText" 188 7 1 := ⟨_, kx_Wo, by decide, Or.inl (rx_in (tm_1 (List.mem_of_getElem? (i := 89) rfl)) rfl)⟩
theorem lf_Am_20 : rx_F "RuleText$Amount" 20 7 2 := ⟨_, kx_Wo, by decide, Or.inl (rx_in (tm_1 (List.mem_of_getElem? (i := 90) rfl)) rfl)⟩
theorem lf_Na_41 : rx_F "RuleText$Names" 41 7 2 := ⟨_, kx_Wo, by decide, Or.inl (rx_in (tm_1 (List.mem_of_getElem? (i := 91) rfl)) rfl)⟩
theorem lf_Wo_35 : rx_F "RuleText$Words" 35 7 2 := ⟨_, kx_Wo, by decide, Or.inl (rx_in (tm_1 (List.mem_of_getElem? (i := 92) rfl)) rfl)⟩
theorem lf_Rd_173 : rx_F "RuleText$Reader" 173 7 2 := ⟨_, kx_Wo, by decide, Or.inl (rx_in (tm_1 (List.mem_of_getElem? (i := 93) rfl)) rfl)⟩
theorem lf_Am_38 : rx_F "RuleText$Amount" 38 7 3 := ⟨_, kx_Wo, by decide, Or.inl (rx_in (tm_1 (List.mem_of_getElem? (i := 94) rfl)) rfl)⟩
theorem lf_Wo_23 : rx_F "RuleText$Words" 23 7 3 := ⟨_, kx_Wo, by decide, Or.inl (rx_in (tm_1 (List.mem_of_getElem? (i := 95) rfl)) rfl)⟩
theorem lf_Na_37 : rx_F "RuleText$Names" 37 7 3 := ⟨_, kx_Wo, by decide, Or.inl (rx_in (tm_1 (List.mem_of_getElem? (i := 96) rfl)) rfl)⟩
theorem lf_Rd_170 : rx_F "RuleText$Reader" 170 7 3 := ⟨_, kx_Wo, by decide, Or.inl (rx_in (tm_1 (List.mem_of_getElem? (i := 97) rfl)) rfl)⟩
theorem lf_Am_9 : rx_F "RuleText$Amount" 9 7 4 := ⟨_, kx_Wo, by decide, Or.inl (rx_in (tm_1 (List.mem_of_getElem? (i := 98) rfl)) rfl)⟩
theorem lf_Rd_55 : rx_F "RuleText$Reader" 55 7 4 := ⟨_, kx_Wo, by decide, Or.inl (rx_in (tm_1 (List.mem_of_getElem? (i := 99) rfl)) rfl)⟩
theorem lf_Wo_26 : rx_F "RuleText$Words" 26 7 4 := ⟨_, kx_Wo, by decide, Or.inl (rx_in (tm_1 (List.mem_of_getElem? (i := 100) rfl)) rfl)⟩
theorem lf_Wo_29 : rx_F "RuleText$Words" 29 7 5 := ⟨_, kx_Wo, by decide, Or.inl (rx_in (tm_1 (List.mem_of_getElem? (i := 101) rfl)) rfl)⟩
theorem lf_Rd_62 : rx_F "RuleText$Reader" 62 7 5 := ⟨_, kx_Wo, by decide, Or.inl (rx_in (tm_1 (List.mem_of_getElem? (i := 102) rfl)) rfl)⟩
theorem lf_Am_15 : rx_F "RuleText$Amount" 15 1 0 := ⟨_, kx_Am, by decide, Or.inl (rx_in (tm_1 (List.mem_of_getElem? (i := 128) rfl)) rfl)⟩
theorem lf_Rd_245 : rx_F "RuleText$Reader" 245 1 0 := ⟨_, kx_Am, by decide, Or.inl (rx_in (tm_1 (List.mem_of_getElem? (i := 129) rfl)) rfl)⟩
theorem lf_Am_31 : rx_F "RuleText$Amount" 31 1 1 := ⟨_, kx_Am, by decide, Or.inl (rx_in (tm_1 (List.mem_of_getElem? (i := 130) rfl)) rfl)⟩
theorem lf_Am_35 : rx_F "RuleText$Amount" 35 1 2 := ⟨_, kx_Am, by decide, Or.inl (rx_in (tm_1 (List.mem_of_getElem? (i := 131) rfl)) rfl)⟩
theorem lf_Am_49 : rx_F "RuleText$Amount" 49 1 3 := ⟨_, kx_Am, by decide, Or.inl (rx_in (tm_1 (List.mem_of_getElem? (i := 132) rfl)) rfl)⟩
theorem lf_Rd_205 : rx_F "RuleText$Reader" 205 1 3 := ⟨_, kx_Am, by decide, Or.inl (rx_in (tm_1 (List.mem_of_getElem? (i := 133) rfl)) rfl)⟩
theorem lf_Rd_21 : rx_F "RuleText$Reader" 21 3 0 := ⟨_, kx_Rd, by decide, Or.inl (rx_in (tm_1 (List.mem_of_getElem? (i := 143) rfl)) rfl)⟩
theorem lf_Rd_25 : rx_F "RuleText$Reader" 25 3 1 := ⟨_, kx_Rd, by decide, Or.inl (rx_in (tm_1 (List.mem_of_getElem? (i := 144) rfl)) rfl)⟩
theorem lf_Rd_12 : rx_F "RuleText$Reader" 12 3 2 := ⟨_, kx_Rd, by decide, Or.inl (rx_in (tm_1 (List.mem_of_getElem? (i := 145) rfl)) rfl)⟩
theorem lf_Rd_18 : rx_F "RuleText$Reader" 18 3 3 := ⟨_, kx_Rd, by decide, Or.inl (rx_in (tm_1 (List.mem_of_getElem? (i := 146) rfl)) rfl)⟩
theorem lf_Rd_29 : rx_F "RuleText$Reader" 29 3 4 := ⟨_, kx_Rd, by decide, Or.inl (rx_in (tm_1 (List.mem_of_getElem? (i := 147) rfl)) rfl)⟩
theorem lf_Wr_12 : rx_F "RuleText$Writer" 12 8 0 := ⟨_, kx_Wr, by decide, Or.inl (rx_in (tm_1 (List.mem_of_getElem? (i := 198) rfl)) rfl)⟩
theorem lf_RT_174 : rx_F "RuleText" 174 8 0 := ⟨_, kx_Wr, by decide, Or.inl (rx_in (tm_1 (List.mem_of_getElem? (i := 199) rfl)) rfl)⟩
theorem lf_Wr_18 : rx_F "RuleText$Writer" 18 8 1 := ⟨_, kx_Wr, by decide, Or.inl (rx_in (tm_1 (List.mem_of_getElem? (i := 200) rfl)) rfl)⟩
theorem lf_Ru_15 : rx_F "RuleText$Rule" 15 4 0 := ⟨_, kx_Ru, by decide, Or.inl (rx_in (tm_1 (List.mem_of_getElem? (i := 221) rfl)) rfl)⟩
theorem lf_Wr_40 : rx_F "RuleText$Writer" 40 4 0 := ⟨_, kx_Ru, by decide, Or.inl (rx_in (tm_1 (List.mem_of_getElem? (i := 222) rfl)) rfl)⟩
theorem lf_RT_93 : rx_F "RuleText" 93 4 0 := ⟨_, kx_Ru, by decide, Or.inl (rx_in (tm_1 (List.mem_of_getElem? (i := 223) rfl)) rfl)⟩
theorem lf_Rd_183 : rx_F "RuleText$Reader" 183 4 0 := ⟨_, kx_Ru, by decide, Or.inl (rx_in (tm_1 (List.mem_of_getElem? (i := 224) rfl)) rfl)⟩
theorem lf_Ru_20 : rx_F "RuleText$Rule" 20 4 1 := ⟨_, kx_Ru, by decide, Or.inl (rx_in (tm_1 (List.mem_of_getElem? (i := 225) rfl)) rfl)⟩
theorem lf_Wr_93 : rx_F "RuleText$Writer" 93 4 1 := ⟨_, kx_Ru, by decide, Or.inl (rx_in (tm_1 (List.mem_of_getElem? (i := 226) rfl)) rfl)⟩
theorem lf_RT_105 : rx_F "RuleText" 105 4 1 := ⟨_, kx_Ru, by decide, Or.inl (rx_in (tm_1 (List.mem_of_getElem? (i := 227) rfl)) rfl)⟩
theorem lf_Rd_122 : rx_F "RuleText$Reader" 122 4 1 := ⟨_, kx_Ru, by decide, Or.inl (rx_in (tm_1 (List.mem_of_getElem? (i := 228) rfl)) rfl)⟩
theorem lf_Ru_24 : rx_F "RuleText$Rule" 24 4 2 := ⟨_, kx_Ru, by decide, Or.inl (rx_in (tm_1 (List.mem_of_getElem? (i := 229) rfl)) rfl)⟩
theorem lf_Wr_101 : rx_F "RuleText$Writer" 101 4 2 := ⟨_, kx_Ru, by decide, Or.inl (rx_in (tm_1 (List.mem_of_getElem? (i := 230) rfl)) rfl)⟩
theorem lf_RT_115 : rx_F "RuleText" 115 4 2 := ⟨_, kx_Ru, by decide, Or.inl (rx_in (tm_1 (List.mem_of_getElem? (i := 231) rfl)) rfl)⟩
theorem lf_Rd_127 : rx_F "RuleText$Reader" 127 4 2 := ⟨_, kx_Ru, by decide, Or.inl (rx_in (tm_1 (List.mem_of_getElem? (i := 232) rfl)) rfl)⟩
theorem lf_Ru_27 : rx_F "RuleText$Rule" 27 4 3 := ⟨_, kx_Ru, by decide, Or.inl (rx_in (tm_1 (List.mem_of_getElem? (i := 233) rfl)) rfl)⟩
theorem lf_Wr_63 : rx_F "RuleText$Writer" 63 4 3 := ⟨_, kx_Ru, by decide, Or.inl (rx_in (tm_1 (List.mem_of_getElem? (i := 234) rfl)) rfl)⟩
theorem lf_RT_118 : rx_F "RuleText" 118 4 3 := ⟨_, kx_Ru, by decide, Or.inl (rx_in (tm_1 (List.mem_of_getElem? (i := 235) rfl)) rfl)⟩
theorem lf_Rd_153 : rx_F "RuleText$Reader" 153 4 3 := ⟨_, kx_Ru, by decide, Or.inl (rx_in (tm_1 (List.mem_of_getElem? (i := 236) rfl)) rfl)⟩
theorem lf_Ru_30 : rx_F "RuleText$Rule" 30 4 4 := ⟨_, kx_Ru, by decide, Or.inl (rx_in (tm_1 (List.mem_of_getElem? (i := 237) rfl)) rfl)⟩
theorem lf_Wr_69 : rx_F "RuleText$Writer" 69 4 4 := ⟨_, kx_Ru, by decide, Or.inl (rx_in (tm_1 (List.mem_of_getElem? (i := 238) rfl)) rfl)⟩
theorem lf_RT_121 : rx_F "RuleText" 121 4 4 := ⟨_, kx_Ru, by decide, Or.inl (rx_in (tm_1 (List.mem_of_getElem? (i := 239) rfl)) rfl)⟩
theorem lf_Rd_163 : rx_F "RuleText$Reader" 163 4 4 := ⟨_, kx_Ru, by decide, Or.inl (rx_in (tm_2 (List.mem_of_getElem? (i := 0) rfl)) rfl)⟩
theorem lf_Ru_33 : rx_F "RuleText$Rule" 33 4 5 := ⟨_, kx_Ru, by decide, Or.inl (rx_in (tm_2 (List.mem_of_getElem? (i := 1) rfl)) rfl)⟩
theorem lf_Wr_75 : rx_F "RuleText$Writer" 75 4 5 := ⟨_, kx_Ru, by decide, Or.inl (rx_in (tm_2 (List.mem_of_getElem? (i := 2) rfl)) rfl)⟩
theorem lf_RL_30 : rx_F "RuleText$RuleList" 30 4 5 := ⟨_, kx_Ru, by decide, Or.inl (rx_in (tm_2 (List.mem_of_getElem? (i := 3) rfl)) rfl)⟩
theorem lf_RT_124 : rx_F "RuleText" 124 4 5 := ⟨_, kx_Ru, by decide, Or.inl (rx_in (tm_2 (List.mem_of_getElem? (i := 4) rfl)) rfl)⟩
theorem lf_Rd_168 : rx_F "RuleText$Reader" 168 4 5 := ⟨_, kx_Ru, by decide, Or.inl (rx_in (tm_2 (List.mem_of_getElem? (i := 5) rfl)) rfl)⟩
theorem lf_Ru_38 : rx_F "RuleText$Rule" 38 4 6 := ⟨_, kx_Ru, by decide, Or.inl (rx_in (tm_2 (List.mem_of_getElem? (i := 6) rfl)) rfl)⟩
theorem lf_RT_129 : rx_F "RuleText" 129 4 6 := ⟨_, kx_Ru, by decide, Or.inl (rx_in (tm_2 (List.mem_of_getElem? (i := 7) rfl)) rfl)⟩
theorem lf_Wr_157 : rx_F "RuleText$Writer" 157 4 6 := ⟨_, kx_Ru, by decide, Or.inl (rx_in (tm_2 (List.mem_of_getElem? (i := 8) rfl)) rfl)⟩
theorem lf_Rd_215 : rx_F "RuleText$Reader" 215 4 6 := ⟨_, kx_Ru, by decide, Or.inl (rx_in (tm_2 (List.mem_of_getElem? (i := 9) rfl)) rfl)⟩
theorem lf_Ru_42 : rx_F "RuleText$Rule" 42 4 7 := ⟨_, kx_Ru, by decide, Or.inl (rx_in (tm_2 (List.mem_of_getElem? (i := 10) rfl)) rfl)⟩
theorem lf_RT_133 : rx_F "RuleText" 133 4 7 := ⟨_, kx_Ru, by decide, Or.inl (rx_in (tm_2 (List.mem_of_getElem? (i := 11) rfl)) rfl)⟩
theorem lf_Wr_149 : rx_F "RuleText$Writer" 149 4 7 := ⟨_, kx_Ru, by decide, Or.inl (rx_in (tm_2 (List.mem_of_getElem? (i := 12) rfl)) rfl)⟩
theorem lf_Rd_217 : rx_F "RuleText$Reader" 217 4 7 := ⟨_, kx_Ru, by decide, Or.inl (rx_in (tm_2 (List.mem_of_getElem? (i := 13) rfl)) rfl)⟩
theorem lf_Ru_45 : rx_F "RuleText$Rule" 45 4 8 := ⟨_, kx_Ru, by decide, Or.inl (rx_in (tm_2 (List.mem_of_getElem? (i := 14) rfl)) rfl)⟩
theorem lf_RT_160 : rx_F "RuleText" 160 4 8 := ⟨_, kx_Ru, by decide, Or.inl (rx_in (tm_2 (List.mem_of_getElem? (i := 15) rfl)) rfl)⟩
theorem lf_RL_11 : rx_F "RuleText$RuleList" 11 5 0 := ⟨_, kx_RL, by decide, Or.inl (rx_in (tm_2 (List.mem_of_getElem? (i := 35) rfl)) rfl)⟩
theorem lf_Wr_32 : rx_F "RuleText$Writer" 32 5 0 := ⟨_, kx_RL, by decide, Or.inl (rx_in (tm_2 (List.mem_of_getElem? (i := 36) rfl)) rfl)⟩
theorem lf_Rd_47 : rx_F "RuleText$Reader" 47 5 0 := ⟨_, kx_RL, by decide, Or.inl (rx_in (tm_2 (List.mem_of_getElem? (i := 37) rfl)) rfl)⟩
theorem lf_RT_89 : rx_F "RuleText" 89 5 0 := ⟨_, kx_RL, by decide, Or.inl (rx_in (tm_2 (List.mem_of_getElem? (i := 38) rfl)) rfl)⟩
theorem lf_RL_18 : rx_F "RuleText$RuleList" 18 5 1 := ⟨_, kx_RL, by decide, Or.inl (rx_in (tm_2 (List.mem_of_getElem? (i := 39) rfl)) rfl)⟩
theorem lf_Wr_26 : rx_F "RuleText$Writer" 26 5 1 := ⟨_, kx_RL, by decide, Or.inl (rx_in (tm_2 (List.mem_of_getElem? (i := 40) rfl)) rfl)⟩
theorem lf_Rd_38 : rx_F "RuleText$Reader" 38 5 1 := ⟨_, kx_RL, by decide, Or.inl (rx_in (tm_2 (List.mem_of_getElem? (i := 41) rfl)) rfl)⟩
theorem lf_RT_147 : rx_F "RuleText" 147 5 1 := ⟨_, kx_RL, by decide, Or.inl (rx_in (tm_2 (List.mem_of_getElem? (i := 42) rfl)) rfl)⟩
theorem lf_RT_10 : rx_F "RuleText" 10 0 0 := ⟨_, kx_RT, by decide, Or.inl (rx_in (tm_2 (List.mem_of_getElem? (i := 48) rfl)) rfl)⟩
theorem lf_RT_19 : rx_F "RuleText" 19 0 1 := ⟨_, kx_RT, by decide, Or.inl (rx_in (tm_2 (List.mem_of_getElem? (i := 49) rfl)) rfl)⟩
theorem lf_RT_26 : rx_F "RuleText" 26 0 2 := ⟨_, kx_RT, by decide, Or.inl (rx_in (tm_2 (List.mem_of_getElem? (i := 50) rfl)) rfl)⟩
theorem lf_RT_35 : rx_F "RuleText" 35 0 3 := ⟨_, kx_RT, by decide, Or.inl (rx_in (tm_2 (List.mem_of_getElem? (i := 51) rfl)) rfl)⟩
theorem lf_RT_44 : rx_F "RuleText" 44 0 4 := ⟨_, kx_RT, by decide, Or.inl (rx_in (tm_2 (List.mem_of_getElem? (i := 52) rfl)) rfl)⟩
theorem lf_RT_51 : rx_F "RuleText" 51 0 5 := ⟨_, kx_RT, by decide, Or.inl (rx_in (tm_2 (List.mem_of_getElem? (i := 53) rfl)) rfl)⟩
theorem lf_RT_55 : rx_F "RuleText" 55 0 6 := ⟨_, kx_RT, by decide, Or.inl (rx_in (tm_2 (List.mem_of_getElem? (i := 54) rfl)) rfl)⟩
theorem lf_RT_58 : rx_F "RuleText" 58 0 7 := ⟨_, kx_RT, by decide, Or.inl (rx_in (tm_2 (List.mem_of_getElem? (i := 55) rfl)) rfl)⟩
theorem lf_Mo_39 : rx_F "RuleTextModel" 39 9 0 := ⟨_, kx_Mo, by decide, Or.inl (rx_in (tm_5 (List.mem_of_getElem? (i := 120) rfl)) rfl)⟩
theorem lf_Mo_7 : rx_F "RuleTextModel" 7 9 1 := ⟨_, kx_Mo, by decide, Or.inl (rx_in (tm_5 (List.mem_of_getElem? (i := 121) rfl)) rfl)⟩
theorem lf_Mo_50 : rx_F "RuleTextModel" 50 9 2 := ⟨_, kx_Mo, by decide, Or.inl (rx_in (tm_5 (List.mem_of_getElem? (i := 122) rfl)) rfl)⟩
theorem lf_Mo_13 : rx_F "RuleTextModel" 13 9 3 := ⟨_, kx_Mo, by decide, Or.inl (rx_in (tm_5 (List.mem_of_getElem? (i := 123) rfl)) rfl)⟩
theorem lf_Mo_16 : rx_F "RuleTextModel" 16 9 4 := ⟨_, kx_Mo, by decide, Or.inl (rx_in (tm_5 (List.mem_of_getElem? (i := 124) rfl)) rfl)⟩
theorem lf_Mo_19 : rx_F "RuleTextModel" 19 9 5 := ⟨_, kx_Mo, by decide, Or.inl (rx_in (tm_5 (List.mem_of_getElem? (i := 125) rfl)) rfl)⟩
theorem lf_Mo_23 : rx_F "RuleTextModel" 23 9 6 := ⟨_, kx_Mo, by decide, Or.inl (rx_in (tm_5 (List.mem_of_getElem? (i := 126) rfl)) rfl)⟩
theorem lf_Mo_189 : rx_F "RuleTextModel" 189 9 7 := ⟨_, kx_Mo, by decide, Or.inl (rx_in (tm_5 (List.mem_of_getElem? (i := 127) rfl)) rfl)⟩
theorem lf_Mo_27 : rx_F "RuleTextModel" 27 9 8 := ⟨_, kx_Mo, by decide, Or.inl (rx_in (tm_5 (List.mem_of_getElem? (i := 128) rfl)) rfl)⟩
theorem lf_Mo_53 : rx_F "RuleTextModel" 53 9 9 := ⟨_, kx_Mo, by decide, Or.inl (rx_in (tm_5 (List.mem_of_getElem? (i := 129) rfl)) rfl)⟩
theorem lf_Mo_30 : rx_F "RuleTextModel" 30 9 10 := ⟨_, kx_Mo, by decide, Or.inl (rx_in (tm_5 (List.mem_of_getElem? (i := 130) rfl)) rfl)⟩
theorem lf_Mo_33 : rx_F "RuleTextModel" 33 9 11 := ⟨_, kx_Mo, by decide, Or.inl (rx_in (tm_5 (List.mem_of_getElem? (i := 131) rfl)) rfl)⟩
theorem lf_Mo_59 : rx_F "RuleTextModel" 59 9 12 := ⟨_, kx_Mo, by decide, Or.inl (rx_in (tm_5 (List.mem_of_getElem? (i := 132) rfl)) rfl)⟩
theorem lf_Mo_72 : rx_F "RuleTextModel" 72 9 13 := ⟨_, kx_Mo, by decide, Or.inl (rx_in (tm_5 (List.mem_of_getElem? (i := 133) rfl)) rfl)⟩
theorem lf_Mo_101 : rx_F "RuleTextModel" 101 9 14 := ⟨_, kx_Mo, by decide, Or.inl (rx_in (tm_5 (List.mem_of_getElem? (i := 134) rfl)) rfl)⟩
theorem lf_Mo_36 : rx_F "RuleTextModel" 36 9 15 := ⟨_, kx_Mo, by decide, Or.inl (rx_in (tm_5 (List.mem_of_getElem? (i := 135) rfl)) rfl)⟩
theorem lf_Mo_215 : rx_F "RuleTextModel" 215 9 16 := ⟨_, kx_Mo, by decide, Or.inl (rx_in (tm_5 (List.mem_of_getElem? (i := 136) rfl)) rfl)⟩
theorem lf_Mo_118 : rx_F "RuleTextModel" 118 9 17 := ⟨_, kx_Mo, by decide, Or.inl (rx_in (tm_5 (List.mem_of_getElem? (i := 137) rfl)) rfl)⟩
theorem ln_Lw_8 : rx_N "RuleTextLaw" 8 0 8 := ⟨_, kx_RT, rfl, (rx_in (tm_1 (List.mem_of_getElem? (i := 30) rfl)) rfl), (rx_in (tm_1 (List.mem_of_getElem? (i := 31) rfl)) rfl), (rx_in (tm_1 (List.mem_of_getElem? (i := 1) rfl)) rfl), by decide +kernel⟩
theorem ln_RT_7 : rx_N "RuleText" 7 2 2 := ⟨_, kx_Na, rfl, (rx_in (tm_1 (List.mem_of_getElem? (i := 38) rfl)) rfl), (rx_in (tm_1 (List.mem_of_getElem? (i := 39) rfl)) rfl), (rx_in (tm_1 (List.mem_of_getElem? (i := 2) rfl)) rfl), by decide +kernel⟩
theorem ln_RT_16 : rx_N "RuleText" 16 6 5 := ⟨_, kx_Sh, rfl, (rx_in (tm_1 (List.mem_of_getElem? (i := 55) rfl)) rfl), (rx_in (tm_1 (List.mem_of_getElem? (i := 56) rfl)) rfl), (rx_in (tm_1 (List.mem_of_getElem? (i := 3) rfl)) rfl), by decide +kernel⟩
theorem ln_RT_23 : rx_N "RuleText" 23 7 6 := ⟨_, kx_Wo, rfl, (rx_in (tm_1 (List.mem_of_getElem? (i := 79) rfl)) rfl), (rx_in (tm_1 (List.mem_of_getElem? (i := 80) rfl)) rfl), (rx_in (tm_1 (List.mem_of_getElem? (i := 4) rfl)) rfl), by decide +kernel⟩
theorem ln_RT_30 : rx_N "RuleText" 30 3 5 := ⟨_, kx_Rd, rfl, (rx_in (tm_1 (List.mem_of_getElem? (i := 116) rfl)) rfl), (rx_in (tm_1 (List.mem_of_getElem? (i := 117) rfl)) rfl), (rx_in (tm_1 (List.mem_of_getElem? (i := 5) rfl)) rfl), by decide +kernel⟩
theorem ln_Rd_9 : rx_N "RuleText$Reader" 9 1 4 := ⟨_, kx_Am, rfl, (rx_in (tm_1 (List.mem_of_getElem? (i := 122) rfl)) rfl), (rx_in (tm_1 (List.mem_of_getElem? (i := 123) rfl)) rfl), (rx_in (tm_1 (List.mem_of_getElem? (i := 6) rfl)) rfl), by decide +kernel⟩
theorem ln_RT_39 : rx_N "RuleText" 39 8 2 := ⟨_, kx_Wr, rfl, (rx_in (tm_1 (List.mem_of_getElem? (i := 159) rfl)) rfl), (rx_in (tm_1 (List.mem_of_getElem? (i := 160) rfl)) rfl), (rx_in (tm_1 (List.mem_of_getElem? (i := 7) rfl)) rfl), by decide +kernel⟩
theorem ln_Wr_9 : rx_N "RuleText$Writer" 9 10 4 := ⟨_, kx_SB, rfl, (rx_in (tm_1 (List.mem_of_getElem? (i := 165) rfl)) rfl), (rx_in (tm_1 (List.mem_of_getElem? (i := 166) rfl)) rfl), (rx_in (tm_1 (List.mem_of_getElem? (i := 9) rfl)) rfl), by decide +kernel⟩
theorem ln_RT_48 : rx_N "RuleText" 48 5 2 := ⟨_, kx_RL, rfl, (rx_in (tm_1 (List.mem_of_getElem? (i := 206) rfl)) rfl), (rx_in (tm_1 (List.mem_of_getElem? (i := 207) rfl)) rfl), (rx_in (tm_1 (List.mem_of_getElem? (i := 12) rfl)) rfl), by decide +kernel⟩
theorem ln_RL_9 : rx_N "RuleText$RuleList" 9 4 9 := ⟨_, kx_Ru, rfl, (rx_in (tm_1 (List.mem_of_getElem? (i := 212) rfl)) rfl), (rx_in (tm_1 (List.mem_of_getElem? (i := 214) rfl)) rfl), (rx_in (tm_1 (List.mem_of_getElem? (i := 13) rfl)) rfl), by decide +kernel⟩
theorem ln_Lw_41 : rx_N "RuleTextLaw" 41 9 18 := ⟨_, kx_Mo, rfl, (rx_in (tm_5 (List.mem_of_getElem? (i := 114) rfl)) rfl), (rx_in (tm_5 (List.mem_of_getElem? (i := 115) rfl)) rfl), (rx_in (tm_1 (List.mem_of_getElem? (i := 16) rfl)) rfl), by decide +kernel⟩
theorem lm_Lw_40 : rx_LI "RuleTextLaw" 40 y_RT_init M_RT_init 0 := ⟨⟨(rx_in (tm_1 (List.mem_of_getElem? (i := 34) rfl)) rfl), (rx_in (tm_1 (List.mem_of_getElem? (i := 1) rfl)) rfl), ⟨by decide +kernel, by decide +kernel⟩, by decide +kernel, by decide, Or.inl (rx_in (tm_1 (List.mem_of_getElem? (i := 32) rfl)) rfl)⟩, rfl, rfl, (rx_in (tm_1 (List.mem_of_getElem? (i := 33) rfl)) rfl)⟩
theorem lm_RT_9 : rx_LI "RuleText" 9 y_Na_init M_Na_init 0 := ⟨⟨(rx_in (tm_1 (List.mem_of_getElem? (i := 42) rfl)) rfl), (rx_in (tm_1 (List.mem_of_getElem? (i := 2) rfl)) rfl), ⟨by decide +kernel, by decide +kernel⟩, by decide +kernel, by decide, Or.inr ⟨"RuleText", List.mem_of_getElem? (i := 0) rfl⟩⟩, rfl, rfl, (rx_in (tm_1 (List.mem_of_getElem? (i := 41) rfl)) rfl)⟩
theorem lm_RT_18 : rx_LI "RuleText" 18 y_Sh_init M_Sh_init 0 := ⟨⟨(rx_in (tm_1 (List.mem_of_getElem? (i := 59) rfl)) rfl), (rx_in (tm_1 (List.mem_of_getElem? (i := 3) rfl)) rfl), ⟨by decide +kernel, by decide +kernel⟩, by decide +kernel, by decide, Or.inr ⟨"RuleText", List.mem_of_getElem? (i := 1) rfl⟩⟩, rfl, rfl, (rx_in (tm_1 (List.mem_of_getElem? (i := 58) rfl)) rfl)⟩
theorem lm_RT_25 : rx_LI "RuleText" 25 y_Wo_init M_Wo_init 0 := ⟨⟨(rx_in (tm_1 (List.mem_of_getElem? (i := 83) rfl)) rfl), (rx_in (tm_1 (List.mem_of_getElem? (i := 4) rfl)) rfl), ⟨by decide +kernel, by decide +kernel⟩, by decide +kernel, by decide, Or.inr ⟨"RuleText", List.mem_of_getElem? (i := 2) rfl⟩⟩, rfl, rfl, (rx_in (tm_1 (List.mem_of_getElem? (i := 82) rfl)) rfl)⟩
theorem lm_RT_32 : rx_LI "RuleText" 32 y_Rd_init M_Rd_init 2 := ⟨⟨(rx_in (tm_1 (List.mem_of_getElem? (i := 120) rfl)) rfl), (rx_in (tm_1 (List.mem_of_getElem? (i := 5) rfl)) rfl), ⟨by decide +kernel, by decide +kernel⟩, by decide +kernel, by decide, Or.inl (rx_in (tm_1 (List.mem_of_getElem? (i := 118) rfl)) rfl)⟩, rfl, rfl, (rx_in (tm_1 (List.mem_of_getElem? (i := 119) rfl)) rfl)⟩
theorem lm_Rd_11 : rx_LI "RuleText$Reader" 11 y_Am_init M_Am_init 0 := ⟨⟨(rx_in (tm_1 (List.mem_of_getElem? (i := 126) rfl)) rfl), (rx_in (tm_1 (List.mem_of_getElem? (i := 6) rfl)) rfl), ⟨by decide +kernel, by decide +kernel⟩, by decide +kernel, by decide, Or.inr ⟨"RuleText", List.mem_of_getElem? (i := 3) rfl⟩⟩, rfl, rfl, (rx_in (tm_1 (List.mem_of_getElem? (i := 125) rfl)) rfl)⟩
theorem lm_RT_41 : rx_LI "RuleText" 41 y_Wr_init M_Wr_init 1 := ⟨⟨(rx_in (tm_1 (List.mem_of_getElem? (i := 163) rfl)) rfl), (rx_in (tm_1 (List.mem_of_getElem? (i := 7) rfl)) rfl), ⟨by decide +kernel, by decide +kernel⟩, by decide +kernel, by decide, Or.inl (rx_in (tm_1 (List.mem_of_getElem? (i := 161) rfl)) rfl)⟩, rfl, rfl, (rx_in (tm_1 (List.mem_of_getElem? (i := 162) rfl)) rfl)⟩
theorem lm_Wr_11 : rx_LI "RuleText$Writer" 11 y_SB_init M_SB_init 0 := ⟨⟨(rx_in (tm_1 (List.mem_of_getElem? (i := 169) rfl)) rfl), (rx_in (tm_1 (List.mem_of_getElem? (i := 9) rfl)) rfl), ⟨by decide +kernel, by decide +kernel⟩, by decide +kernel, by decide, Or.inl (rx_in (tm_1 (List.mem_of_getElem? (i := 167) rfl)) rfl)⟩, rfl, rfl, (rx_in (tm_1 (List.mem_of_getElem? (i := 168) rfl)) rfl)⟩
theorem lm_RT_50 : rx_LI "RuleText" 50 y_RL_init M_RL_init 0 := ⟨⟨(rx_in (tm_1 (List.mem_of_getElem? (i := 210) rfl)) rfl), (rx_in (tm_1 (List.mem_of_getElem? (i := 12) rfl)) rfl), ⟨by decide +kernel, by decide +kernel⟩, by decide +kernel, by decide, Or.inl (rx_in (tm_1 (List.mem_of_getElem? (i := 208) rfl)) rfl)⟩, rfl, rfl, (rx_in (tm_1 (List.mem_of_getElem? (i := 209) rfl)) rfl)⟩
theorem lm_RL_17 : rx_LI "RuleText$RuleList" 17 y_Ru_init M_Ru_init 0 := ⟨⟨(rx_in (tm_1 (List.mem_of_getElem? (i := 217) rfl)) rfl), (rx_in (tm_1 (List.mem_of_getElem? (i := 13) rfl)) rfl), ⟨by decide +kernel, by decide +kernel⟩, by decide +kernel, by decide, Or.inr ⟨"RuleText", List.mem_of_getElem? (i := 4) rfl⟩⟩, rfl, rfl, (rx_in (tm_1 (List.mem_of_getElem? (i := 216) rfl)) rfl)⟩
theorem lm_Lw_44 : rx_LV "RuleTextLaw" 44 y_RT_unit M_RT_unit 1 := ⟨⟨(rx_in (tm_2 (List.mem_of_getElem? (i := 76) rfl)) rfl), (rx_in (tm_1 (List.mem_of_getElem? (i := 1) rfl)) rfl), ⟨by decide +kernel, by decide +kernel⟩, by decide +kernel, by decide, Or.inl (rx_in (tm_2 (List.mem_of_getElem? (i := 73) rfl)) rfl)⟩, (rx_in (tm_2 (List.mem_of_getElem? (i := 74) rfl)) rfl), (rx_in (tm_2 (List.mem_of_getElem? (i := 75) rfl)) rfl)⟩
theorem lm_RT_62 : rx_LV "RuleText" 62 y_Wo_append M_Wo_append 1 := ⟨⟨(rx_in (tm_2 (List.mem_of_getElem? (i := 80) rfl)) rfl), (rx_in (tm_1 (List.mem_of_getElem? (i := 4) rfl)) rfl), ⟨by decide +kernel, by decide +kernel⟩, by decide +kernel, by decide, Or.inl (rx_in (tm_2 (List.mem_of_getElem? (i := 77) rfl)) rfl)⟩, (rx_in (tm_2 (List.mem_of_getElem? (i := 78) rfl)) rfl), (rx_in (tm_2 (List.mem_of_getElem? (i := 79) rfl)) rfl)⟩
theorem lm_Wo_15 : rx_LS "RuleText$Words" 15 y_RT_isLetterOrDigit M_RT_isLetterOrDigit 1 := ⟨⟨(rx_in (tm_2 (List.mem_of_getElem? (i := 83) rfl)) rfl), (rx_in (tm_1 (List.mem_of_getElem? (i := 1) rfl)) rfl), ⟨by decide +kernel, by decide +kernel⟩, by decide +kernel, by decide, Or.inr ⟨"RuleText", List.mem_of_getElem? (i := 5) rfl⟩⟩, (rx_in (tm_2 (List.mem_of_getElem? (i := 82) rfl)) rfl)⟩
theorem lm_Lw_59 : rx_LV "RuleTextLaw" 59 y_RT_read M_RT_read 0 := ⟨⟨(rx_in (tm_2 (List.mem_of_getElem? (i := 87) rfl)) rfl), (rx_in (tm_1 (List.mem_of_getElem? (i := 1) rfl)) rfl), ⟨by decide +kernel, by decide +kernel⟩, by decide +kernel, by decide, Or.inl (rx_in (tm_2 (List.mem_of_getElem? (i := 84) rfl)) rfl)⟩, (rx_in (tm_2 (List.mem_of_getElem? (i := 85) rfl)) rfl), (rx_in (tm_2 (List.mem_of_getElem? (i := 86) rfl)) rfl)⟩
theorem lm_RT_80 : rx_LV "RuleText" 80 y_Rd_readRules M_Rd_readRules 1 := ⟨⟨(rx_in (tm_2 (List.mem_of_getElem? (i := 91) rfl)) rfl), (rx_in (tm_1 (List.mem_of_getElem? (i := 5) rfl)) rfl), ⟨by decide +kernel, by decide +kernel⟩, by decide +kernel, by decide, Or.inl (rx_in (tm_2 (List.mem_of_getElem? (i := 88) rfl)) rfl)⟩, (rx_in (tm_2 (List.mem_of_getElem? (i := 89) rfl)) rfl), (rx_in (tm_2 (List.mem_of_getElem? (i := 90) rfl)) rfl)⟩
theorem lm_Rd_33 : rx_LV "RuleText$Reader" 33 y_Wo_goToFirst M_Wo_goToFirst 0 := ⟨⟨(rx_in (tm_2 (List.mem_of_getElem? (i := 95) rfl)) rfl), (rx_in (tm_1 (List.mem_of_getElem? (i := 4) rfl)) rfl), ⟨by decide +kernel, by decide +kernel⟩, by decide +kernel, by decide, Or.inl (rx_in (tm_2 (List.mem_of_getElem? (i := 92) rfl)) rfl)⟩, (rx_in (tm_2 (List.mem_of_getElem? (i := 93) rfl)) rfl), (rx_in (tm_2 (List.mem_of_getElem? (i := 94) rfl)) rfl)⟩
theorem lm_Wo_32 : rx_LV "RuleText$Words" 32 y_Wo_goOn M_Wo_goOn 0 := ⟨⟨(rx_in (tm_2 (List.mem_of_getElem? (i := 99) rfl)) rfl), (rx_in (tm_1 (List.mem_of_getElem? (i := 4) rfl)) rfl), ⟨by decide +kernel, by decide +kernel⟩, by decide +kernel, by decide, Or.inl (rx_in (tm_2 (List.mem_of_getElem? (i := 96) rfl)) rfl)⟩, (rx_in (tm_2 (List.mem_of_getElem? (i := 97) rfl)) rfl), (rx_in (tm_2 (List.mem_of_getElem? (i := 98) rfl)) rfl)⟩
theorem lm_Rd_43 : rx_LV "RuleText$Reader" 43 y_Wo_atEnd M_Wo_atEnd 0 := ⟨⟨(rx_in (tm_2 (List.mem_of_getElem? (i := 103) rfl)) rfl), (rx_in (tm_1 (List.mem_of_getElem? (i := 4) rfl)) rfl), ⟨by decide +kernel, by decide +kernel⟩, by decide +kernel, by decide, Or.inl (rx_in (tm_2 (List.mem_of_getElem? (i := 100) rfl)) rfl)⟩, (rx_in (tm_2 (List.mem_of_getElem? (i := 101) rfl)) rfl), (rx_in (tm_2 (List.mem_of_getElem? (i := 102) rfl)) rfl)⟩
theorem lm_Rd_51 : rx_LV "RuleText$Reader" 51 y_Rd_readSentence M_Rd_readSentence 1 := ⟨⟨(rx_in (tm_2 (List.mem_of_getElem? (i := 107) rfl)) rfl), (rx_in (tm_1 (List.mem_of_getElem? (i := 5) rfl)) rfl), ⟨by decide +kernel, by decide +kernel⟩, by decide +kernel, by decide, Or.inl (rx_in (tm_2 (List.mem_of_getElem? (i := 104) rfl)) rfl)⟩, (rx_in (tm_2 (List.mem_of_getElem? (i := 106) rfl)) rfl), (rx_inp (by decide +kernel) rfl)⟩
theorem lm_Rd_58 : rx_LV "RuleText$Reader" 58 y_Rd_findKind M_Rd_findKind 0 := ⟨⟨(rx_in (tm_2 (List.mem_of_getElem? (i := 111) rfl)) rfl), (rx_in (tm_1 (List.mem_of_getElem? (i := 5) rfl)) rfl), ⟨by decide +kernel, by decide +kernel⟩, by decide +kernel, by decide, Or.inl (rx_in (tm_2 (List.mem_of_getElem? (i := 108) rfl)) rfl)⟩, (rx_in (tm_2 (List.mem_of_getElem? (i := 110) rfl)) rfl), (rx_inp (by decide +kernel) rfl)⟩
theorem lm_Rd_108 : rx_LV "RuleText$Reader" 108 y_Wo_is M_Wo_is 1 := ⟨⟨(rx_in (tm_2 (List.mem_of_getElem? (i := 117) rfl)) rfl), (rx_in (tm_1 (List.mem_of_getElem? (i := 4) rfl)) rfl), ⟨by decide +kernel, by decide +kernel⟩, by decide +kernel, by decide, Or.inl (rx_in (tm_2 (List.mem_of_getElem? (i := 114) rfl)) rfl)⟩, (rx_in (tm_2 (List.mem_of_getElem? (i := 115) rfl)) rfl), (rx_in (tm_2 (List.mem_of_getElem? (i := 116) rfl)) rfl)⟩
theorem lm_Wo_38 : rx_LV "RuleText$Words" 38 y_St_length M_St_length 0 := ⟨⟨(rx_in (tm_2 (List.mem_of_getElem? (i := 121) rfl)) rfl), (rx_in (tm_1 (List.mem_of_getElem? (i := 10) rfl)) rfl), ⟨by decide +kernel, by decide +kernel⟩, by decide +kernel, by decide, Or.inl (rx_in (tm_2 (List.mem_of_getElem? (i := 118) rfl)) rfl)⟩, (rx_in (tm_2 (List.mem_of_getElem? (i := 119) rfl)) rfl), (rx_in (tm_2 (List.mem_of_getElem? (i := 120) rfl)) rfl)⟩
theorem lm_Wo_43 : rx_LV "RuleText$Words" 43 y_St_charAt M_St_charAt 1 := ⟨⟨(rx_in (tm_2 (List.mem_of_getElem? (i := 130) rfl)) rfl), (rx_in (tm_1 (List.mem_of_getElem? (i := 10) rfl)) rfl), ⟨by decide +kernel, by decide +kernel⟩, by decide +kernel, by decide, Or.inl (rx_in (tm_2 (List.mem_of_getElem? (i := 127) rfl)) rfl)⟩, (rx_in (tm_2 (List.mem_of_getElem? (i := 128) rfl)) rfl), (rx_in (tm_2 (List.mem_of_getElem? (i := 129) rfl)) rfl)⟩
theorem lm_Rd_65 : rx_LV "RuleText$Reader" 65 y_Ru_begin M_Ru_begin 2 := ⟨⟨(rx_in (tm_2 (List.mem_of_getElem? (i := 168) rfl)) rfl), (rx_in (tm_1 (List.mem_of_getElem? (i := 13) rfl)) rfl), ⟨by decide +kernel, by decide +kernel⟩, by decide +kernel, by decide, Or.inl (rx_in (tm_2 (List.mem_of_getElem? (i := 165) rfl)) rfl)⟩, (rx_in (tm_2 (List.mem_of_getElem? (i := 166) rfl)) rfl), (rx_in (tm_2 (List.mem_of_getElem? (i := 167) rfl)) rfl)⟩
theorem lm_Rd_71 : rx_LV "RuleText$Reader" 71 y_Wo_goOn M_Wo_goOn 0 := ⟨⟨(rx_in (tm_2 (List.mem_of_getElem? (i := 99) rfl)) rfl), (rx_in (tm_1 (List.mem_of_getElem? (i := 4) rfl)) rfl), ⟨by decide +kernel, by decide +kernel⟩, by decide +kernel, by decide, Or.inl (rx_in (tm_2 (List.mem_of_getElem? (i := 170) rfl)) rfl)⟩, (rx_in (tm_2 (List.mem_of_getElem? (i := 97) rfl)) rfl), (rx_in (tm_2 (List.mem_of_getElem? (i := 98) rfl)) rfl)⟩
theorem lm_Rd_74 : rx_LV "RuleText$Reader" 74 y_Rd_readScope M_Rd_readScope 1 := ⟨⟨(rx_in (tm_2 (List.mem_of_getElem? (i := 174) rfl)) rfl), (rx_in (tm_1 (List.mem_of_getElem? (i := 5) rfl)) rfl), ⟨by decide +kernel, by decide +kernel⟩, by decide +kernel, by decide, Or.inl (rx_in (tm_2 (List.mem_of_getElem? (i := 171) rfl)) rfl)⟩, (rx_in (tm_2 (List.mem_of_getElem? (i := 173) rfl)) rfl), (rx_inp (by decide +kernel) rfl)⟩
theorem lm_Rd_77 : rx_LV "RuleText$Reader" 77 y_Ru_isWaiver M_Ru_isWaiver 0 := ⟨⟨(rx_in (tm_2 (List.mem_of_getElem? (i := 178) rfl)) rfl), (rx_in (tm_1 (List.mem_of_getElem? (i := 13) rfl)) rfl), ⟨by decide +kernel, by decide +kernel⟩, by decide +kernel, by decide, Or.inl (rx_in (tm_2 (List.mem_of_getElem? (i := 175) rfl)) rfl)⟩, (rx_in (tm_2 (List.mem_of_getElem? (i := 176) rfl)) rfl), (rx_in (tm_2 (List.mem_of_getElem? (i := 177) rfl)) rfl)⟩
theorem lm_Rd_111 : rx_LV "RuleText$Reader" 111 y_Ru_isOfTwoThings M_Ru_isOfTwoThings 0 := ⟨⟨(rx_in (tm_2 (List.mem_of_getElem? (i := 184) rfl)) rfl), (rx_in (tm_1 (List.mem_of_getElem? (i := 13) rfl)) rfl), ⟨by decide +kernel, by decide +kernel⟩, by decide +kernel, by decide, Or.inl (rx_in (tm_2 (List.mem_of_getElem? (i := 181) rfl)) rfl)⟩, (rx_in (tm_2 (List.mem_of_getElem? (i := 182) rfl)) rfl), (rx_in (tm_2 (List.mem_of_getElem? (i := 183) rfl)) rfl)⟩
theorem lm_Rd_94 : rx_LV "RuleText$Reader" 94 y_Rd_accept M_Rd_accept 1 := ⟨⟨(rx_in (tm_2 (List.mem_of_getElem? (i := 190) rfl)) rfl), (rx_in (tm_1 (List.mem_of_getElem? (i := 5) rfl)) rfl), ⟨by decide +kernel, by decide +kernel⟩, by decide +kernel, by decide, Or.inl (rx_in (tm_2 (List.mem_of_getElem? (i := 187) rfl)) rfl)⟩, (rx_in (tm_2 (List.mem_of_getElem? (i := 189) rfl)) rfl), (rx_inp (by decide +kernel) rfl)⟩
theorem lm_Rd_118 : rx_LV "RuleText$Reader" 118 y_Rd_readThing M_Rd_readThing 0 := ⟨⟨(rx_in (tm_2 (List.mem_of_getElem? (i := 194) rfl)) rfl), (rx_in (tm_1 (List.mem_of_getElem? (i := 5) rfl)) rfl), ⟨by decide +kernel, by decide +kernel⟩, by decide +kernel, by decide, Or.inl (rx_in (tm_2 (List.mem_of_getElem? (i := 191) rfl)) rfl)⟩, (rx_in (tm_2 (List.mem_of_getElem? (i := 193) rfl)) rfl), (rx_inp (by decide +kernel) rfl)⟩
theorem lm_Rd_136 : rx_LV "RuleText$Reader" 136 y_Na_find M_Na_find 2 := ⟨⟨(rx_in (tm_2 (List.mem_of_getElem? (i := 201) rfl)) rfl), (rx_in (tm_1 (List.mem_of_getElem? (i := 2) rfl)) rfl), ⟨by decide +kernel, by decide +kernel⟩, by decide +kernel, by decide, Or.inl (rx_in (tm_2 (List.mem_of_getElem? (i := 198) rfl)) rfl)⟩, (rx_in (tm_2 (List.mem_of_getElem? (i := 199) rfl)) rfl), (rx_in (tm_2 (List.mem_of_getElem? (i := 200) rfl)) rfl)⟩
theorem lm_Na_23 : rx_LV "RuleText$Names" 23 y_Wo_atEnd M_Wo_atEnd 0 := ⟨⟨(rx_in (tm_2 (List.mem_of_getElem? (i := 103) rfl)) rfl), (rx_in (tm_1 (List.mem_of_getElem? (i := 4) rfl)) rfl), ⟨by decide +kernel, by decide +kernel⟩, by decide +kernel, by decide, Or.inl (rx_in (tm_2 (List.mem_of_getElem? (i := 202) rfl)) rfl)⟩, (rx_in (tm_2 (List.mem_of_getElem? (i := 101) rfl)) rfl), (rx_in (tm_2 (List.mem_of_getElem? (i := 102) rfl)) rfl)⟩
theorem lm_Na_29 : rx_LS "RuleText$Names" 29 y_RT_slotOf M_RT_slotOf 2 := ⟨⟨(rx_in (tm_2 (List.mem_of_getElem? (i := 205) rfl)) rfl), (rx_in (tm_1 (List.mem_of_getElem? (i := 1) rfl)) rfl), ⟨by decide +kernel, by decide +kernel⟩, by decide +kernel, by decide, Or.inr ⟨"RuleText", List.mem_of_getElem? (i := 7) rfl⟩⟩, (rx_in (tm_2 (List.mem_of_getElem? (i := 204) rfl)) rfl)⟩
theorem lm_Na_33 : rx_LV "RuleText$Names" 33 y_Na_isNamed M_Na_isNamed 2 := ⟨⟨(rx_in (tm_2 (List.mem_of_getElem? (i := 209) rfl)) rfl), (rx_in (tm_1 (List.mem_of_getElem? (i := 2) rfl)) rfl), ⟨by decide +kernel, by decide +kernel⟩, by decide +kernel, by decide, Or.inl (rx_in (tm_2 (List.mem_of_getElem? (i := 206) rfl)) rfl)⟩, (rx_in (tm_2 (List.mem_of_getElem? (i := 208) rfl)) rfl), (rx_inp (by decide +kernel) rfl)⟩
theorem lm_Rd_142 : rx_LS "RuleText$Reader" 142 y_RT_slotOf M_RT_slotOf 2 := ⟨⟨(rx_in (tm_2 (List.mem_of_getElem? (i := 205) rfl)) rfl), (rx_in (tm_1 (List.mem_of_getElem? (i := 1) rfl)) rfl), ⟨by decide +kernel, by decide +kernel⟩, by decide +kernel, by decide, Or.inr ⟨"RuleText", List.mem_of_getElem? (i := 8) rfl⟩⟩, (rx_in (tm_2 (List.mem_of_getElem? (i := 204) rfl)) rfl)⟩
theorem lm_Rd_80 : rx_LV "RuleText$Reader" 80 y_Rd_readLayer M_Rd_readLayer 1 := ⟨⟨(rx_in (tm_2 (List.mem_of_getElem? (i := 215) rfl)) rfl), (rx_in (tm_1 (List.mem_of_getElem? (i := 5) rfl)) rfl), ⟨by decide +kernel, by decide +kernel⟩, by decide +kernel, by decide, Or.inl (rx_in (tm_2 (List.mem_of_getElem? (i := 212) rfl)) rfl)⟩, (rx_in (tm_2 (List.mem_of_getElem? (i := 214) rfl)) rfl), (rx_inp (by decide +kernel) rfl)⟩
theorem lm_Rd_150 : rx_LV "RuleText$Reader" 150 y_Rd_shortNumber M_Rd_shortNumber 0 := ⟨⟨(rx_in (tm_2 (List.mem_of_getElem? (i := 221) rfl)) rfl), (rx_in (tm_1 (List.mem_of_getElem? (i := 5) rfl)) rfl), ⟨by decide +kernel, by decide +kernel⟩, by decide +kernel, by decide, Or.inl (rx_in (tm_2 (List.mem_of_getElem? (i := 218) rfl)) rfl)⟩, (rx_in (tm_2 (List.mem_of_getElem? (i := 220) rfl)) rfl), (rx_inp (by decide +kernel) rfl)⟩
theorem lm_Rd_176 : rx_LV "RuleText$Reader" 176 y_Wo_endOfDigits M_Wo_endOfDigits 1 := ⟨⟨(rx_in (tm_2 (List.mem_of_getElem? (i := 225) rfl)) rfl), (rx_in (tm_1 (List.mem_of_getElem? (i := 4) rfl)) rfl), ⟨by decide +kernel, by decide +kernel⟩, by decide +kernel, by decide, Or.inl (rx_in (tm_2 (List.mem_of_getElem? (i := 222) rfl)) rfl)⟩, (rx_in (tm_2 (List.mem_of_getElem? (i := 223) rfl)) rfl), (rx_in (tm_2 (List.mem_of_getElem? (i := 224) rfl)) rfl)⟩
theorem lm_Rd_180 : rx_LV "RuleText$Reader" 180 y_Wo_digitsAsNumber M_Wo_digitsAsNumber 2 := ⟨⟨(rx_in (tm_2 (List.mem_of_getElem? (i := 229) rfl)) rfl), (rx_in (tm_1 (List.mem_of_getElem? (i := 4) rfl)) rfl), ⟨by decide +kernel, by decide +kernel⟩, by decide +kernel, by decide, Or.inl (rx_in (tm_2 (List.mem_of_getElem? (i := 226) rfl)) rfl)⟩, (rx_in (tm_2 (List.mem_of_getElem? (i := 227) rfl)) rfl), (rx_in (tm_2 (List.mem_of_getElem? (i := 228) rfl)) rfl)⟩
theorem lm_Rd_83 : rx_LV "RuleText$Reader" 83 y_Rd_readArea M_Rd_readArea 1 := ⟨⟨(rx_in (tm_2 (List.mem_of_getElem? (i := 236) rfl)) rfl), (rx_in (tm_1 (List.mem_of_getElem? (i := 5) rfl)) rfl), ⟨by decide +kernel, by decide +kernel⟩, by decide +kernel, by decide, Or.inl (rx_in (tm_2 (List.mem_of_getElem? (i := 233) rfl)) rfl)⟩, (rx_in (tm_2 (List.mem_of_getElem? (i := 235) rfl)) rfl), (rx_inp (by decide +kernel) rfl)⟩
theorem lm_Rd_86 : rx_LV "RuleText$Reader" 86 y_Rd_readRank M_Rd_readRank 1 := ⟨⟨(rx_in (tm_3 (List.mem_of_getElem? (i := 1) rfl)) rfl), (rx_in (tm_1 (List.mem_of_getElem? (i := 5) rfl)) rfl), ⟨by decide +kernel, by decide +kernel⟩, by decide +kernel, by decide, Or.inl (rx_in (tm_2 (List.mem_of_getElem? (i := 238) rfl)) rfl)⟩, (rx_in (tm_3 (List.mem_of_getElem? (i := 0) rfl)) rfl), (rx_inp (by decide +kernel) rfl)⟩
theorem lm_Rd_89 : rx_LV "RuleText$Reader" 89 y_Rd_readSpan M_Rd_readSpan 1 := ⟨⟨(rx_in (tm_3 (List.mem_of_getElem? (i := 6) rfl)) rfl), (rx_in (tm_1 (List.mem_of_getElem? (i := 5) rfl)) rfl), ⟨by decide +kernel, by decide +kernel⟩, by decide +kernel, by decide, Or.inl (rx_in (tm_3 (List.mem_of_getElem? (i := 3) rfl)) rfl)⟩, (rx_in (tm_3 (List.mem_of_getElem? (i := 5) rfl)) rfl), (rx_inp (by decide +kernel) rfl)⟩
theorem lm_Rd_195 : rx_LV "RuleText$Reader" 195 y_Rd_readAmount M_Rd_readAmount 2 := ⟨⟨(rx_in (tm_3 (List.mem_of_getElem? (i := 12) rfl)) rfl), (rx_in (tm_1 (List.mem_of_getElem? (i := 5) rfl)) rfl), ⟨by decide +kernel, by decide +kernel⟩, by decide +kernel, by decide, Or.inl (rx_in (tm_3 (List.mem_of_getElem? (i := 9) rfl)) rfl)⟩, (rx_in (tm_3 (List.mem_of_getElem? (i := 11) rfl)) rfl), (rx_inp (by decide +kernel) rfl)⟩
theorem lm_Rd_219 : rx_LV "RuleText$Reader" 219 y_Am_take M_Am_take 1 := ⟨⟨(rx_in (tm_3 (List.mem_of_getElem? (i := 16) rfl)) rfl), (rx_in (tm_1 (List.mem_of_getElem? (i := 6) rfl)) rfl), ⟨by decide +kernel, by decide +kernel⟩, by decide +kernel, by decide, Or.inl (rx_in (tm_3 (List.mem_of_getElem? (i := 13) rfl)) rfl)⟩, (rx_in (tm_3 (List.mem_of_getElem? (i := 14) rfl)) rfl), (rx_in (tm_3 (List.mem_of_getElem? (i := 15) rfl)) rfl)⟩
theorem lm_Am_23 : rx_LV "RuleText$Amount" 23 y_Wo_endOfDigits M_Wo_endOfDigits 1 := ⟨⟨(rx_in (tm_2 (List.mem_of_getElem? (i := 225) rfl)) rfl), (rx_in (tm_1 (List.mem_of_getElem? (i := 4) rfl)) rfl), ⟨by decide +kernel, by decide +kernel⟩, by decide +kernel, by decide, Or.inl (rx_in (tm_3 (List.mem_of_getElem? (i := 17) rfl)) rfl)⟩, (rx_in (tm_2 (List.mem_of_getElem? (i := 223) rfl)) rfl), (rx_in (tm_2 (List.mem_of_getElem? (i := 224) rfl)) rfl)⟩
theorem lm_Am_27 : rx_LV "RuleText$Amount" 27 y_Wo_digitsAsNumber M_Wo_digitsAsNumber 2 := ⟨⟨(rx_in (tm_2 (List.mem_of_getElem? (i := 229) rfl)) rfl), (rx_in (tm_1 (List.mem_of_getElem? (i := 4) rfl)) rfl), ⟨by decide +kernel, by decide +kernel⟩, by decide +kernel, by decide, Or.inl (rx_in (tm_3 (List.mem_of_getElem? (i := 18) rfl)) rfl)⟩, (rx_in (tm_2 (List.mem_of_getElem? (i := 227) rfl)) rfl), (rx_in (tm_2 (List.mem_of_getElem? (i := 228) rfl)) rfl)⟩
theorem lm_Rd_225 : rx_LV "RuleText$Reader" 225 y_Am_convert M_Am_convert 2 := ⟨⟨(rx_in (tm_3 (List.mem_of_getElem? (i := 24) rfl)) rfl), (rx_in (tm_1 (List.mem_of_getElem? (i := 6) rfl)) rfl), ⟨by decide +kernel, by decide +kernel⟩, by decide +kernel, by decide, Or.inl (rx_in (tm_3 (List.mem_of_getElem? (i := 21) rfl)) rfl)⟩, (rx_in (tm_3 (List.mem_of_getElem? (i := 22) rfl)) rfl), (rx_in (tm_3 (List.mem_of_getElem? (i := 23) rfl)) rfl)⟩
theorem lm_Rd_209 : rx_LV "RuleText$Reader" 209 y_Rd_blame M_Rd_blame 1 := ⟨⟨(rx_in (tm_3 (List.mem_of_getElem? (i := 29) rfl)) rfl), (rx_in (tm_1 (List.mem_of_getElem? (i := 5) rfl)) rfl), ⟨by decide +kernel, by decide +kernel⟩, by decide +kernel, by decide, Or.inl (rx_in (tm_3 (List.mem_of_getElem? (i := 26) rfl)) rfl)⟩, (rx_in (tm_3 (List.mem_of_getElem? (i := 28) rfl)) rfl), (rx_inp (by decide +kernel) rfl)⟩
theorem lm_Rd_201 : rx_LV "RuleText$Reader" 201 y_Rd_readUnit M_Rd_readUnit 1 := ⟨⟨(rx_in (tm_3 (List.mem_of_getElem? (i := 34) rfl)) rfl), (rx_in (tm_1 (List.mem_of_getElem? (i := 5) rfl)) rfl), ⟨by decide +kernel, by decide +kernel⟩, by decide +kernel, by decide, Or.inl (rx_in (tm_3 (List.mem_of_getElem? (i := 31) rfl)) rfl)⟩, (rx_in (tm_3 (List.mem_of_getElem? (i := 33) rfl)) rfl), (rx_inp (by decide +kernel) rfl)⟩
theorem lm_Rd_229 : rx_LV "RuleText$Reader" 229 y_Rd_findUnit M_Rd_findUnit 0 := ⟨⟨(rx_in (tm_3 (List.mem_of_getElem? (i := 38) rfl)) rfl), (rx_in (tm_1 (List.mem_of_getElem? (i := 5) rfl)) rfl), ⟨by decide +kernel, by decide +kernel⟩, by decide +kernel, by decide, Or.inl (rx_in (tm_3 (List.mem_of_getElem? (i := 35) rfl)) rfl)⟩, (rx_in (tm_3 (List.mem_of_getElem? (i := 37) rfl)) rfl), (rx_inp (by decide +kernel) rfl)⟩
theorem lm_Lw_80 : rx_LV "RuleTextLaw" 80 y_RT_never M_RT_never 1 := ⟨⟨(rx_in (tm_3 (List.mem_of_getElem? (i := 47) rfl)) rfl), (rx_in (tm_1 (List.mem_of_getElem? (i := 1) rfl)) rfl), ⟨by decide +kernel, by decide +kernel⟩, by decide +kernel, by decide, Or.inl (rx_in (tm_3 (List.mem_of_getElem? (i := 44) rfl)) rfl)⟩, (rx_in (tm_3 (List.mem_of_getElem? (i := 45) rfl)) rfl), (rx_in (tm_3 (List.mem_of_getElem? (i := 46) rfl)) rfl)⟩
theorem lm_RT_150 : rx_LV "RuleText" 150 y_RL_isBeaten M_RL_isBeaten 2 := ⟨⟨(rx_in (tm_3 (List.mem_of_getElem? (i := 51) rfl)) rfl), (rx_in (tm_1 (List.mem_of_getElem? (i := 12) rfl)) rfl), ⟨by decide +kernel, by decide +kernel⟩, by decide +kernel, by decide, Or.inl (rx_in (tm_3 (List.mem_of_getElem? (i := 48) rfl)) rfl)⟩, (rx_in (tm_3 (List.mem_of_getElem? (i := 49) rfl)) rfl), (rx_in (tm_3 (List.mem_of_getElem? (i := 50) rfl)) rfl)⟩
theorem lm_RL_22 : rx_LV "RuleText$RuleList" 22 y_RL_isAhead M_RL_isAhead 2 := ⟨⟨(rx_in (tm_3 (List.mem_of_getElem? (i := 55) rfl)) rfl), (rx_in (tm_1 (List.mem_of_getElem? (i := 12) rfl)) rfl), ⟨by decide +kernel, by decide +kernel⟩, by decide +kernel, by decide, Or.inl (rx_in (tm_3 (List.mem_of_getElem? (i := 52) rfl)) rfl)⟩, (rx_in (tm_3 (List.mem_of_getElem? (i := 54) rfl)) rfl), (rx_inp (by decide +kernel) rfl)⟩
theorem lm_RL_26 : rx_LV "RuleText$RuleList" 26 y_Ru_isWaiver M_Ru_isWaiver 0 := ⟨⟨(rx_in (tm_2 (List.mem_of_getElem? (i := 178) rfl)) rfl), (rx_in (tm_1 (List.mem_of_getElem? (i := 13) rfl)) rfl), ⟨by decide +kernel, by decide +kernel⟩, by decide +kernel, by decide, Or.inl (rx_in (tm_3 (List.mem_of_getElem? (i := 56) rfl)) rfl)⟩, (rx_in (tm_2 (List.mem_of_getElem? (i := 176) rfl)) rfl), (rx_in (tm_2 (List.mem_of_getElem? (i := 177) rfl)) rfl)⟩
theorem lm_RL_33 : rx_LV "RuleText$RuleList" 33 y_Ru_covers M_Ru_covers 2 := ⟨⟨(rx_in (tm_3 (List.mem_of_getElem? (i := 60) rfl)) rfl), (rx_in (tm_1 (List.mem_of_getElem? (i := 13) rfl)) rfl), ⟨by decide +kernel, by decide +kernel⟩, by decide +kernel, by decide, Or.inl (rx_in (tm_3 (List.mem_of_getElem? (i := 57) rfl)) rfl)⟩, (rx_in (tm_3 (List.mem_of_getElem? (i := 58) rfl)) rfl), (rx_in (tm_3 (List.mem_of_getElem? (i := 59) rfl)) rfl)⟩
theorem lm_Ru_51 : rx_LV "RuleText$Rule" 51 y_Ru_coversKind M_Ru_coversKind 1 := ⟨⟨(rx_in (tm_3 (List.mem_of_getElem? (i := 64) rfl)) rfl), (rx_in (tm_1 (List.mem_of_getElem? (i := 13) rfl)) rfl), ⟨by decide +kernel, by decide +kernel⟩, by decide +kernel, by decide, Or.inl (rx_in (tm_3 (List.mem_of_getElem? (i := 61) rfl)) rfl)⟩, (rx_in (tm_3 (List.mem_of_getElem? (i := 63) rfl)) rfl), (rx_inp (by decide +kernel) rfl)⟩
theorem lm_Ru_65 : rx_LV "RuleText$Rule" 65 y_Ru_isWaiver M_Ru_isWaiver 0 := ⟨⟨(rx_in (tm_2 (List.mem_of_getElem? (i := 178) rfl)) rfl), (rx_in (tm_1 (List.mem_of_getElem? (i := 13) rfl)) rfl), ⟨by decide +kernel, by decide +kernel⟩, by decide +kernel, by decide, Or.inl (rx_in (tm_3 (List.mem_of_getElem? (i := 65) rfl)) rfl)⟩, (rx_in (tm_2 (List.mem_of_getElem? (i := 176) rfl)) rfl), (rx_in (tm_2 (List.mem_of_getElem? (i := 177) rfl)) rfl)⟩
theorem lm_Ru_55 : rx_LV "RuleText$Rule" 55 y_Ru_coversThings M_Ru_coversThings 1 := ⟨⟨(rx_in (tm_3 (List.mem_of_getElem? (i := 69) rfl)) rfl), (rx_in (tm_1 (List.mem_of_getElem? (i := 13) rfl)) rfl), ⟨by decide +kernel, by decide +kernel⟩, by decide +kernel, by decide, Or.inl (rx_in (tm_3 (List.mem_of_getElem? (i := 66) rfl)) rfl)⟩, (rx_in (tm_3 (List.mem_of_getElem? (i := 68) rfl)) rfl), (rx_inp (by decide +kernel) rfl)⟩
theorem lm_Ru_69 : rx_LS "RuleText$Rule" 69 y_Ru_coversThing M_Ru_coversThing 2 := ⟨⟨(rx_in (tm_3 (List.mem_of_getElem? (i := 72) rfl)) rfl), (rx_in (tm_1 (List.mem_of_getElem? (i := 13) rfl)) rfl), ⟨by decide +kernel, by decide +kernel⟩, by decide +kernel, by decide, Or.inl (rx_in (tm_3 (List.mem_of_getElem? (i := 70) rfl)) rfl)⟩, (rx_in (tm_3 (List.mem_of_getElem? (i := 71) rfl)) rfl)⟩
theorem lm_Ru_58 : rx_LV "RuleText$Rule" 58 y_Ru_coversLayer M_Ru_coversLayer 1 := ⟨⟨(rx_in (tm_3 (List.mem_of_getElem? (i := 76) rfl)) rfl), (rx_in (tm_1 (List.mem_of_getElem? (i := 13) rfl)) rfl), ⟨by decide +kernel, by decide +kernel⟩, by decide +kernel, by decide, Or.inl (rx_in (tm_3 (List.mem_of_getElem? (i := 73) rfl)) rfl)⟩, (rx_in (tm_3 (List.mem_of_getElem? (i := 75) rfl)) rfl), (rx_inp (by decide +kernel) rfl)⟩
theorem lm_Ru_61 : rx_LV "RuleText$Rule" 61 y_Ru_coversArea M_Ru_coversArea 2 := ⟨⟨(rx_in (tm_3 (List.mem_of_getElem? (i := 80) rfl)) rfl), (rx_in (tm_1 (List.mem_of_getElem? (i := 13) rfl)) rfl), ⟨by decide +kernel, by decide +kernel⟩, by decide +kernel, by decide, Or.inl (rx_in (tm_3 (List.mem_of_getElem? (i := 77) rfl)) rfl)⟩, (rx_in (tm_3 (List.mem_of_getElem? (i := 79) rfl)) rfl), (rx_inp (by decide +kernel) rfl)⟩
theorem lm_Ru_73 : rx_LV "RuleText$Rule" 73 y_Sh_holds M_Sh_holds 2 := ⟨⟨(rx_in (tm_3 (List.mem_of_getElem? (i := 84) rfl)) rfl), (rx_in (tm_1 (List.mem_of_getElem? (i := 3) rfl)) rfl), ⟨by decide +kernel, by decide +kernel⟩, by decide +kernel, by decide, Or.inl (rx_in (tm_3 (List.mem_of_getElem? (i := 81) rfl)) rfl)⟩, (rx_in (tm_3 (List.mem_of_getElem? (i := 82) rfl)) rfl), (rx_in (tm_3 (List.mem_of_getElem? (i := 83) rfl)) rfl)⟩
theorem lm_Lw_90 : rx_LV "RuleTextLaw" 90 y_RT_kinds M_RT_kinds 0 := ⟨⟨(rx_in (tm_3 (List.mem_of_getElem? (i := 88) rfl)) rfl), (rx_in (tm_1 (List.mem_of_getElem? (i := 1) rfl)) rfl), ⟨by decide +kernel, by decide +kernel⟩, by decide +kernel, by decide, Or.inl (rx_in (tm_3 (List.mem_of_getElem? (i := 85) rfl)) rfl)⟩, (rx_in (tm_3 (List.mem_of_getElem? (i := 86) rfl)) rfl), (rx_in (tm_3 (List.mem_of_getElem? (i := 87) rfl)) rfl)⟩
theorem lm_RT_163 : rx_LS "RuleText" 163 y_In_bitCount M_In_bitCount 1 := ⟨⟨(rx_in (tm_3 (List.mem_of_getElem? (i := 91) rfl)) rfl), (rx_in (tm_1 (List.mem_of_getElem? (i := 23) rfl)) rfl), ⟨by decide +kernel, by decide +kernel⟩, by decide +kernel, by decide, Or.inl (rx_in (tm_3 (List.mem_of_getElem? (i := 89) rfl)) rfl)⟩, (rx_in (tm_3 (List.mem_of_getElem? (i := 90) rfl)) rfl)⟩
theorem lm_Lw_97 : rx_LV "RuleTextLaw" 97 y_RT_clear M_RT_clear 0 := ⟨⟨(rx_in (tm_3 (List.mem_of_getElem? (i := 98) rfl)) rfl), (rx_in (tm_1 (List.mem_of_getElem? (i := 1) rfl)) rfl), ⟨by decide +kernel, by decide +kernel⟩, by decide +kernel, by decide, Or.inl (rx_in (tm_3 (List.mem_of_getElem? (i := 95) rfl)) rfl)⟩, (rx_in (tm_3 (List.mem_of_getElem? (i := 96) rfl)) rfl), (rx_in (tm_3 (List.mem_of_getElem? (i := 97) rfl)) rfl)⟩
theorem lm_Lw_7 : rx_LV "RuleTextLaw" 7 y_RT_name M_RT_name 3 := ⟨⟨(rx_in (tm_3 (List.mem_of_getElem? (i := 106) rfl)) rfl), (rx_in (tm_1 (List.mem_of_getElem? (i := 1) rfl)) rfl), ⟨by decide +kernel, by decide +kernel⟩, by decide +kernel, by decide, Or.inl (rx_in (tm_3 (List.mem_of_getElem? (i := 103) rfl)) rfl)⟩, (rx_in (tm_3 (List.mem_of_getElem? (i := 104) rfl)) rfl), (rx_in (tm_3 (List.mem_of_getElem? (i := 105) rfl)) rfl)⟩
theorem lm_RT_70 : rx_LI "RuleText" 70 y_IO_init M_IO_init 1 := ⟨⟨(rx_in (tm_3 (List.mem_of_getElem? (i := 151) rfl)) rfl), (rx_in (tm_1 (List.mem_of_getElem? (i := 20) rfl)) rfl), ⟨by decide +kernel, by decide +kernel⟩, by decide +kernel, by decide, Or.inl (rx_in (tm_3 (List.mem_of_getElem? (i := 149) rfl)) rfl)⟩, rfl, rfl, (rx_in (tm_3 (List.mem_of_getElem? (i := 150) rfl)) rfl)⟩
theorem lm_RT_73 : rx_LS "RuleText" 73 y_RT_slotOf M_RT_slotOf 2 := ⟨⟨(rx_in (tm_2 (List.mem_of_getElem? (i := 205) rfl)) rfl), (rx_in (tm_1 (List.mem_of_getElem? (i := 1) rfl)) rfl), ⟨by decide +kernel, by decide +kernel⟩, by decide +kernel, by decide, Or.inl (rx_in (tm_3 (List.mem_of_getElem? (i := 174) rfl)) rfl)⟩, (rx_in (tm_2 (List.mem_of_getElem? (i := 204) rfl)) rfl)⟩
theorem lm_RT_77 : rx_LV "RuleText" 77 y_Na_append M_Na_append 2 := ⟨⟨(rx_in (tm_3 (List.mem_of_getElem? (i := 178) rfl)) rfl), (rx_in (tm_1 (List.mem_of_getElem? (i := 2) rfl)) rfl), ⟨by decide +kernel, by decide +kernel⟩, by decide +kernel, by decide, Or.inl (rx_in (tm_3 (List.mem_of_getElem? (i := 175) rfl)) rfl)⟩, (rx_in (tm_3 (List.mem_of_getElem? (i := 176) rfl)) rfl), (rx_in (tm_3 (List.mem_of_getElem? (i := 177) rfl)) rfl)⟩
theorem lm_Na_19 : rx_LS "RuleText$Names" 19 y_RT_isLetterOrDigit M_RT_isLetterOrDigit 1 := ⟨⟨(rx_in (tm_2 (List.mem_of_getElem? (i := 83) rfl)) rfl), (rx_in (tm_1 (List.mem_of_getElem? (i := 1) rfl)) rfl), ⟨by decide +kernel, by decide +kernel⟩, by decide +kernel, by decide, Or.inr ⟨"RuleText", List.mem_of_getElem? (i := 10) rfl⟩⟩, (rx_in (tm_2 (List.mem_of_getElem? (i := 82) rfl)) rfl)⟩
theorem lm_Lw_15 : rx_LV "RuleTextLaw" 15 y_RT_rule M_RT_rule 2 := ⟨⟨(rx_in (tm_3 (List.mem_of_getElem? (i := 186) rfl)) rfl), (rx_in (tm_1 (List.mem_of_getElem? (i := 1) rfl)) rfl), ⟨by decide +kernel, by decide +kernel⟩, by decide +kernel, by decide, Or.inl (rx_in (tm_3 (List.mem_of_getElem? (i := 183) rfl)) rfl)⟩, (rx_in (tm_3 (List.mem_of_getElem? (i := 184) rfl)) rfl), (rx_in (tm_3 (List.mem_of_getElem? (i := 185) rfl)) rfl)⟩
theorem lm_RT_84 : rx_LV "RuleText" 84 y_RL_has M_RL_has 1 := ⟨⟨(rx_in (tm_3 (List.mem_of_getElem? (i := 190) rfl)) rfl), (rx_in (tm_1 (List.mem_of_getElem? (i := 12) rfl)) rfl), ⟨by decide +kernel, by decide +kernel⟩, by decide +kernel, by decide, Or.inl (rx_in (tm_3 (List.mem_of_getElem? (i := 187) rfl)) rfl)⟩, (rx_in (tm_3 (List.mem_of_getElem? (i := 188) rfl)) rfl), (rx_in (tm_3 (List.mem_of_getElem? (i := 189) rfl)) rfl)⟩
theorem lm_RT_108 : rx_LS "RuleText" 108 y_RT_kindOf M_RT_kindOf 1 := ⟨⟨(rx_in (tm_3 (List.mem_of_getElem? (i := 194) rfl)) rfl), (rx_in (tm_1 (List.mem_of_getElem? (i := 1) rfl)) rfl), ⟨by decide +kernel, by decide +kernel⟩, by decide +kernel, by decide, Or.inl (rx_in (tm_3 (List.mem_of_getElem? (i := 192) rfl)) rfl)⟩, (rx_in (tm_3 (List.mem_of_getElem? (i := 193) rfl)) rfl)⟩
theorem lm_RT_112 : rx_LS "RuleText" 112 y_RT_thingOf M_RT_thingOf 1 := ⟨⟨(rx_in (tm_3 (List.mem_of_getElem? (i := 197) rfl)) rfl), (rx_in (tm_1 (List.mem_of_getElem? (i := 1) rfl)) rfl), ⟨by decide +kernel, by decide +kernel⟩, by decide +kernel, by decide, Or.inl (rx_in (tm_3 (List.mem_of_getElem? (i := 195) rfl)) rfl)⟩, (rx_in (tm_3 (List.mem_of_getElem? (i := 196) rfl)) rfl)⟩
theorem lm_Lw_19 : rx_LV "RuleTextLaw" 19 y_RT_value M_RT_value 2 := ⟨⟨(rx_in (tm_3 (List.mem_of_getElem? (i := 204) rfl)) rfl), (rx_in (tm_1 (List.mem_of_getElem? (i := 1) rfl)) rfl), ⟨by decide +kernel, by decide +kernel⟩, by decide +kernel, by decide, Or.inl (rx_in (tm_3 (List.mem_of_getElem? (i := 201) rfl)) rfl)⟩, (rx_in (tm_3 (List.mem_of_getElem? (i := 202) rfl)) rfl), (rx_in (tm_3 (List.mem_of_getElem? (i := 203) rfl)) rfl)⟩
theorem lm_Lw_23 : rx_LV "RuleTextLaw" 23 y_RT_rank M_RT_rank 1 := ⟨⟨(rx_in (tm_3 (List.mem_of_getElem? (i := 212) rfl)) rfl), (rx_in (tm_1 (List.mem_of_getElem? (i := 1) rfl)) rfl), ⟨by decide +kernel, by decide +kernel⟩, by decide +kernel, by decide, Or.inl (rx_in (tm_3 (List.mem_of_getElem? (i := 209) rfl)) rfl)⟩, (rx_in (tm_3 (List.mem_of_getElem? (i := 210) rfl)) rfl), (rx_in (tm_3 (List.mem_of_getElem? (i := 211) rfl)) rfl)⟩
theorem lm_RT_138 : rx_LV "RuleText" 138 y_RL_countAhead M_RL_countAhead 1 := ⟨⟨(rx_in (tm_3 (List.mem_of_getElem? (i := 217) rfl)) rfl), (rx_in (tm_1 (List.mem_of_getElem? (i := 12) rfl)) rfl), ⟨by decide +kernel, by decide +kernel⟩, by decide +kernel, by decide, Or.inl (rx_in (tm_3 (List.mem_of_getElem? (i := 214) rfl)) rfl)⟩, (rx_in (tm_3 (List.mem_of_getElem? (i := 215) rfl)) rfl), (rx_in (tm_3 (List.mem_of_getElem? (i := 216) rfl)) rfl)⟩
theorem lm_Lw_27 : rx_LV "RuleTextLaw" 27 y_RT_shape M_RT_shape 5 := ⟨⟨(rx_in (tm_3 (List.mem_of_getElem? (i := 224) rfl)) rfl), (rx_in (tm_1 (List.mem_of_getElem? (i := 1) rfl)) rfl), ⟨by decide +kernel, by decide +kernel⟩, by decide +kernel, by decide, Or.inl (rx_in (tm_3 (List.mem_of_getElem? (i := 221) rfl)) rfl)⟩, (rx_in (tm_3 (List.mem_of_getElem? (i := 222) rfl)) rfl), (rx_in (tm_3 (List.mem_of_getElem? (i := 223) rfl)) rfl)⟩
theorem lm_RT_143 : rx_LV "RuleText" 143 y_Sh_tell M_Sh_tell 5 := ⟨⟨(rx_in (tm_3 (List.mem_of_getElem? (i := 229) rfl)) rfl), (rx_in (tm_1 (List.mem_of_getElem? (i := 3) rfl)) rfl), ⟨by decide +kernel, by decide +kernel⟩, by decide +kernel, by decide, Or.inl (rx_in (tm_3 (List.mem_of_getElem? (i := 226) rfl)) rfl)⟩, (rx_in (tm_3 (List.mem_of_getElem? (i := 227) rfl)) rfl), (rx_in (tm_3 (List.mem_of_getElem? (i := 228) rfl)) rfl)⟩
theorem lm_Lw_31 : rx_LV "RuleTextLaw" 31 y_RT_clash M_RT_clash 2 := ⟨⟨(rx_in (tm_3 (List.mem_of_getElem? (i := 236) rfl)) rfl), (rx_in (tm_1 (List.mem_of_getElem? (i := 1) rfl)) rfl), ⟨by decide +kernel, by decide +kernel⟩, by decide +kernel, by decide, Or.inl (rx_in (tm_3 (List.mem_of_getElem? (i := 233) rfl)) rfl)⟩, (rx_in (tm_3 (List.mem_of_getElem? (i := 234) rfl)) rfl), (rx_in (tm_3 (List.mem_of_getElem? (i := 235) rfl)) rfl)⟩
theorem lm_RT_156 : rx_LV "RuleText" 156 y_RL_areAtOdds M_RL_areAtOdds 3 := ⟨⟨(rx_in (tm_4 (List.mem_of_getElem? (i := 1) rfl)) rfl), (rx_in (tm_1 (List.mem_of_getElem? (i := 12) rfl)) rfl), ⟨by decide +kernel, by decide +kernel⟩, by decide +kernel, by decide, Or.inl (rx_in (tm_3 (List.mem_of_getElem? (i := 238) rfl)) rfl)⟩, (rx_in (tm_3 (List.mem_of_getElem? (i := 239) rfl)) rfl), (rx_in (tm_4 (List.mem_of_getElem? (i := 0) rfl)) rfl)⟩
theorem lm_RL_37 : rx_LV "RuleText$RuleList" 37 y_Ru_sharesValueWith M_Ru_sharesValueWith 1 := ⟨⟨(rx_in (tm_4 (List.mem_of_getElem? (i := 5) rfl)) rfl), (rx_in (tm_1 (List.mem_of_getElem? (i := 13) rfl)) rfl), ⟨by decide +kernel, by decide +kernel⟩, by decide +kernel, by decide, Or.inl (rx_in (tm_4 (List.mem_of_getElem? (i := 2) rfl)) rfl)⟩, (rx_in (tm_4 (List.mem_of_getElem? (i := 3) rfl)) rfl), (rx_in (tm_4 (List.mem_of_getElem? (i := 4) rfl)) rfl)⟩
theorem lm_Ru_78 : rx_LV "RuleText$Rule" 78 y_Ru_reachesUpTo M_Ru_reachesUpTo 1 := ⟨⟨(rx_in (tm_4 (List.mem_of_getElem? (i := 9) rfl)) rfl), (rx_in (tm_1 (List.mem_of_getElem? (i := 13) rfl)) rfl), ⟨by decide +kernel, by decide +kernel⟩, by decide +kernel, by decide, Or.inl (rx_in (tm_4 (List.mem_of_getElem? (i := 6) rfl)) rfl)⟩, (rx_in (tm_4 (List.mem_of_getElem? (i := 8) rfl)) rfl), (rx_inp (by decide +kernel) rfl)⟩
theorem lm_Lw_34 : rx_LV "RuleTextLaw" 34 y_RT_line M_RT_line 1 := ⟨⟨(rx_in (tm_4 (List.mem_of_getElem? (i := 16) rfl)) rfl), (rx_in (tm_1 (List.mem_of_getElem? (i := 1) rfl)) rfl), ⟨by decide +kernel, by decide +kernel⟩, by decide +kernel, by decide, Or.inl (rx_in (tm_4 (List.mem_of_getElem? (i := 13) rfl)) rfl)⟩, (rx_in (tm_4 (List.mem_of_getElem? (i := 14) rfl)) rfl), (rx_in (tm_4 (List.mem_of_getElem? (i := 15) rfl)) rfl)⟩
theorem lm_Lw_37 : rx_LV "RuleTextLaw" 37 y_RT_write M_RT_write 1 := ⟨⟨(rx_in (tm_4 (List.mem_of_getElem? (i := 23) rfl)) rfl), (rx_in (tm_1 (List.mem_of_getElem? (i := 1) rfl)) rfl), ⟨by decide +kernel, by decide +kernel⟩, by decide +kernel, by decide, Or.inl (rx_in (tm_4 (List.mem_of_getElem? (i := 20) rfl)) rfl)⟩, (rx_in (tm_4 (List.mem_of_getElem? (i := 21) rfl)) rfl), (rx_in (tm_4 (List.mem_of_getElem? (i := 22) rfl)) rfl)⟩
theorem lm_RT_170 : rx_LV "RuleText" 170 y_Wr_writeRules M_Wr_writeRules 1 := ⟨⟨(rx_in (tm_4 (List.mem_of_getElem? (i := 28) rfl)) rfl), (rx_in (tm_1 (List.mem_of_getElem? (i := 7) rfl)) rfl), ⟨by decide +kernel, by decide +kernel⟩, by decide +kernel, by decide, Or.inl (rx_in (tm_4 (List.mem_of_getElem? (i := 25) rfl)) rfl)⟩, (rx_in (tm_4 (List.mem_of_getElem? (i := 26) rfl)) rfl), (rx_in (tm_4 (List.mem_of_getElem? (i := 27) rfl)) rfl)⟩
theorem lm_Wr_22 : rx_LV "RuleText$Writer" 22 y_SB_setLength M_SB_setLength 1 := ⟨⟨(rx_in (tm_4 (List.mem_of_getElem? (i := 32) rfl)) rfl), (rx_in (tm_1 (List.mem_of_getElem? (i := 9) rfl)) rfl), ⟨by decide +kernel, by decide +kernel⟩, by decide +kernel, by decide, Or.inl (rx_in (tm_4 (List.mem_of_getElem? (i := 29) rfl)) rfl)⟩, (rx_in (tm_4 (List.mem_of_getElem? (i := 30) rfl)) rfl), (rx_in (tm_4 (List.mem_of_getElem? (i := 31) rfl)) rfl)⟩
theorem lm_Wr_36 : rx_LV "RuleText$Writer" 36 y_Wr_writeSentence M_Wr_writeSentence 1 := ⟨⟨(rx_in (tm_5 (List.mem_of_getElem? (i := 30) rfl)) rfl), (rx_in (tm_1 (List.mem_of_getElem? (i := 7) rfl)) rfl), ⟨by decide +kernel, by decide +kernel⟩, by decide +kernel, by decide, Or.inl (rx_in (tm_5 (List.mem_of_getElem? (i := 27) rfl)) rfl)⟩, (rx_in (tm_5 (List.mem_of_getElem? (i := 29) rfl)) rfl), (rx_inp (by decide +kernel) rfl)⟩
theorem lm_Wr_52 : rx_LV "RuleText$Writer" 52 y_SB_append_LString M_SB_append_LString 1 := ⟨⟨(rx_in (tm_4 (List.mem_of_getElem? (i := 47) rfl)) rfl), (rx_in (tm_1 (List.mem_of_getElem? (i := 9) rfl)) rfl), ⟨by decide +kernel, by decide +kernel⟩, by decide +kernel, by decide, Or.inl (rx_in (tm_5 (List.mem_of_getElem? (i := 31) rfl)) rfl)⟩, (rx_in (tm_4 (List.mem_of_getElem? (i := 45) rfl)) rfl), (rx_in (tm_4 (List.mem_of_getElem? (i := 46) rfl)) rfl)⟩
theorem lm_Wr_56 : rx_LV "RuleText$Writer" 56 y_Wr_writeScope M_Wr_writeScope 1 := ⟨⟨(rx_in (tm_5 (List.mem_of_getElem? (i := 35) rfl)) rfl), (rx_in (tm_1 (List.mem_of_getElem? (i := 7) rfl)) rfl), ⟨by decide +kernel, by decide +kernel⟩, by decide +kernel, by decide, Or.inl (rx_in (tm_5 (List.mem_of_getElem? (i := 32) rfl)) rfl)⟩, (rx_in (tm_5 (List.mem_of_getElem? (i := 34) rfl)) rfl), (rx_inp (by decide +kernel) rfl)⟩
theorem lm_Wr_59 : rx_LV "RuleText$Writer" 59 y_Ru_isWaiver M_Ru_isWaiver 0 := ⟨⟨(rx_in (tm_2 (List.mem_of_getElem? (i := 178) rfl)) rfl), (rx_in (tm_1 (List.mem_of_getElem? (i := 13) rfl)) rfl), ⟨by decide +kernel, by decide +kernel⟩, by decide +kernel, by decide, Or.inl (rx_in (tm_5 (List.mem_of_getElem? (i := 36) rfl)) rfl)⟩, (rx_in (tm_2 (List.mem_of_getElem? (i := 176) rfl)) rfl), (rx_in (tm_2 (List.mem_of_getElem? (i := 177) rfl)) rfl)⟩
theorem lm_Wr_86 : rx_LV "RuleText$Writer" 86 y_Ru_isOfTwoThings M_Ru_isOfTwoThings 0 := ⟨⟨(rx_in (tm_2 (List.mem_of_getElem? (i := 184) rfl)) rfl), (rx_in (tm_1 (List.mem_of_getElem? (i := 13) rfl)) rfl), ⟨by decide +kernel, by decide +kernel⟩, by decide +kernel, by decide, Or.inl (rx_in (tm_5 (List.mem_of_getElem? (i := 37) rfl)) rfl)⟩, (rx_in (tm_2 (List.mem_of_getElem? (i := 182) rfl)) rfl), (rx_in (tm_2 (List.mem_of_getElem? (i := 183) rfl)) rfl)⟩
theorem lm_Wr_96 : rx_LV "RuleText$Writer" 96 y_Wr_writeThing M_Wr_writeThing 1 := ⟨⟨(rx_in (tm_5 (List.mem_of_getElem? (i := 43) rfl)) rfl), (rx_in (tm_1 (List.mem_of_getElem? (i := 7) rfl)) rfl), ⟨by decide +kernel, by decide +kernel⟩, by decide +kernel, by decide, Or.inl (rx_in (tm_5 (List.mem_of_getElem? (i := 40) rfl)) rfl)⟩, (rx_in (tm_5 (List.mem_of_getElem? (i := 42) rfl)) rfl), (rx_inp (by decide +kernel) rfl)⟩
theorem lm_Wr_106 : rx_LS "RuleText$Writer" 106 y_RT_kindOf M_RT_kindOf 1 := ⟨⟨(rx_in (tm_3 (List.mem_of_getElem? (i := 194) rfl)) rfl), (rx_in (tm_1 (List.mem_of_getElem? (i := 1) rfl)) rfl), ⟨by decide +kernel, by decide +kernel⟩, by decide +kernel, by decide, Or.inr ⟨"RuleText", List.mem_of_getElem? (i := 11) rfl⟩⟩, (rx_in (tm_3 (List.mem_of_getElem? (i := 193) rfl)) rfl)⟩
theorem lm_Wr_114 : rx_LV "RuleText$Writer" 114 y_Wr_writeName M_Wr_writeName 1 := ⟨⟨(rx_in (tm_5 (List.mem_of_getElem? (i := 51) rfl)) rfl), (rx_in (tm_1 (List.mem_of_getElem? (i := 7) rfl)) rfl), ⟨by decide +kernel, by decide +kernel⟩, by decide +kernel, by decide, Or.inl (rx_in (tm_5 (List.mem_of_getElem? (i := 48) rfl)) rfl)⟩, (rx_in (tm_5 (List.mem_of_getElem? (i := 50) rfl)) rfl), (rx_inp (by decide +kernel) rfl)⟩
theorem lm_Wr_117 : rx_LV "RuleText$Writer" 117 y_SB_append_C M_SB_append_C 1 := ⟨⟨(rx_in (tm_5 (List.mem_of_getElem? (i := 55) rfl)) rfl), (rx_in (tm_1 (List.mem_of_getElem? (i := 9) rfl)) rfl), ⟨by decide +kernel, by decide +kernel⟩, by decide +kernel, by decide, Or.inl (rx_in (tm_5 (List.mem_of_getElem? (i := 52) rfl)) rfl)⟩, (rx_in (tm_5 (List.mem_of_getElem? (i := 53) rfl)) rfl), (rx_in (tm_5 (List.mem_of_getElem? (i := 54) rfl)) rfl)⟩
theorem lm_Wr_66 : rx_LV "RuleText$Writer" 66 y_Wr_writeLayer M_Wr_writeLayer 1 := ⟨⟨(rx_in (tm_5 (List.mem_of_getElem? (i := 69) rfl)) rfl), (rx_in (tm_1 (List.mem_of_getElem? (i := 7) rfl)) rfl), ⟨by decide +kernel, by decide +kernel⟩, by decide +kernel, by decide, Or.inl (rx_in (tm_5 (List.mem_of_getElem? (i := 66) rfl)) rfl)⟩, (rx_in (tm_5 (List.mem_of_getElem? (i := 68) rfl)) rfl), (rx_inp (by decide +kernel) rfl)⟩
theorem lm_Wr_138 : rx_LV "RuleText$Writer" 138 y_SB_append_I M_SB_append_I 1 := ⟨⟨(rx_in (tm_4 (List.mem_of_getElem? (i := 148) rfl)) rfl), (rx_in (tm_1 (List.mem_of_getElem? (i := 9) rfl)) rfl), ⟨by decide +kernel, by decide +kernel⟩, by decide +kernel, by decide, Or.inl (rx_in (tm_5 (List.mem_of_getElem? (i := 74) rfl)) rfl)⟩, (rx_in (tm_4 (List.mem_of_getElem? (i := 146) rfl)) rfl), (rx_in (tm_4 (List.mem_of_getElem? (i := 147) rfl)) rfl)⟩
theorem lm_Wr_72 : rx_LV "RuleText$Writer" 72 y_Wr_writeArea M_Wr_writeArea 1 := ⟨⟨(rx_in (tm_5 (List.mem_of_getElem? (i := 78) rfl)) rfl), (rx_in (tm_1 (List.mem_of_getElem? (i := 7) rfl)) rfl), ⟨by decide +kernel, by decide +kernel⟩, by decide +kernel, by decide, Or.inl (rx_in (tm_5 (List.mem_of_getElem? (i := 75) rfl)) rfl)⟩, (rx_in (tm_5 (List.mem_of_getElem? (i := 77) rfl)) rfl), (rx_inp (by decide +kernel) rfl)⟩
theorem lm_Wr_143 : rx_LS "RuleText$Writer" 143 y_RT_slotOf M_RT_slotOf 2 := ⟨⟨(rx_in (tm_2 (List.mem_of_getElem? (i := 205) rfl)) rfl), (rx_in (tm_1 (List.mem_of_getElem? (i := 1) rfl)) rfl), ⟨by decide +kernel, by decide +kernel⟩, by decide +kernel, by decide, Or.inr ⟨"RuleText", List.mem_of_getElem? (i := 12) rfl⟩⟩, (rx_in (tm_2 (List.mem_of_getElem? (i := 204) rfl)) rfl)⟩
theorem lm_Wr_78 : rx_LV "RuleText$Writer" 78 y_Wr_writeRank M_Wr_writeRank 1 := ⟨⟨(rx_in (tm_5 (List.mem_of_getElem? (i := 84) rfl)) rfl), (rx_in (tm_1 (List.mem_of_getElem? (i := 7) rfl)) rfl), ⟨by decide +kernel, by decide +kernel⟩, by decide +kernel, by decide, Or.inl (rx_in (tm_5 (List.mem_of_getElem? (i := 81) rfl)) rfl)⟩, (rx_in (tm_5 (List.mem_of_getElem? (i := 83) rfl)) rfl), (rx_inp (by decide +kernel) rfl)⟩
theorem lm_Wr_81 : rx_LV "RuleText$Writer" 81 y_Wr_writeSpan M_Wr_writeSpan 1 := ⟨⟨(rx_in (tm_5 (List.mem_of_getElem? (i := 89) rfl)) rfl), (rx_in (tm_1 (List.mem_of_getElem? (i := 7) rfl)) rfl), ⟨by decide +kernel, by decide +kernel⟩, by decide +kernel, by decide, Or.inl (rx_in (tm_5 (List.mem_of_getElem? (i := 86) rfl)) rfl)⟩, (rx_in (tm_5 (List.mem_of_getElem? (i := 88) rfl)) rfl), (rx_inp (by decide +kernel) rfl)⟩
theorem lm_Wr_162 : rx_LV "RuleText$Writer" 162 y_Wr_writeNumber M_Wr_writeNumber 1 := ⟨⟨(rx_in (tm_5 (List.mem_of_getElem? (i := 96) rfl)) rfl), (rx_in (tm_1 (List.mem_of_getElem? (i := 7) rfl)) rfl), ⟨by decide +kernel, by decide +kernel⟩, by decide +kernel, by decide, Or.inl (rx_in (tm_5 (List.mem_of_getElem? (i := 93) rfl)) rfl)⟩, (rx_in (tm_5 (List.mem_of_getElem? (i := 95) rfl)) rfl), (rx_inp (by decide +kernel) rfl)⟩
theorem lm_RT_178 : rx_LV "RuleText" 178 y_SB_length M_SB_length 0 := ⟨⟨(rx_in (tm_4 (List.mem_of_getElem? (i := 193) rfl)) rfl), (rx_in (tm_1 (List.mem_of_getElem? (i := 9) rfl)) rfl), ⟨by decide +kernel, by decide +kernel⟩, by decide +kernel, by decide, Or.inl (rx_in (tm_5 (List.mem_of_getElem? (i := 103) rfl)) rfl)⟩, (rx_in (tm_4 (List.mem_of_getElem? (i := 192) rfl)) rfl), (rx_in (tm_6 (List.mem_of_getElem? (i := 174) rfl)) rfl)⟩
theorem lm_RT_184 : rx_LV "RuleText" 184 y_SB_charAt M_SB_charAt 1 := ⟨⟨(rx_in (tm_5 (List.mem_of_getElem? (i := 107) rfl)) rfl), (rx_in (tm_1 (List.mem_of_getElem? (i := 9) rfl)) rfl), ⟨by decide +kernel, by decide +kernel⟩, by decide +kernel, by decide, Or.inl (rx_in (tm_5 (List.mem_of_getElem? (i := 104) rfl)) rfl)⟩, (rx_in (tm_5 (List.mem_of_getElem? (i := 105) rfl)) rfl), (rx_in (tm_5 (List.mem_of_getElem? (i := 106) rfl)) rfl)⟩
theorem lm_Lw_43 : rx_LI "RuleTextLaw" 43 y_Mo_init M_Mo_init 0 := ⟨⟨(rx_in (tm_5 (List.mem_of_getElem? (i := 118) rfl)) rfl), (rx_in (tm_1 (List.mem_of_getElem? (i := 16) rfl)) rfl), ⟨by decide +kernel, by decide +kernel⟩, by decide +kernel, by decide, Or.inl (rx_in (tm_5 (List.mem_of_getElem? (i := 116) rfl)) rfl)⟩, rfl, rfl, (rx_in (tm_5 (List.mem_of_getElem? (i := 117) rfl)) rfl)⟩
theorem lm_Lw_55 : rx_LV "RuleTextLaw" 55 y_Mo_thrown M_Mo_thrown 0 := ⟨⟨(rx_in (tm_5 (List.mem_of_getElem? (i := 178) rfl)) rfl), (rx_in (tm_1 (List.mem_of_getElem? (i := 16) rfl)) rfl), ⟨by decide +kernel, by decide +kernel⟩, by decide +kernel, by decide, Or.inl (rx_in (tm_5 (List.mem_of_getElem? (i := 175) rfl)) rfl)⟩, (rx_in (tm_5 (List.mem_of_getElem? (i := 176) rfl)) rfl), (rx_in (tm_5 (List.mem_of_getElem? (i := 177) rfl)) rfl)⟩
theorem lm_Lw_48 : rx_LV "RuleTextLaw" 48 y_Mo_unit M_Mo_unit 1 := ⟨⟨(rx_in (tm_5 (List.mem_of_getElem? (i := 182) rfl)) rfl), (rx_in (tm_1 (List.mem_of_getElem? (i := 16) rfl)) rfl), ⟨by decide +kernel, by decide +kernel⟩, by decide +kernel, by decide, Or.inl (rx_in (tm_5 (List.mem_of_getElem? (i := 179) rfl)) rfl)⟩, (rx_in (tm_5 (List.mem_of_getElem? (i := 180) rfl)) rfl), (rx_in (tm_5 (List.mem_of_getElem? (i := 181) rfl)) rfl)⟩
theorem lm_Mo_43 : rx_LS "RuleTextModel" 43 y_Mo_isLetter M_Mo_isLetter 1 := ⟨⟨(rx_in (tm_5 (List.mem_of_getElem? (i := 185) rfl)) rfl), (rx_in (tm_1 (List.mem_of_getElem? (i := 16) rfl)) rfl), ⟨by decide +kernel, by decide +kernel⟩, by decide +kernel, by decide, Or.inl (rx_in (tm_5 (List.mem_of_getElem? (i := 183) rfl)) rfl)⟩, (rx_in (tm_5 (List.mem_of_getElem? (i := 184) rfl)) rfl)⟩
theorem lm_Mo_47 : rx_LS "RuleTextModel" 47 y_Mo_isDigit M_Mo_isDigit 1 := ⟨⟨(rx_in (tm_5 (List.mem_of_getElem? (i := 188) rfl)) rfl), (rx_in (tm_1 (List.mem_of_getElem? (i := 16) rfl)) rfl), ⟨by decide +kernel, by decide +kernel⟩, by decide +kernel, by decide, Or.inl (rx_in (tm_5 (List.mem_of_getElem? (i := 186) rfl)) rfl)⟩, (rx_in (tm_5 (List.mem_of_getElem? (i := 187) rfl)) rfl)⟩
theorem lm_Lw_100 : rx_LV "RuleTextLaw" 100 y_Mo_clear M_Mo_clear 0 := ⟨⟨(rx_in (tm_5 (List.mem_of_getElem? (i := 192) rfl)) rfl), (rx_in (tm_1 (List.mem_of_getElem? (i := 16) rfl)) rfl), ⟨by decide +kernel, by decide +kernel⟩, by decide +kernel, by decide, Or.inl (rx_in (tm_5 (List.mem_of_getElem? (i := 189) rfl)) rfl)⟩, (rx_in (tm_5 (List.mem_of_getElem? (i := 190) rfl)) rfl), (rx_in (tm_5 (List.mem_of_getElem? (i := 191) rfl)) rfl)⟩
theorem lm_Lw_54 : rx_LV "RuleTextLaw" 54 y_Mo_name M_Mo_name 3 := ⟨⟨(rx_in (tm_5 (List.mem_of_getElem? (i := 196) rfl)) rfl), (rx_in (tm_1 (List.mem_of_getElem? (i := 16) rfl)) rfl), ⟨by decide +kernel, by decide +kernel⟩, by decide +kernel, by decide, Or.inl (rx_in (tm_5 (List.mem_of_getElem? (i := 193) rfl)) rfl)⟩, (rx_in (tm_5 (List.mem_of_getElem? (i := 194) rfl)) rfl), (rx_in (tm_5 (List.mem_of_getElem? (i := 195) rfl)) rfl)⟩
theorem lm_Lw_79 : rx_LV "RuleTextLaw" 79 y_Mo_shape M_Mo_shape 5 := ⟨⟨(rx_in (tm_5 (List.mem_of_getElem? (i := 200) rfl)) rfl), (rx_in (tm_1 (List.mem_of_getElem? (i := 16) rfl)) rfl), ⟨by decide +kernel, by decide +kernel⟩, by decide +kernel, by decide, Or.inl (rx_in (tm_5 (List.mem_of_getElem? (i := 197) rfl)) rfl)⟩, (rx_in (tm_5 (List.mem_of_getElem? (i := 198) rfl)) rfl), (rx_in (tm_5 (List.mem_of_getElem? (i := 199) rfl)) rfl)⟩
theorem lm_Lw_62 : rx_LV "RuleTextLaw" 62 y_Mo_read M_Mo_read 0 := ⟨⟨(rx_in (tm_5 (List.mem_of_getElem? (i := 204) rfl)) rfl), (rx_in (tm_1 (List.mem_of_getElem? (i := 16) rfl)) rfl), ⟨by decide +kernel, by decide +kernel⟩, by decide +kernel, by decide, Or.inl (rx_in (tm_5 (List.mem_of_getElem? (i := 201) rfl)) rfl)⟩, (rx_in (tm_5 (List.mem_of_getElem? (i := 202) rfl)) rfl), (rx_in (tm_5 (List.mem_of_getElem? (i := 203) rfl)) rfl)⟩
theorem lm_Mo_183 : rx_LV "RuleTextModel" 183 y_Mo_findWords M_Mo_findWords 0 := ⟨⟨(rx_in (tm_5 (List.mem_of_getElem? (i := 208) rfl)) rfl), (rx_in (tm_1 (List.mem_of_getElem? (i := 16) rfl)) rfl), ⟨by decide +kernel, by decide +kernel⟩, by decide +kernel, by decide, Or.inl (rx_in (tm_5 (List.mem_of_getElem? (i := 205) rfl)) rfl)⟩, (rx_in (tm_5 (List.mem_of_getElem? (i := 207) rfl)) rfl), (rx_inp (by decide +kernel) rfl)⟩
theorem lm_Mo_56 : rx_LS "RuleTextModel" 56 y_Mo_isWordSign M_Mo_isWordSign 1 := ⟨⟨(rx_in (tm_5 (List.mem_of_getElem? (i := 211) rfl)) rfl), (rx_in (tm_1 (List.mem_of_getElem? (i := 16) rfl)) rfl), ⟨by decide +kernel, by decide +kernel⟩, by decide +kernel, by decide, Or.inl (rx_in (tm_5 (List.mem_of_getElem? (i := 209) rfl)) rfl)⟩, (rx_in (tm_5 (List.mem_of_getElem? (i := 210) rfl)) rfl)⟩
theorem lm_Mo_75 : rx_LV "RuleTextModel" 75 y_Mo_good M_Mo_good 0 := ⟨⟨(rx_in (tm_5 (List.mem_of_getElem? (i := 215) rfl)) rfl), (rx_in (tm_1 (List.mem_of_getElem? (i := 16) rfl)) rfl), ⟨by decide +kernel, by decide +kernel⟩, by decide +kernel, by decide, Or.inl (rx_in (tm_5 (List.mem_of_getElem? (i := 212) rfl)) rfl)⟩, (rx_in (tm_5 (List.mem_of_getElem? (i := 214) rfl)) rfl), (rx_inp (by decide +kernel) rfl)⟩
theorem lm_Mo_87 : rx_LV "RuleTextModel" 87 y_Mo_fail M_Mo_fail 1 := ⟨⟨(rx_in (tm_5 (List.mem_of_getElem? (i := 219) rfl)) rfl), (rx_in (tm_1 (List.mem_of_getElem? (i := 16) rfl)) rfl), ⟨by decide +kernel, by decide +kernel⟩, by decide +kernel, by decide, Or.inl (rx_in (tm_5 (List.mem_of_getElem? (i := 216) rfl)) rfl)⟩, (rx_in (tm_5 (List.mem_of_getElem? (i := 218) rfl)) rfl), (rx_inp (by decide +kernel) rfl)⟩
theorem lm_Mo_186 : rx_LV "RuleTextModel" 186 y_Mo_sentence M_Mo_sentence 0 := ⟨⟨(rx_in (tm_5 (List.mem_of_getElem? (i := 223) rfl)) rfl), (rx_in (tm_1 (List.mem_of_getElem? (i := 16) rfl)) rfl), ⟨by decide +kernel, by decide +kernel⟩, by decide +kernel, by decide, Or.inl (rx_in (tm_5 (List.mem_of_getElem? (i := 220) rfl)) rfl)⟩, (rx_in (tm_5 (List.mem_of_getElem? (i := 222) rfl)) rfl), (rx_inp (by decide +kernel) rfl)⟩
theorem lm_Mo_79 : rx_LV "RuleTextModel" 79 y_Mo_spelt M_Mo_spelt 0 := ⟨⟨(rx_in (tm_5 (List.mem_of_getElem? (i := 227) rfl)) rfl), (rx_in (tm_1 (List.mem_of_getElem? (i := 16) rfl)) rfl), ⟨by decide +kernel, by decide +kernel⟩, by decide +kernel, by decide, Or.inl (rx_in (tm_5 (List.mem_of_getElem? (i := 224) rfl)) rfl)⟩, (rx_in (tm_5 (List.mem_of_getElem? (i := 226) rfl)) rfl), (rx_inp (by decide +kernel) rfl)⟩
theorem lm_Mo_62 : rx_LV "RuleTextModel" 62 y_Mo_length M_Mo_length 0 := ⟨⟨(rx_in (tm_5 (List.mem_of_getElem? (i := 231) rfl)) rfl), (rx_in (tm_1 (List.mem_of_getElem? (i := 16) rfl)) rfl), ⟨by decide +kernel, by decide +kernel⟩, by decide +kernel, by decide, Or.inl (rx_in (tm_5 (List.mem_of_getElem? (i := 228) rfl)) rfl)⟩, (rx_in (tm_5 (List.mem_of_getElem? (i := 230) rfl)) rfl), (rx_inp (by decide +kernel) rfl)⟩
theorem lm_Mo_158 : rx_LS "RuleTextModel" 158 y_Mo_kindWord M_Mo_kindWord 1 := ⟨⟨(rx_in (tm_5 (List.mem_of_getElem? (i := 235) rfl)) rfl), (rx_in (tm_1 (List.mem_of_getElem? (i := 16) rfl)) rfl), ⟨by decide +kernel, by decide +kernel⟩, by decide +kernel, by decide, Or.inl (rx_in (tm_5 (List.mem_of_getElem? (i := 233) rfl)) rfl)⟩, (rx_in (tm_5 (List.mem_of_getElem? (i := 234) rfl)) rfl)⟩
theorem lm_Mo_68 : rx_LS "RuleTextModel" 68 y_Mo_word M_Mo_word 7 := ⟨⟨(rx_in (tm_5 (List.mem_of_getElem? (i := 238) rfl)) rfl), (rx_in (tm_1 (List.mem_of_getElem? (i := 16) rfl)) rfl), ⟨by decide +kernel, by decide +kernel⟩, by decide +kernel, by decide, Or.inl (rx_in (tm_5 (List.mem_of_getElem? (i := 236) rfl)) rfl)⟩, (rx_in (tm_5 (List.mem_of_getElem? (i := 237) rfl)) rfl)⟩
theorem lm_Mo_162 : rx_LV "RuleTextModel" 162 y_Mo_lineOf M_Mo_lineOf 1 := ⟨⟨(rx_in (tm_6 (List.mem_of_getElem? (i := 2) rfl)) rfl), (rx_in (tm_1 (List.mem_of_getElem? (i := 16) rfl)) rfl), ⟨by decide +kernel, by decide +kernel⟩, by decide +kernel, by decide, Or.inl (rx_in (tm_5 (List.mem_of_getElem? (i := 239) rfl)) rfl)⟩, (rx_in (tm_6 (List.mem_of_getElem? (i := 1) rfl)) rfl), (rx_inp (by decide +kernel) rfl)⟩
theorem lm_Mo_165 : rx_LV "RuleTextModel" 165 y_Mo_thing M_Mo_thing 1 := ⟨⟨(rx_in (tm_6 (List.mem_of_getElem? (i := 6) rfl)) rfl), (rx_in (tm_1 (List.mem_of_getElem? (i := 16) rfl)) rfl), ⟨by decide +kernel, by decide +kernel⟩, by decide +kernel, by decide, Or.inl (rx_in (tm_6 (List.mem_of_getElem? (i := 3) rfl)) rfl)⟩, (rx_in (tm_6 (List.mem_of_getElem? (i := 5) rfl)) rfl), (rx_inp (by decide +kernel) rfl)⟩
theorem lm_Mo_83 : rx_LV "RuleTextModel" 83 y_Mo_took M_Mo_took 1 := ⟨⟨(rx_in (tm_6 (List.mem_of_getElem? (i := 10) rfl)) rfl), (rx_in (tm_1 (List.mem_of_getElem? (i := 16) rfl)) rfl), ⟨by decide +kernel, by decide +kernel⟩, by decide +kernel, by decide, Or.inl (rx_in (tm_6 (List.mem_of_getElem? (i := 7) rfl)) rfl)⟩, (rx_in (tm_6 (List.mem_of_getElem? (i := 9) rfl)) rfl), (rx_inp (by decide +kernel) rfl)⟩
theorem lm_Mo_91 : rx_LV "RuleTextModel" 91 y_Mo_named M_Mo_named 1 := ⟨⟨(rx_in (tm_6 (List.mem_of_getElem? (i := 14) rfl)) rfl), (rx_in (tm_1 (List.mem_of_getElem? (i := 16) rfl)) rfl), ⟨by decide +kernel, by decide +kernel⟩, by decide +kernel, by decide, Or.inl (rx_in (tm_6 (List.mem_of_getElem? (i := 11) rfl)) rfl)⟩, (rx_in (tm_6 (List.mem_of_getElem? (i := 13) rfl)) rfl), (rx_inp (by decide +kernel) rfl)⟩
theorem lm_Mo_97 : rx_LV "RuleTextModel" 97 y_Mo_expect M_Mo_expect 1 := ⟨⟨(rx_in (tm_6 (List.mem_of_getElem? (i := 19) rfl)) rfl), (rx_in (tm_1 (List.mem_of_getElem? (i := 16) rfl)) rfl), ⟨by decide +kernel, by decide +kernel⟩, by decide +kernel, by decide, Or.inl (rx_in (tm_6 (List.mem_of_getElem? (i := 16) rfl)) rfl)⟩, (rx_in (tm_6 (List.mem_of_getElem? (i := 18) rfl)) rfl), (rx_inp (by decide +kernel) rfl)⟩
theorem lm_Mo_172 : rx_LV "RuleTextModel" 172 y_Mo_layer M_Mo_layer 0 := ⟨⟨(rx_in (tm_6 (List.mem_of_getElem? (i := 25) rfl)) rfl), (rx_in (tm_1 (List.mem_of_getElem? (i := 16) rfl)) rfl), ⟨by decide +kernel, by decide +kernel⟩, by decide +kernel, by decide, Or.inl (rx_in (tm_6 (List.mem_of_getElem? (i := 22) rfl)) rfl)⟩, (rx_in (tm_6 (List.mem_of_getElem? (i := 24) rfl)) rfl), (rx_inp (by decide +kernel) rfl)⟩
theorem lm_Mo_110 : rx_LV "RuleTextModel" 110 y_Mo_small M_Mo_small 2 := ⟨⟨(rx_in (tm_6 (List.mem_of_getElem? (i := 32) rfl)) rfl), (rx_in (tm_1 (List.mem_of_getElem? (i := 16) rfl)) rfl), ⟨by decide +kernel, by decide +kernel⟩, by decide +kernel, by decide, Or.inl (rx_in (tm_6 (List.mem_of_getElem? (i := 29) rfl)) rfl)⟩, (rx_in (tm_6 (List.mem_of_getElem? (i := 31) rfl)) rfl), (rx_inp (by decide +kernel) rfl)⟩
theorem lm_Mo_177 : rx_LV "RuleTextModel" 177 y_Mo_value_ M_Mo_value_ 0 := ⟨⟨(rx_in (tm_6 (List.mem_of_getElem? (i := 37) rfl)) rfl), (rx_in (tm_1 (List.mem_of_getElem? (i := 16) rfl)) rfl), ⟨by decide +kernel, by decide +kernel⟩, by decide +kernel, by decide, Or.inl (rx_in (tm_6 (List.mem_of_getElem? (i := 34) rfl)) rfl)⟩, (rx_in (tm_6 (List.mem_of_getElem? (i := 36) rfl)) rfl), (rx_inp (by decide +kernel) rfl)⟩
theorem lm_Mo_142 : rx_LV "RuleTextModel" 142 y_Mo_number M_Mo_number 0 := ⟨⟨(rx_in (tm_6 (List.mem_of_getElem? (i := 41) rfl)) rfl), (rx_in (tm_1 (List.mem_of_getElem? (i := 16) rfl)) rfl), ⟨by decide +kernel, by decide +kernel⟩, by decide +kernel, by decide, Or.inl (rx_in (tm_6 (List.mem_of_getElem? (i := 38) rfl)) rfl)⟩, (rx_in (tm_6 (List.mem_of_getElem? (i := 40) rfl)) rfl), (rx_inp (by decide +kernel) rfl)⟩
theorem lm_Mo_122 : rx_LV "RuleTextModel" 122 y_Mo_tookNumber M_Mo_tookNumber 0 := ⟨⟨(rx_in (tm_6 (List.mem_of_getElem? (i := 45) rfl)) rfl), (rx_in (tm_1 (List.mem_of_getElem? (i := 16) rfl)) rfl), ⟨by decide +kernel, by decide +kernel⟩, by decide +kernel, by decide, Or.inl (rx_in (tm_6 (List.mem_of_getElem? (i := 42) rfl)) rfl)⟩, (rx_in (tm_6 (List.mem_of_getElem? (i := 44) rfl)) rfl), (rx_inp (by decide +kernel) rfl)⟩
theorem lm_Mo_145 : rx_LV "RuleTextModel" 145 y_Mo_bare M_Mo_bare 2 := ⟨⟨(rx_in (tm_6 (List.mem_of_getElem? (i := 51) rfl)) rfl), (rx_in (tm_1 (List.mem_of_getElem? (i := 16) rfl)) rfl), ⟨by decide +kernel, by decide +kernel⟩, by decide +kernel, by decide, Or.inl (rx_in (tm_6 (List.mem_of_getElem? (i := 48) rfl)) rfl)⟩, (rx_in (tm_6 (List.mem_of_getElem? (i := 50) rfl)) rfl), (rx_inp (by decide +kernel) rfl)⟩
theorem lm_Mo_139 : rx_LV "RuleTextModel" 139 y_Mo_isBare M_Mo_isBare 0 := ⟨⟨(rx_in (tm_6 (List.mem_of_getElem? (i := 55) rfl)) rfl), (rx_in (tm_1 (List.mem_of_getElem? (i := 16) rfl)) rfl), ⟨by decide +kernel, by decide +kernel⟩, by decide +kernel, by decide, Or.inl (rx_in (tm_6 (List.mem_of_getElem? (i := 52) rfl)) rfl)⟩, (rx_in (tm_6 (List.mem_of_getElem? (i := 54) rfl)) rfl), (rx_inp (by decide +kernel) rfl)⟩
theorem lm_Mo_151 : rx_LV "RuleTextModel" 151 y_Mo_unitOf M_Mo_unitOf 0 := ⟨⟨(rx_in (tm_6 (List.mem_of_getElem? (i := 64) rfl)) rfl), (rx_in (tm_1 (List.mem_of_getElem? (i := 16) rfl)) rfl), ⟨by decide +kernel, by decide +kernel⟩, by decide +kernel, by decide, Or.inl (rx_in (tm_6 (List.mem_of_getElem? (i := 61) rfl)) rfl)⟩, (rx_in (tm_6 (List.mem_of_getElem? (i := 63) rfl)) rfl), (rx_inp (by decide +kernel) rfl)⟩
theorem lm_Mo_154 : rx_LV "RuleTextModel" 154 y_Mo_whole M_Mo_whole 3 := ⟨⟨(rx_in (tm_6 (List.mem_of_getElem? (i := 71) rfl)) rfl), (rx_in (tm_1 (List.mem_of_getElem? (i := 16) rfl)) rfl), ⟨by decide +kernel, by decide +kernel⟩, by decide +kernel, by decide, Or.inl (rx_in (tm_6 (List.mem_of_getElem? (i := 68) rfl)) rfl)⟩, (rx_in (tm_6 (List.mem_of_getElem? (i := 70) rfl)) rfl), (rx_inp (by decide +kernel) rfl)⟩
theorem lm_Mo_180 : rx_LV "RuleTextModel" 180 y_Mo_isSemicolon M_Mo_isSemicolon 0 := ⟨⟨(rx_in (tm_6 (List.mem_of_getElem? (i := 75) rfl)) rfl), (rx_in (tm_1 (List.mem_of_getElem? (i := 16) rfl)) rfl), ⟨by decide +kernel, by decide +kernel⟩, by decide +kernel, by decide, Or.inl (rx_in (tm_6 (List.mem_of_getElem? (i := 72) rfl)) rfl)⟩, (rx_in (tm_6 (List.mem_of_getElem? (i := 74) rfl)) rfl), (rx_inp (by decide +kernel) rfl)⟩
theorem lm_Lw_66 : rx_LV "RuleTextLaw" 66 y_Mo_rule M_Mo_rule 2 := ⟨⟨(rx_in (tm_6 (List.mem_of_getElem? (i := 79) rfl)) rfl), (rx_in (tm_1 (List.mem_of_getElem? (i := 16) rfl)) rfl), ⟨by decide +kernel, by decide +kernel⟩, by decide +kernel, by decide, Or.inl (rx_in (tm_6 (List.mem_of_getElem? (i := 76) rfl)) rfl)⟩, (rx_in (tm_6 (List.mem_of_getElem? (i := 77) rfl)) rfl), (rx_in (tm_6 (List.mem_of_getElem? (i := 78) rfl)) rfl)⟩
theorem lm_Mo_192 : rx_LV "RuleTextModel" 192 y_Mo_isRule M_Mo_isRule 1 := ⟨⟨(rx_in (tm_6 (List.mem_of_getElem? (i := 83) rfl)) rfl), (rx_in (tm_1 (List.mem_of_getElem? (i := 16) rfl)) rfl), ⟨by decide +kernel, by decide +kernel⟩, by decide +kernel, by decide, Or.inl (rx_in (tm_6 (List.mem_of_getElem? (i := 80) rfl)) rfl)⟩, (rx_in (tm_6 (List.mem_of_getElem? (i := 82) rfl)) rfl), (rx_inp (by decide +kernel) rfl)⟩
theorem lm_Lw_69 : rx_LV "RuleTextLaw" 69 y_Mo_value_II M_Mo_value_II 2 := ⟨⟨(rx_in (tm_6 (List.mem_of_getElem? (i := 87) rfl)) rfl), (rx_in (tm_1 (List.mem_of_getElem? (i := 16) rfl)) rfl), ⟨by decide +kernel, by decide +kernel⟩, by decide +kernel, by decide, Or.inl (rx_in (tm_6 (List.mem_of_getElem? (i := 84) rfl)) rfl)⟩, (rx_in (tm_6 (List.mem_of_getElem? (i := 85) rfl)) rfl), (rx_in (tm_6 (List.mem_of_getElem? (i := 86) rfl)) rfl)⟩
theorem lm_Lw_73 : rx_LV "RuleTextLaw" 73 y_Mo_rank M_Mo_rank 1 := ⟨⟨(rx_in (tm_6 (List.mem_of_getElem? (i := 91) rfl)) rfl), (rx_in (tm_1 (List.mem_of_getElem? (i := 16) rfl)) rfl), ⟨by decide +kernel, by decide +kernel⟩, by decide +kernel, by decide, Or.inl (rx_in (tm_6 (List.mem_of_getElem? (i := 88) rfl)) rfl)⟩, (rx_in (tm_6 (List.mem_of_getElem? (i := 89) rfl)) rfl), (rx_in (tm_6 (List.mem_of_getElem? (i := 90) rfl)) rfl)⟩
theorem lm_Mo_197 : rx_LV "RuleTextModel" 197 y_Mo_isAhead M_Mo_isAhead 2 := ⟨⟨(rx_in (tm_6 (List.mem_of_getElem? (i := 95) rfl)) rfl), (rx_in (tm_1 (List.mem_of_getElem? (i := 16) rfl)) rfl), ⟨by decide +kernel, by decide +kernel⟩, by decide +kernel, by decide, Or.inl (rx_in (tm_6 (List.mem_of_getElem? (i := 92) rfl)) rfl)⟩, (rx_in (tm_6 (List.mem_of_getElem? (i := 94) rfl)) rfl), (rx_inp (by decide +kernel) rfl)⟩
theorem lm_Lw_83 : rx_LV "RuleTextLaw" 83 y_Mo_never M_Mo_never 1 := ⟨⟨(rx_in (tm_6 (List.mem_of_getElem? (i := 100) rfl)) rfl), (rx_in (tm_1 (List.mem_of_getElem? (i := 16) rfl)) rfl), ⟨by decide +kernel, by decide +kernel⟩, by decide +kernel, by decide, Or.inl (rx_in (tm_6 (List.mem_of_getElem? (i := 97) rfl)) rfl)⟩, (rx_in (tm_6 (List.mem_of_getElem? (i := 98) rfl)) rfl), (rx_in (tm_6 (List.mem_of_getElem? (i := 99) rfl)) rfl)⟩
theorem lm_Mo_209 : rx_LV "RuleTextModel" 209 y_Mo_covers M_Mo_covers 2 := ⟨⟨(rx_in (tm_6 (List.mem_of_getElem? (i := 104) rfl)) rfl), (rx_in (tm_1 (List.mem_of_getElem? (i := 16) rfl)) rfl), ⟨by decide +kernel, by decide +kernel⟩, by decide +kernel, by decide, Or.inl (rx_in (tm_6 (List.mem_of_getElem? (i := 101) rfl)) rfl)⟩, (rx_in (tm_6 (List.mem_of_getElem? (i := 103) rfl)) rfl), (rx_inp (by decide +kernel) rfl)⟩
theorem lm_Mo_201 : rx_LV "RuleTextModel" 201 y_Mo_isLike M_Mo_isLike 4 := ⟨⟨(rx_in (tm_6 (List.mem_of_getElem? (i := 108) rfl)) rfl), (rx_in (tm_1 (List.mem_of_getElem? (i := 16) rfl)) rfl), ⟨by decide +kernel, by decide +kernel⟩, by decide +kernel, by decide, Or.inl (rx_in (tm_6 (List.mem_of_getElem? (i := 105) rfl)) rfl)⟩, (rx_in (tm_6 (List.mem_of_getElem? (i := 107) rfl)) rfl), (rx_inp (by decide +kernel) rfl)⟩
theorem lm_Mo_205 : rx_LV "RuleTextModel" 205 y_Mo_holds M_Mo_holds 2 := ⟨⟨(rx_in (tm_6 (List.mem_of_getElem? (i := 112) rfl)) rfl), (rx_in (tm_1 (List.mem_of_getElem? (i := 16) rfl)) rfl), ⟨by decide +kernel, by decide +kernel⟩, by decide +kernel, by decide, Or.inl (rx_in (tm_6 (List.mem_of_getElem? (i := 109) rfl)) rfl)⟩, (rx_in (tm_6 (List.mem_of_getElem? (i := 111) rfl)) rfl), (rx_inp (by decide +kernel) rfl)⟩
theorem lm_Lw_86 : rx_LV "RuleTextLaw" 86 y_Mo_clash M_Mo_clash 2 := ⟨⟨(rx_in (tm_6 (List.mem_of_getElem? (i := 116) rfl)) rfl), (rx_in (tm_1 (List.mem_of_getElem? (i := 16) rfl)) rfl), ⟨by decide +kernel, by decide +kernel⟩, by decide +kernel, by decide, Or.inl (rx_in (tm_6 (List.mem_of_getElem? (i := 113) rfl)) rfl)⟩, (rx_in (tm_6 (List.mem_of_getElem? (i := 114) rfl)) rfl), (rx_in (tm_6 (List.mem_of_getElem? (i := 115) rfl)) rfl)⟩
theorem lm_Mo_212 : rx_LV "RuleTextModel" 212 y_Mo_isClash M_Mo_isClash 2 := ⟨⟨(rx_in (tm_6 (List.mem_of_getElem? (i := 120) rfl)) rfl), (rx_in (tm_1 (List.mem_of_getElem? (i := 16) rfl)) rfl), ⟨by decide +kernel, by decide +kernel⟩, by decide +kernel, by decide, Or.inl (rx_in (tm_6 (List.mem_of_getElem? (i := 117) rfl)) rfl)⟩, (rx_in (tm_6 (List.mem_of_getElem? (i := 119) rfl)) rfl), (rx_inp (by decide +kernel) rfl)⟩
theorem lm_Lw_89 : rx_LV "RuleTextLaw" 89 y_Mo_line M_Mo_line 1 := ⟨⟨(rx_in (tm_6 (List.mem_of_getElem? (i := 124) rfl)) rfl), (rx_in (tm_1 (List.mem_of_getElem? (i := 16) rfl)) rfl), ⟨by decide +kernel, by decide +kernel⟩, by decide +kernel, by decide, Or.inl (rx_in (tm_6 (List.mem_of_getElem? (i := 121) rfl)) rfl)⟩, (rx_in (tm_6 (List.mem_of_getElem? (i := 122) rfl)) rfl), (rx_in (tm_6 (List.mem_of_getElem? (i := 123) rfl)) rfl)⟩
theorem lm_Lw_93 : rx_LV "RuleTextLaw" 93 y_Mo_kinds M_Mo_kinds 0 := ⟨⟨(rx_in (tm_6 (List.mem_of_getElem? (i := 128) rfl)) rfl), (rx_in (tm_1 (List.mem_of_getElem? (i := 16) rfl)) rfl), ⟨by decide +kernel, by decide +kernel⟩, by decide +kernel, by decide, Or.inl (rx_in (tm_6 (List.mem_of_getElem? (i := 125) rfl)) rfl)⟩, (rx_in (tm_6 (List.mem_of_getElem? (i := 126) rfl)) rfl), (rx_in (tm_6 (List.mem_of_getElem? (i := 127) rfl)) rfl)⟩
theorem lm_Lw_96 : rx_LV "RuleTextLaw" 96 y_Mo_write M_Mo_write 1 := ⟨⟨(rx_in (tm_6 (List.mem_of_getElem? (i := 132) rfl)) rfl), (rx_in (tm_1 (List.mem_of_getElem? (i := 16) rfl)) rfl), ⟨by decide +kernel, by decide +kernel⟩, by decide +kernel, by decide, Or.inl (rx_in (tm_6 (List.mem_of_getElem? (i := 129) rfl)) rfl)⟩, (rx_in (tm_6 (List.mem_of_getElem? (i := 130) rfl)) rfl), (rx_in (tm_6 (List.mem_of_getElem? (i := 131) rfl)) rfl)⟩
theorem lm_Mo_239 : rx_LV "RuleTextModel" 239 y_Mo_sayRule M_Mo_sayRule 1 := ⟨⟨(rx_in (tm_6 (List.mem_of_getElem? (i := 136) rfl)) rfl), (rx_in (tm_1 (List.mem_of_getElem? (i := 16) rfl)) rfl), ⟨by decide +kernel, by decide +kernel⟩, by decide +kernel, by decide, Or.inl (rx_in (tm_6 (List.mem_of_getElem? (i := 133) rfl)) rfl)⟩, (rx_in (tm_6 (List.mem_of_getElem? (i := 135) rfl)) rfl), (rx_inp (by decide +kernel) rfl)⟩
theorem lm_Mo_223 : rx_LV "RuleTextModel" 223 y_Mo_sayWord M_Mo_sayWord 1 := ⟨⟨(rx_in (tm_6 (List.mem_of_getElem? (i := 140) rfl)) rfl), (rx_in (tm_1 (List.mem_of_getElem? (i := 16) rfl)) rfl), ⟨by decide +kernel, by decide +kernel⟩, by decide +kernel, by decide, Or.inl (rx_in (tm_6 (List.mem_of_getElem? (i := 137) rfl)) rfl)⟩, (rx_in (tm_6 (List.mem_of_getElem? (i := 139) rfl)) rfl), (rx_inp (by decide +kernel) rfl)⟩
theorem lm_Mo_218 : rx_LV "RuleTextModel" 218 y_Mo_say M_Mo_say 1 := ⟨⟨(rx_in (tm_6 (List.mem_of_getElem? (i := 144) rfl)) rfl), (rx_in (tm_1 (List.mem_of_getElem? (i := 16) rfl)) rfl), ⟨by decide +kernel, by decide +kernel⟩, by decide +kernel, by decide, Or.inl (rx_in (tm_6 (List.mem_of_getElem? (i := 141) rfl)) rfl)⟩, (rx_in (tm_6 (List.mem_of_getElem? (i := 143) rfl)) rfl), (rx_inp (by decide +kernel) rfl)⟩
theorem lm_Mo_230 : rx_LV "RuleTextModel" 230 y_Mo_sayThing M_Mo_sayThing 1 := ⟨⟨(rx_in (tm_6 (List.mem_of_getElem? (i := 149) rfl)) rfl), (rx_in (tm_1 (List.mem_of_getElem? (i := 16) rfl)) rfl), ⟨by decide +kernel, by decide +kernel⟩, by decide +kernel, by decide, Or.inl (rx_in (tm_6 (List.mem_of_getElem? (i := 146) rfl)) rfl)⟩, (rx_in (tm_6 (List.mem_of_getElem? (i := 148) rfl)) rfl), (rx_inp (by decide +kernel) rfl)⟩
theorem lm_Mo_226 : rx_LV "RuleTextModel" 226 y_Mo_sayName M_Mo_sayName 2 := ⟨⟨(rx_in (tm_6 (List.mem_of_getElem? (i := 153) rfl)) rfl), (rx_in (tm_1 (List.mem_of_getElem? (i := 16) rfl)) rfl), ⟨by decide +kernel, by decide +kernel⟩, by decide +kernel, by decide, Or.inl (rx_in (tm_6 (List.mem_of_getElem? (i := 150) rfl)) rfl)⟩, (rx_in (tm_6 (List.mem_of_getElem? (i := 152) rfl)) rfl), (rx_inp (by decide +kernel) rfl)⟩
theorem lm_Mo_233 : rx_LV "RuleTextModel" 233 y_Mo_sayRest M_Mo_sayRest 1 := ⟨⟨(rx_in (tm_6 (List.mem_of_getElem? (i := 157) rfl)) rfl), (rx_in (tm_1 (List.mem_of_getElem? (i := 16) rfl)) rfl), ⟨by decide +kernel, by decide +kernel⟩, by decide +kernel, by decide, Or.inl (rx_in (tm_6 (List.mem_of_getElem? (i := 154) rfl)) rfl)⟩, (rx_in (tm_6 (List.mem_of_getElem? (i := 156) rfl)) rfl), (rx_inp (by decide +kernel) rfl)⟩
theorem lm_Mo_236 : rx_LV "RuleTextModel" 236 y_Mo_sayNumber M_Mo_sayNumber 1 := ⟨⟨(rx_in (tm_6 (List.mem_of_getElem? (i := 161) rfl)) rfl), (rx_in (tm_1 (List.mem_of_getElem? (i := 16) rfl)) rfl), ⟨by decide +kernel, by decide +kernel⟩, by decide +kernel, by decide, Or.inl (rx_in (tm_6 (List.mem_of_getElem? (i := 158) rfl)) rfl)⟩, (rx_in (tm_6 (List.mem_of_getElem? (i := 160) rfl)) rfl), (rx_inp (by decide +kernel) rfl)⟩
theorem lc_Ru_36 : Cond.constantLong "RuleText$Rule" 36 (-1) ∈ rx_TB := (rx_in (tm_2 (List.mem_of_getElem? (i := 169) rfl)) rfl)
theorem lc_Am_45 : Cond.constantLong "RuleText$Amount" 45 (10) ∈ rx_TB := (rx_in (tm_3 (List.mem_of_getElem? (i := 19) rfl)) rfl)
theorem lc_Rd_223 : Cond.constantLong "RuleText$Reader" 223 (1000000) ∈ rx_TB := (rx_in (tm_3 (List.mem_of_getElem? (i := 20) rfl)) rfl)
theorem lc_Am_47 : Cond.constantLong "RuleText$Amount" 47 (1000000) ∈ rx_TB := (rx_in (tm_3 (List.mem_of_getElem? (i := 25) rfl)) rfl)
theorem lc_Rd_238 : Cond.constantLong "RuleText$Reader" 238 (1000000000000) ∈ rx_TB := (rx_in (tm_3 (List.mem_of_getElem? (i := 41) rfl)) rfl)
theorem lc_Rd_213 : Cond.constantLong "RuleText$Reader" 213 (-1) ∈ rx_TB := (rx_in (tm_3 (List.mem_of_getElem? (i := 42) rfl)) rfl)
theorem lc_Wr_153 : Cond.constantLong "RuleText$Writer" 153 (-1) ∈ rx_TB := (rx_in (tm_5 (List.mem_of_getElem? (i := 90) rfl)) rfl)
theorem lc_Wr_174 : Cond.constantLong "RuleText$Writer" 174 (1000000000000) ∈ rx_TB := (rx_in (tm_5 (List.mem_of_getElem? (i := 97) rfl)) rfl)
theorem lc_Wr_176 : Cond.constantLong "RuleText$Writer" 176 (48) ∈ rx_TB := (rx_in (tm_5 (List.mem_of_getElem? (i := 98) rfl)) rfl)
theorem lc_Wr_178 : Cond.constantLong "RuleText$Writer" 178 (10) ∈ rx_TB := (rx_in (tm_5 (List.mem_of_getElem? (i := 99) rfl)) rfl)
theorem lc_Mo_66 : Cond.constantLong "RuleTextModel" 66 (-1) ∈ rx_TB := (rx_in (tm_5 (List.mem_of_getElem? (i := 232) rfl)) rfl)
theorem lc_Mo_95 : Cond.constantLong "RuleTextModel" 95 (1497) ∈ rx_TB := (rx_in (tm_6 (List.mem_of_getElem? (i := 15) rfl)) rfl)
theorem lc_Mo_168 : Cond.constantLong "RuleTextModel" 168 (1476) ∈ rx_TB := (rx_in (tm_6 (List.mem_of_getElem? (i := 20) rfl)) rfl)
theorem lc_Mo_170 : Cond.constantLong "RuleTextModel" 170 (486) ∈ rx_TB := (rx_in (tm_6 (List.mem_of_getElem? (i := 21) rfl)) rfl)
theorem lc_Mo_104 : Cond.constantLong "RuleTextModel" 104 (494) ∈ rx_TB := (rx_in (tm_6 (List.mem_of_getElem? (i := 26) rfl)) rfl)
theorem lc_Mo_106 : Cond.constantLong "RuleTextModel" 106 (2) ∈ rx_TB := (rx_in (tm_6 (List.mem_of_getElem? (i := 27) rfl)) rfl)
theorem lc_Mo_108 : Cond.constantLong "RuleTextModel" 108 (3) ∈ rx_TB := (rx_in (tm_6 (List.mem_of_getElem? (i := 28) rfl)) rfl)
theorem lc_Mo_175 : Cond.constantLong "RuleTextModel" 175 (302) ∈ rx_TB := (rx_in (tm_6 (List.mem_of_getElem? (i := 33) rfl)) rfl)
theorem lc_Mo_114 : Cond.constantLong "RuleTextModel" 114 (10) ∈ rx_TB := (rx_in (tm_6 (List.mem_of_getElem? (i := 46) rfl)) rfl)
theorem lc_Mo_116 : Cond.constantLong "RuleTextModel" 116 (48) ∈ rx_TB := (rx_in (tm_6 (List.mem_of_getElem? (i := 47) rfl)) rfl)
theorem lc_Mo_135 : Cond.constantLong "RuleTextModel" 135 (5) ∈ rx_TB := (rx_in (tm_6 (List.mem_of_getElem? (i := 56) rfl)) rfl)
theorem lc_Mo_137 : Cond.constantLong "RuleTextModel" 137 (9) ∈ rx_TB := (rx_in (tm_6 (List.mem_of_getElem? (i := 57) rfl)) rfl)
theorem lc_Mo_127 : Cond.constantLong "RuleTextModel" 127 (1000000) ∈ rx_TB := (rx_in (tm_6 (List.mem_of_getElem? (i := 58) rfl)) rfl)
theorem lc_Mo_133 : Cond.constantLong "RuleTextModel" 133 (1000000000000) ∈ rx_TB := (rx_in (tm_6 (List.mem_of_getElem? (i := 59) rfl)) rfl)
theorem lc_Mo_149 : Cond.constantLong "RuleTextModel" 149 (655) ∈ rx_TB := (rx_in (tm_6 (List.mem_of_getElem? (i := 60) rfl)) rfl)
theorem lc_Mo_125 : Cond.constantLong "RuleTextModel" 125 (1000) ∈ rx_TB := (rx_in (tm_6 (List.mem_of_getElem? (i := 65) rfl)) rfl)
theorem lc_Mo_129 : Cond.constantLong "RuleTextModel" 129 (25400) ∈ rx_TB := (rx_in (tm_6 (List.mem_of_getElem? (i := 66) rfl)) rfl)
theorem lc_Mo_131 : Cond.constantLong "RuleTextModel" 131 (25400000) ∈ rx_TB := (rx_in (tm_6 (List.mem_of_getElem? (i := 67) rfl)) rfl)
theorem lc_Mo_195 : Cond.constantLong "RuleTextModel" 195 (12) ∈ rx_TB := (rx_in (tm_6 (List.mem_of_getElem? (i := 96) rfl)) rfl)
theorem lc_Mo_221 : Cond.constantLong "RuleTextModel" 221 (31) ∈ rx_TB := (rx_in (tm_6 (List.mem_of_getElem? (i := 145) rfl)) rfl)
theorem lc_Lw_74 : Cond.constantLong "RuleTextLaw" 74 (4294967295) ∈ rx_TB := (rx_in (tm_6 (List.mem_of_getElem? (i := 162) rfl)) rfl)
end
section
/-! ROWS OF THE LAYER: what stands from the start; Object's constructor; arrays of rules -/
section
variable {M : rx_M} {d mc ms pc : Nat} {lo : List (Nat × Value)} {st : List Value} {σ : rx_S} {nx : Nat} {ct : Nat → Nat × Nat} {mi : Nat → Nat → Int32} {ml : Nat → Nat → Int64} {mr : Nat → Nat → Option Nat} {post : rx_End}
theorem rx_obj1 : Cond.instanceMethod Lib.objectInit ∈ rx_TB := rx_in (tm_1 (List.mem_of_getElem? (i := 36) rfl)) rfl
theorem rx_obj2 : Cond.code Lib.objectInit ⟨#[0xb1]⟩ 1 none ∈ rx_TB := rx_in (tm_1 (List.mem_of_getElem? (i := 37) rfl)) rfl
theorem ru_objInit {ix r : Nat} (hd : decode M.2.1 pc = .ok (.invokespecial ix, 3)) (hw : Cond.methodLink M.1 ix Lib.objectInit ∈ rx_TB) (hdd : 1 ≤ d) (hcat : (st.map fun v => v.category).sum ≤ 8) (k : rx_W M d mc ms (pc + 3) lo st σ post) : rx_W M d mc ms pc lo (.ref r :: st) σ post := by
  intro l ev p e s m args below meth c C R H locs cells slots mt sst ls A
  have hts := C.2.2.2.2.1
  refine W.objInit C.1 C.2.1 C.2.2.2.1 (hts _ hw) (hts _ rx_obj1) (hts _ rx_obj2) rfl (by rw [C.2.2.1]; exact A.2.2.2.1.1) (a := rx_ea ev r) (rest := st.map (rx_tv ev)) rfl hd (by have := A.1; omega) ?_ (k l ev p e s m args below meth c C R H locs cells slots mt sst ls A)
  have h1 : 2 * (F0 m pc ls ((Value.ref r :: st).map (rx_tv ev))).monitorRoom + ((st.map (rx_tv ev)).map fun v => v.category).sum ≤ 8 := lv_room (by rw [rx_cats]; exact hcat)
  have h2 := A.2.1
  omega
theorem rx_low {ev : rx_E} {M : rx_M} {lo : List (Nat × Value)} {R : Room} {H : Heap} {locs : List Loc} {cells slots mt sst : Nat} {ls : Array Slot} (A : rx_at ev M d mc ms lo σ R H locs cells slots mt sst ls) : ∀ a : Nat, a < ev.2.2.2.1.size → ¬ rx_A ev a → H[a]? = ev.2.2.2.1[a]? := fun a ha _ => A.2.2.1.2.2.1 a ha
/-- a static of the start -/
theorem ru_gets {ix : Nat} {Cn n dd : String} {v : Value} (hd : decode M.2.1 pc = .ok (.getstatic ix, 3)) (hw : Cond.fieldLink M.1 ix Cn n dd ∈ rx_TB ∨ ∃ host, Cond.fieldLinkNest M.1 ix Cn n dd host ∈ rx_NB) (hq : (Cn, n, dd, v) ∈ rx_ST) (k : rx_W M d mc ms (pc + 3) lo (v :: st) σ post) : rx_W M d mc ms pc lo st σ post := by
  intro l ev p e s m args below meth c C R H locs cells slots mt sst ls A
  have hOk := C.2.2.2.2.2.2.2.2.1
  obtain ⟨cf, kf, fi, f, a, cell, h1, h2, h3, h4, h5, h6, h7, h8⟩ := (hOk.2.2.1 _ hq).kept (rx_low A)
  have K := k l ev p e s m args below meth c C R H locs cells slots mt sst ls A
  have hkn : cell.vm ≠ .unknown := fun e => by rw [e] at h6; cases h6
  rcases hw with w | ⟨host, w⟩
  · exact W.gets C.1 C.2.1 C.2.2.2.1 (C.2.2.2.2.1 _ w) h1 h2 h3 h4 h5 hkn h7 rfl hd K
  · exact va_WgetsN C.1 C.2.1 C.2.2.2.1 (va_Nw.use rfl (hOk.2.1 _ w)) h1 h2 h3 h4 h5 hkn h7 rfl hd K
/-- a field of an object of the start -/
theorem ru_getO {ix r : Nat} {o n dd : String} {v : Value} (hd : decode M.2.1 pc = .ok (.getfield ix, 3)) (hw : Cond.fieldLink M.1 ix o n dd ∈ rx_TB) (hq : ∀ ev U, rx_Ext ev U → va_OF o n dd (rx_tv ev v) (rx_ea ev r) (rx_A ev) U ev.2.2.2.1) (k : rx_W M d mc ms (pc + 3) lo (v :: st) σ post) : rx_W M d mc ms pc lo (.ref r :: st) σ post := by
  intro l ev p e s m args below meth c C R H locs cells slots mt sst ls A
  have hOk := C.2.2.2.2.2.2.2.2.1
  obtain ⟨cf, kk, fi, f, cell, h1, h2, h3, h4, h5, h6⟩ := (hq ev s hOk.2.2).kept (rx_low A)
  exact W.getf C.1 C.2.1 C.2.2.2.1 (C.2.2.2.2.1 _ hw) h1 h2 h3 h4 (v := rx_tv ev v) h5 rfl rfl hd (k l ev p e s m args below meth c C R H locs cells slots mt sst ls A)
/-- a place of a table of references -/
theorem ru_taa {r N i : Nat} {Cn : String} {f : Nat → Nat} (hd : decode M.2.1 pc = .ok (.aaload, 1)) (hq : ∀ ev U, rx_Ext ev U → va_T (.object Cn) (rx_ea ev r) N (fun j => .ref (rx_ea ev (f j))) (rx_A ev) U ev.2.2.2.1) (hi : i < N) (hN : N < 2 ^ 31) (k : rx_W M d mc ms (pc + 1) lo (.ref (f i) :: st) σ post) : rx_W M d mc ms pc lo (.int (nI i) :: .ref r :: st) σ post := by
  intro l ev p e s m args below meth c C R H locs cells slots mt sst ls A
  have hOk := C.2.2.2.2.2.2.2.2.1
  obtain ⟨cell, h1, h2, h3, h4, h5, h6, h7⟩ := (hq ev s hOk.2.2).kept (rx_low A)
  have hc : (nI i).toNatClampNeg = i := nI_clamp (by omega)
  exact W.aald (v := .ref (rx_ea ev (f i))) (ty := .object Cn) C.1 C.2.1 h1 h2 rfl h3 (by rw [hc]; intro q; rcases q with q | q; exact nI_pos (by omega) q; omega) (by rw [hc]; exact h6 i hi) rfl rfl hd (k l ev p e s m args below meth c C R H locs cells slots mt sst ls A)
theorem ru_tb {r N i : Nat} {f : Nat → Int32} (hd : decode M.2.1 pc = .ok (.baload, 1)) (hq : ∀ ev U, rx_Ext ev U → va_T .byte (rx_ea ev r) N (fun j => .int (f j)) (rx_A ev) U ev.2.2.2.1) (hi : i < N) (hN : N < 2 ^ 31) (k : rx_W M d mc ms (pc + 1) lo (.int (f i) :: st) σ post) : rx_W M d mc ms pc lo (.int (nI i) :: .ref r :: st) σ post := by
  intro l ev p e s m args below meth c C R H locs cells slots mt sst ls A
  have hOk := C.2.2.2.2.2.2.2.2.1
  obtain ⟨cell, h1, h2, h3, h4, h5, h6, h7⟩ := (hq ev s hOk.2.2).kept (rx_low A)
  have hc : (nI i).toNatClampNeg = i := nI_clamp (by omega)
  exact W.bald (v := .int (f i)) C.1 C.2.1 h1 h2 h3 (by rw [hc]; intro q; rcases q with q | q; exact nI_pos (by omega) q; omega) (by rw [hc]; exact h6 i hi) rfl rfl hd (k l ev p e s m args below meth c C R H locs cells slots mt sst ls A)
theorem ru_tlen {r N : Nat} {ty : FieldType} {f : rx_E → Nat → Value} (hd : decode M.2.1 pc = .ok (.arraylength, 1)) (hq : ∀ ev U, rx_Ext ev U → va_T ty (rx_ea ev r) N (f ev) (rx_A ev) U ev.2.2.2.1) (k : rx_W M d mc ms (pc + 1) lo (.int (nI N) :: st) σ post) : rx_W M d mc ms pc lo (.ref r :: st) σ post := by
  intro l ev p e s m args below meth c C R H locs cells slots mt sst ls A
  have hOk := C.2.2.2.2.2.2.2.2.1
  obtain ⟨cell, h1, h2, h3, h4, h5, h6, h7⟩ := (hq ev s hOk.2.2).kept (rx_low A)
  exact W.alen (n := nI N) C.1 C.2.1 h1 h2 h5 rfl rfl hd (k l ev p e s m args below meth c C R H locs cells slots mt sst ls A)
/-- a text -/
theorem ru_ldcS {ix r : Nat} {tx : String} (hd : decode M.2.1 pc = .ok (.ldc ix, 2)) (hq : (M.1, ix, tx, r) ∈ rx_SR) (k : rx_W M d mc ms (pc + 2) lo (.ref r :: st) σ post) : rx_W M d mc ms pc lo st σ post := by
  intro l ev p e s m args below meth c C R H locs cells slots mt sst ls A
  exact va_ldcS C.1 C.2.1 C.2.2.2.1 (C.2.2.2.2.2.2.2.2.1.2.2.2.2.2.2.2.2.2.2.1 _ hq) hd (k l ev p e s m args below meth c C R H locs cells slots mt sst ls A)
/-- two constants, compared -/
theorem ru_acmp_eq {a b : Nat} {off : Int} {tgt : Nat} (hd : decode M.2.1 pc = .ok (.if_acmp .eq off, 3)) (ht : (pc : Int) + off = (tgt : Int)) (ha : 1 ≤ a ∧ a ≤ 18) (hb : 1 ≤ b ∧ b ≤ 18) (kt : a = b → rx_W M d mc ms tgt lo st σ post) (kf : ¬ a = b → rx_W M d mc ms (pc + 3) lo st σ post) : rx_W M d mc ms pc lo (.ref b :: .ref a :: st) σ post := by
  intro l ev p e s m args below meth c C R H locs cells slots mt sst ls A
  have hinj := C.2.2.2.2.2.2.2.2.1.2.2.2.2.2.2.2.2.2.2.2.2.2.1 a b ha.1 ha.2 hb.1 hb.2
  exact lv_acmp_eq (rx := some (rx_ea ev a)) (ry := some (rx_ea ev b)) C.1 C.2.1 hd ht (fun h => kt (hinj (Option.some.inj h)) l ev p e s m args below meth c C R H locs cells slots mt sst ls A) (fun h => kf (fun q => h (by rw [q])) l ev p e s m args below meth c C R H locs cells slots mt sst ls A)
theorem ru_acmp_ne {a b : Nat} {off : Int} {tgt : Nat} (hd : decode M.2.1 pc = .ok (.if_acmp .ne off, 3)) (ht : (pc : Int) + off = (tgt : Int)) (ha : 1 ≤ a ∧ a ≤ 18) (hb : 1 ≤ b ∧ b ≤ 18) (kt : ¬ a = b → rx_W M d mc ms tgt lo st σ post) (kf : a = b → rx_W M d mc ms (pc + 3) lo st σ post) : rx_W M d mc ms pc lo (.ref b :: .ref a :: st) σ post := by
  intro l ev p e s m args below meth c C R H locs cells slots mt sst ls A
  have hinj := C.2.2.2.2.2.2.2.2.1.2.2.2.2.2.2.2.2.2.2.2.2.2.1 a b ha.1 ha.2 hb.1 hb.2
  exact lv_acmp_ne (rx := some (rx_ea ev a)) (ry := some (rx_ea ev b)) C.1 C.2.1 hd ht (fun h => kt (fun q => h (by rw [q])) l ev p e s m args below meth c C R H locs cells slots mt sst ls A) (fun h => kf (hinj (Option.some.inj h)) l ev p e s m args below meth c C R H locs cells slots mt sst ls A)
/-- the script -/
theorem ru_sld {L i : Nat} (hd : decode M.2.1 pc = .ok (.iaload, 1)) (hL : ct 0 = (100, L)) (hi : i < L) (hN : L < 2 ^ 31) (k : rx_W M d mc ms (pc + 1) lo (.int (mi 0 i) :: st) (nx, ct, mi, ml, mr) post) : rx_W M d mc ms pc lo (.int (nI i) :: .ref 0 :: st) (nx, ct, mi, ml, mr) post := by
  intro l ev p e s m args below meth c C R H locs cells slots mt sst ls A
  have hOk := C.2.2.2.2.2.2.2.2.1
  obtain ⟨scr, h1, h2, h3, h4, h5⟩ := hOk.2.2.2.2.2.2.2.2.2.2.2.1
  have hb := hOk.2.2.2.2.2.2.2.2.2.2.2.2.1
  obtain ⟨z1, z2⟩ := A.2.2.1.2.2.2.2
  have eL : L = ev.2.2.2.2.1 := congrArg Prod.snd (hL.symm.trans z1)
  subst eL
  have hc : (nI i).toNatClampNeg = i := nI_clamp (by omega)
  have hv : mi 0 i = ev.2.2.2.2.2 i := z2 i hi
  exact W.iald (v := .int (mi 0 i)) C.1 C.2.1 (by rw [A.2.2.1.2.2.1 _ hb]; exact h1) h2 h3 (by rw [hc]; intro q; rcases q with q | q; exact nI_pos (by omega) q; omega) (by rw [hc, hv]; exact h5 i hi) rfl rfl hd (k l ev p e s m args below meth c C R H locs cells slots mt sst ls A)
theorem ru_slen {L : Nat} (hd : decode M.2.1 pc = .ok (.arraylength, 1)) (hL : ct 0 = (100, L)) (k : rx_W M d mc ms (pc + 1) lo (.int (nI L) :: st) (nx, ct, mi, ml, mr) post) : rx_W M d mc ms pc lo (.ref 0 :: st) (nx, ct, mi, ml, mr) post := by
  intro l ev p e s m args below meth c C R H locs cells slots mt sst ls A
  have hOk := C.2.2.2.2.2.2.2.2.1
  obtain ⟨scr, h1, h2, h3, h4, h5⟩ := hOk.2.2.2.2.2.2.2.2.2.2.2.1
  have hb := hOk.2.2.2.2.2.2.2.2.2.2.2.2.1
  obtain ⟨z1, z2⟩ := A.2.2.1.2.2.2.2
  have eL : L = ev.2.2.2.2.1 := congrArg Prod.snd (hL.symm.trans z1)
  subst eL
  exact W.alen (n := nI _) C.1 C.2.1 (by rw [A.2.2.1.2.2.1 _ hb]; exact h1) h2 (by rw [h4]; rfl) rfl rfl hd (k l ev p e s m args below meth c C R H locs cells slots mt sst ls A)
/-- arrays of rules -/
theorem ru_newq {ix N : Nat} {n : Int32} (hd : decode M.2.1 pc = .ok (.anewarray ix, 3)) (hw : Cond.classLink M.1 ix "RuleText$Rule" ∈ rx_TB) (hn : ¬ n < 0) (hN : n.toNatClampNeg = N) (hb : N * 4 ≤ 536870912) (kk : rx_W M d mc ms (pc + 3) lo (.ref nx :: st) (rx_new nx ct mi ml mr 105 N) post) : rx_W M d (mc + 1) (ms + N) pc lo (.int n :: st) (nx, ct, mi, ml, mr) post := by
  intro l ev p e s m args below meth c C R H locs cells slots mt sst ls A
  subst hN
  obtain ⟨a1, a2, a3, a4, a5, a6, a7, a8, a9⟩ := A
  have hts := C.2.2.2.2.1
  have hea : rx_ea ev nx = H.size := a3.new
  refine W.anew C.1 C.2.1 C.2.2.2.1 (hts _ hw) (va_AO.use C.2.2.2.2.2.2.2.2.1.2.2.2.2.2.2.2.2.2.2.2.2.2.2.1) rfl hd rfl hn hb (by omega) (by omega) fun cA kA comp f1 f2 f3 f4 => ?_
  obtain ⟨kA', comp', g1, g2, g3, g4⟩ := (C.2.2.2.2.2.2.2.2.1.1.2 5 _ rfl).2
  have hcA : cA = ev.2.1 105 := Option.some.inj (f1.symm.trans g4)
  subst hcA
  generalize hH1 : H.push ({ cls := ev.2.1 105, slots := Array.replicate n.toNatClampNeg .null, vm := .none } : Cell) = H1
  have z1 : H1.size = H.size + 1 := by rw [← hH1, Array.size_push]
  have o1 : ∀ q : Nat, q < H.size → H1[q]? = H[q]? := fun q hq => by rw [← hH1, Array.getElem?_push, if_neg (Nat.ne_of_lt hq)]
  have e1 : H1[H.size]? = some (arrV (ev.2.1 105) n.toNatClampNeg (fun _ => .null)) := by rw [← hH1, ← arrV_new]; simp
  have K := kk l ev p e s m args below meth c C R H1 locs (cells + 1) (slots + n.toNatClampNeg) mt sst ls ⟨a1, a2, ?_, a4, a5, by omega, by omega, a8, a9⟩
  · rw [List.map_cons, show rx_tv ev (.ref nx) = .ref H.size by rw [← hea]; rfl] at K
    exact K
  · refine a3.grow rfl z1 o1 (fun x hx => ⟨va_up_ne _ _ hx, va_up_ne _ _ hx, va_up_ne _ _ hx, va_up_ne _ _ hx⟩) ⟨fun ci' n' e' h9 => ?_, fun tg' n' e' h9 => ?_, ⟨_, by show H1[rx_ea ev nx]? = _; rw [hea]; exact e1, rfl⟩⟩
    · have e2 : (105, n.toNatClampNeg) = (ci', n') := (va_up_self ct nx (105, n.toNatClampNeg)).symm.trans e'
      cases e2
      omega
    · have e2 : (105, n.toNatClampNeg) = (tg', n') := (va_up_self ct nx (105, n.toNatClampNeg)).symm.trans e'
      cases e2
      show H1[rx_ea ev nx]? = some (vp_cell _ (_, rx_con ev _ _ _ 105 nx))
      rw [hea, e1]
      show _ = some (arrV _ _ (fun j => va_rf ((va_up mr nx (fun _ => none) nx j).map (rx_ea ev))))
      simp [va_up, va_rf]
theorem ru_astq {r n q j nn : Nat} (hd : decode M.2.1 pc = .ok (.aastore, 1)) (hi : rx_is (nx, ct, mi, ml, mr) r 105 n) (hq : rx_is (nx, ct, mi, ml, mr) q 4 nn) (hj : j < n) (hn : n < 2 ^ 31) (kk : rx_W M d mc ms (pc + 1) lo st (nx, ct, mi, ml, rx_u mr r j (some q)) post) : rx_W M d mc ms pc lo (.ref q :: .int (nI j) :: .ref r :: st) (nx, ct, mi, ml, mr) post := by
  intro l ev p e s m args below meth c C R H locs cells slots mt sst ls A
  have hP : H[rx_ea ev r]? = some (vp_cell (ev.2.1 105) (n, .inr (.inr (.inr (.inr (fun i => (mr r i).map (rx_ea ev))))))) := A.2.2.1.ar hi (by decide)
  obtain ⟨cellV, g1, g2, g3, -⟩ := A.2.2.1.ob hq kx_Ru
  have hK := C.2.2.2.2.2.2.2.2.1.1
  have hcls := (hK.1 4 _ rfl).2
  obtain ⟨kA, comp, k1, k2, k3, -⟩ := (hK.2 5 _ rfl).2
  have hcomp : comp = ev.1.1 4 := Option.some.inj (k3.symm.trans hcls.1)
  subst hcomp
  obtain ⟨kC, hkC, -⟩ := hcls.2
  have hc : (nI j).toNatClampNeg = j := nI_clamp (by omega)
  refine W.aast C.1 C.2.1 hP (fun q h => by cases h) (fun h => by cases h) k1 k2 rfl hkC ⟨nI_pos (by omega), by rw [hc]; show _ < (arrV _ _ _).slots.size; rw [arrV_size]; exact hj⟩ g1 (fun q h => by rw [g3] at h; cases h) (by rw [g2]; exact hkC) (by rw [g2]; exact va_assign hcls) rfl rfl hd fun H1 e1 z1 o1 => ?_
  refine kk l ev p e s m args below meth c C R H1 _ cells slots mt sst ls ?_
  obtain ⟨a1, a2, a3, a4, a5, a6⟩ := A
  refine ⟨a1, a2, ?_, a4, t_lc a5 (by rw [rx_ea_in hi.1]; omega), a6⟩
  refine a3.upd (r := r) hi.1 hi.2.1 rfl z1 o1 (fun q hq => ⟨rfl, rfl, rfl, rx_u_r _ _ hq⟩) ⟨fun ci' n' e' h9 => ?_, fun tg n' e' _ => ?_, ⟨_, e1, rfl⟩⟩
  · have e2 : ci' = 105 := congrArg Prod.fst (e'.symm.trans hi.2.2)
    omega
  · have e2 : (105, n) = (tg, n') := hi.2.2.symm.trans e'
    cases e2
    rw [e1]
    show some _ = some (vp_cell _ (n, .inr (.inr (.inr (.inr (fun i => (rx_u mr r j (some q) r i).map (rx_ea ev)))))))
    rw [vp_cell_q, vp_cell_q, arrV_store, hc]
    congr 2
    funext x
    by_cases hx : x = j
    · subst hx
      rw [rx_u_same]
      simp [updV, va_rf]
    · rw [rx_u_k _ _ hx]
      simp [updV, hx]
end
end
section
/-! THE LAYOUT: the cells of the class (256 to 397), of the reference (398 to 407), of the law (408) -/
def ct0 (r : Nat) : Nat × Nat := ([(0, 0), (2, 0), (101, 384), (100, 48), (6, 0), (102, 16), (104, 16), (104, 16), (104, 16), (104, 16), (7, 0), (101, 3000), (3, 0), (1, 0), (1, 0), (8, 0), (10, 0), (103, 16), (5, 0), (105, 60), (4, 0), (4, 0), (4, 0), (4, 0), (4, 0), (4, 0), (4, 0), (4, 0), (4, 0), (4, 0), (4, 0), (4, 0), (4, 0), (4, 0), (4, 0), (4, 0), (4, 0), (4, 0), (4, 0), (4, 0), (4, 0), (4, 0), (4, 0), (4, 0), (4, 0), (4, 0), (4, 0), (4, 0), (4, 0), (4, 0), (4, 0), (4, 0), (4, 0), (4, 0), (4, 0), (4, 0), (4, 0), (4, 0), (4, 0), (4, 0), (4, 0), (4, 0), (4, 0), (4, 0), (4, 0), (4, 0), (4, 0), (4, 0), (4, 0), (4, 0), (4, 0), (4, 0), (4, 0), (4, 0), (4, 0), (4, 0), (4, 0), (4, 0), (4, 0), (4, 0), (5, 0), (105, 60), (4, 0), (4, 0), (4, 0), (4, 0), (4, 0), (4, 0), (4, 0), (4, 0), (4, 0), (4, 0), (4, 0), (4, 0), (4, 0), (4, 0), (4, 0), (4, 0), (4, 0), (4, 0), (4, 0), (4, 0), (4, 0), (4, 0), (4, 0), (4, 0), (4, 0), (4, 0), (4, 0), (4, 0), (4, 0), (4, 0), (4, 0), (4, 0), (4, 0), (4, 0), (4, 0), (4, 0), (4, 0), (4, 0), (4, 0), (4, 0), (4, 0), (4, 0), (4, 0), (4, 0), (4, 0), (4, 0), (4, 0), (4, 0), (4, 0), (4, 0), (4, 0), (4, 0), (4, 0), (4, 0), (4, 0), (4, 0), (4, 0), (4, 0), (4, 0), (4, 0), (9, 0), (100, 3000), (100, 48), (100, 384), (102, 16), (104, 64), (104, 1440), (100, 3001), (100, 3001), (100, 9000), (104, 1)] : List (Nat × Nat)).getD (r - 256) (0, 0)
def fixR : List (Nat × Nat × Nat) := [(256, 0, 257), (256, 1, 260), (256, 2, 266), (256, 3, 268), (256, 4, 271), (257, 0, 258), (257, 1, 259), (260, 0, 261), (260, 1, 262), (260, 2, 263), (260, 3, 264), (260, 4, 265), (266, 0, 267), (268, 0, 266), (268, 1, 257), (268, 2, 269), (268, 3, 270), (271, 0, 272), (271, 1, 257), (274, 0, 275), (336, 0, 337), (398, 1, 399), (398, 3, 400), (398, 4, 401), (398, 5, 402), (398, 6, 403), (398, 8, 404), (398, 10, 405), (398, 11, 406), (398, 15, 407)]
def LAY (nx : Nat) (ct : Nat → Nat × Nat) (mr : Nat → Nat → Option Nat) : Prop := 409 ≤ nx ∧ (∀ r, 256 ≤ r → r < 409 → ct r = ct0 r) ∧ (∀ q ∈ fixR, mr q.1 q.2.1 = some q.2.2) ∧ ∀ i, i < 60 → mr 275 i = some (276 + i) ∧ mr 337 i = some (338 + i)
theorem ly {nx : Nat} {ct : Nat → Nat × Nat} {mi : Nat → Nat → Int32} {ml : Nat → Nat → Int64} {mr mr' : Nat → Nat → Option Nat} (hL : LAY nx ct mr) (r t n : Nat) (h : (256 ≤ r ∧ r < 409) ∧ ct0 r = (t, n) := by decide) : rx_is (nx, ct, mi, ml, mr') r t n := by
  have h1 := hL.1
  exact ⟨h.1.1, by show r < nx; omega, (hL.2.1 r h.1.1 h.1.2).trans h.2⟩
theorem lr {nx : Nat} {ct : Nat → Nat × Nat} {mr : Nat → Nat → Option Nat} (hL : LAY nx ct mr) (r k v : Nat) (h : (r, k, v) ∈ fixR := by decide) : mr r k = some v := hL.2.2.1 _ h
/-- a rule's cell -/
def isRu (r : Nat) : Prop := (276 ≤ r ∧ r < 336) ∨ (338 ≤ r ∧ r < 398)
theorem ct0_ru : ∀ i, i < 60 → ct0 (276 + i) = (4, 0) ∧ ct0 (338 + i) = (4, 0) := by decide +kernel
theorem ly_ru {nx : Nat} {ct : Nat → Nat × Nat} {mi : Nat → Nat → Int32} {ml : Nat → Nat → Int64} {mr mr' : Nat → Nat → Option Nat} (hL : LAY nx ct mr) {r : Nat} (h : isRu r) : rx_is (nx, ct, mi, ml, mr') r 4 0 := by
  have h1 := hL.1
  have e : ct0 r = (4, 0) := by
    rcases h with h | h
    · have := (ct0_ru (r - 276) (by omega)).1
      rwa [show 276 + (r - 276) = r by omega] at this
    · have := (ct0_ru (r - 338) (by omega)).2
      rwa [show 338 + (r - 338) = r by omega] at this
  have hb : 256 ≤ r ∧ r < 409 := by unfold isRu at h; omega
  exact ⟨hb.1, by show r < nx; omega, (hL.2.1 r hb.1 hb.2).trans e⟩
/-- what is no fixed reference may be written -/
theorem LAY.put {nx : Nat} {ct : Nat → Nat × Nat} {mr : Nat → Nat → Option Nat} (hL : LAY nx ct mr) {r k : Nat} (v : Option Nat) (h : (∀ q ∈ fixR, ¬ (q.1 = r ∧ q.2.1 = k)) ∧ r ≠ 275 ∧ r ≠ 337) : LAY nx ct (rx_u mr r k v) := by
  obtain ⟨h1, h2, h3, h4⟩ := hL
  refine ⟨h1, h2, fun q hq => ?_, fun i hi => ⟨?_, ?_⟩⟩
  · by_cases e : q.1 = r
    · by_cases e2 : q.2.1 = k
      · exact absurd ⟨e, e2⟩ (h.1 q hq)
      · rw [← h3 q hq, e, rx_u_k _ _ e2]
    · rw [rx_u_r _ _ e]
      exact h3 q hq
  · rw [rx_u_r _ _ (Ne.symm h.2.1)]
    exact (h4 i hi).1
  · rw [rx_u_r _ _ (Ne.symm h.2.2)]
    exact (h4 i hi).2
theorem fixR_lt : ∀ q ∈ fixR, (q.1 < 276 ∨ 336 ≤ q.1) ∧ (q.1 < 338 ∨ 398 ≤ q.1) := by decide +kernel
theorem LAY.ru {nx : Nat} {ct : Nat → Nat × Nat} {mr : Nat → Nat → Option Nat} (hL : LAY nx ct mr) {r k : Nat} (v : Option Nat) (h : isRu r) : LAY nx ct (rx_u mr r k v) := by
  refine hL.put v ⟨fun q hq e => ?_, ?_, ?_⟩
  · have := fixR_lt q hq
    unfold isRu at h
    omega
  · unfold isRu at h; omega
  · unfold isRu at h; omega
theorem LAY.grow {nx : Nat} {ct : Nat → Nat × Nat} {mr : Nat → Nat → Option Nat} (hL : LAY nx ct mr) (t n : Nat) (f : Nat → Option Nat) : LAY (nx + 1) (va_up ct nx (t, n)) (va_up mr nx f) := by
  obtain ⟨h1, h2, h3, h4⟩ := hL
  have hq : ∀ q ∈ fixR, q.1 < 409 := by decide +kernel
  refine ⟨by omega, fun r a b => ?_, fun q h => ?_, fun i hi => ⟨?_, ?_⟩⟩
  · rw [va_up_ne _ _ (by omega)]
    exact h2 r a b
  · have := hq q h
    rw [va_up_ne _ _ (by omega)]
    exact h3 q h
  · rw [va_up_ne _ _ (by omega)]
    exact (h4 i hi).1
  · rw [va_up_ne _ _ (by omega)]
    exact (h4 i hi).2
/-- small numbers, as omega reads them -/
theorem il {x y : Int32} : x < y ↔ x.toInt < y.toInt := Int32.lt_iff_toInt_lt
theorem ie {x y : Int32} : x ≤ y ↔ x.toInt ≤ y.toInt := Int32.le_iff_toInt_le
theorem iq {x y : Int32} : x = y ↔ x.toInt = y.toInt := Int32.toInt_inj.symm
theorem i_m2 : ((-2) : Int32).toInt = -2 := by decide
theorem i_m1 : ((-1) : Int32).toInt = -1 := by decide
theorem i_0 : ((0) : Int32).toInt = 0 := by decide
theorem i_1 : ((1) : Int32).toInt = 1 := by decide
theorem i_2 : ((2) : Int32).toInt = 2 := by decide
theorem i_3 : ((3) : Int32).toInt = 3 := by decide
theorem i_4 : ((4) : Int32).toInt = 4 := by decide
theorem i_5 : ((5) : Int32).toInt = 5 := by decide
theorem i_6 : ((6) : Int32).toInt = 6 := by decide
theorem i_7 : ((7) : Int32).toInt = 7 := by decide
theorem i_8 : ((8) : Int32).toInt = 8 := by decide
theorem i_9 : ((9) : Int32).toInt = 9 := by decide
theorem i_10 : ((10) : Int32).toInt = 10 := by decide
theorem i_11 : ((11) : Int32).toInt = 11 := by decide
theorem i_12 : ((12) : Int32).toInt = 12 := by decide
theorem i_15 : ((15) : Int32).toInt = 15 := by decide
theorem i_16 : ((16) : Int32).toInt = 16 := by decide
theorem i_26 : ((26) : Int32).toInt = 26 := by decide
theorem i_32 : ((32) : Int32).toInt = 32 := by decide
theorem i_46 : ((46) : Int32).toInt = 46 := by decide
theorem i_48 : ((48) : Int32).toInt = 48 := by decide
theorem i_57 : ((57) : Int32).toInt = 57 := by decide
theorem i_58 : ((58) : Int32).toInt = 58 := by decide
theorem i_59 : ((59) : Int32).toInt = 59 := by decide
theorem i_60 : ((60) : Int32).toInt = 60 := by decide
theorem i_62 : ((62) : Int32).toInt = 62 := by decide
theorem i_90 : ((90) : Int32).toInt = 90 := by decide
theorem i_96 : ((96) : Int32).toInt = 96 := by decide
theorem i_97 : ((97) : Int32).toInt = 97 := by decide
theorem i_122 : ((122) : Int32).toInt = 122 := by decide
theorem i_123 : ((123) : Int32).toInt = 123 := by decide
theorem i_255 : ((255) : Int32).toInt = 255 := by decide
theorem i_384 : ((384) : Int32).toInt = 384 := by decide
theorem i_3000 : ((3000) : Int32).toInt = 3000 := by decide
theorem i_1000000 : ((1000000) : Int32).toInt = 1000000 := by decide
theorem ru_to {M : rx_M} {d mc ms pc : Nat} {lo lo' : List (Nat × Value)} {st : List Value} {σ : rx_S} {post : rx_End} (k : rx_W M d mc ms pc lo' st σ post) (h : rx_sub lo' lo) : rx_W M d mc ms pc lo st σ post := ru_lo lo' h k
end
section
/-! The class: letters and digits, Words -/
theorem d_RT_isLetterOrDigit_0 : decode M_RT_isLetterOrDigit.2.1 0 = .ok (.iload_n 0, 1) := by decide +kernel
theorem d_RT_isLetterOrDigit_1 : decode M_RT_isLetterOrDigit.2.1 1 = .ok (.bipush 97, 2) := by decide +kernel
theorem d_RT_isLetterOrDigit_3 : decode M_RT_isLetterOrDigit.2.1 3 = .ok (.if_icmp .lt 9, 3) := by decide +kernel
theorem d_RT_isLetterOrDigit_6 : decode M_RT_isLetterOrDigit.2.1 6 = .ok (.iload_n 0, 1) := by decide +kernel
theorem d_RT_isLetterOrDigit_7 : decode M_RT_isLetterOrDigit.2.1 7 = .ok (.bipush 122, 2) := by decide +kernel
theorem d_RT_isLetterOrDigit_9 : decode M_RT_isLetterOrDigit.2.1 9 = .ok (.if_icmp .le 15, 3) := by decide +kernel
theorem d_RT_isLetterOrDigit_12 : decode M_RT_isLetterOrDigit.2.1 12 = .ok (.iload_n 0, 1) := by decide +kernel
theorem d_RT_isLetterOrDigit_13 : decode M_RT_isLetterOrDigit.2.1 13 = .ok (.bipush 48, 2) := by decide +kernel
theorem d_RT_isLetterOrDigit_15 : decode M_RT_isLetterOrDigit.2.1 15 = .ok (.if_icmp .lt 13, 3) := by decide +kernel
theorem d_RT_isLetterOrDigit_18 : decode M_RT_isLetterOrDigit.2.1 18 = .ok (.iload_n 0, 1) := by decide +kernel
theorem d_RT_isLetterOrDigit_19 : decode M_RT_isLetterOrDigit.2.1 19 = .ok (.bipush 57, 2) := by decide +kernel
theorem d_RT_isLetterOrDigit_21 : decode M_RT_isLetterOrDigit.2.1 21 = .ok (.if_icmp .gt 7, 3) := by decide +kernel
theorem d_RT_isLetterOrDigit_24 : decode M_RT_isLetterOrDigit.2.1 24 = .ok (.iconst 1, 1) := by decide +kernel
theorem d_RT_isLetterOrDigit_25 : decode M_RT_isLetterOrDigit.2.1 25 = .ok (.goto 4, 3) := by decide +kernel
theorem d_RT_isLetterOrDigit_28 : decode M_RT_isLetterOrDigit.2.1 28 = .ok (.iconst 0, 1) := by decide +kernel
theorem d_RT_isLetterOrDigit_29 : decode M_RT_isLetterOrDigit.2.1 29 = .ok (.ireturn, 1) := by decide +kernel
theorem d_RT_slotOf_0 : decode M_RT_slotOf.2.1 0 = .ok (.iload_n 0, 1) := by decide +kernel
theorem d_RT_slotOf_1 : decode M_RT_slotOf.2.1 1 = .ok (.bipush 16, 2) := by decide +kernel
theorem d_RT_slotOf_3 : decode M_RT_slotOf.2.1 3 = .ok (.imul, 1) := by decide +kernel
theorem d_RT_slotOf_4 : decode M_RT_slotOf.2.1 4 = .ok (.iload_n 1, 1) := by decide +kernel
theorem d_RT_slotOf_5 : decode M_RT_slotOf.2.1 5 = .ok (.iadd, 1) := by decide +kernel
theorem d_RT_slotOf_6 : decode M_RT_slotOf.2.1 6 = .ok (.ireturn, 1) := by decide +kernel
theorem d_RT_kindOf_0 : decode M_RT_kindOf.2.1 0 = .ok (.iload_n 0, 1) := by decide +kernel
theorem d_RT_kindOf_1 : decode M_RT_kindOf.2.1 1 = .ok (.iconst (-1), 1) := by decide +kernel
theorem d_RT_kindOf_2 : decode M_RT_kindOf.2.1 2 = .ok (.if_icmp .ne 7, 3) := by decide +kernel
theorem d_RT_kindOf_5 : decode M_RT_kindOf.2.1 5 = .ok (.iconst (-1), 1) := by decide +kernel
theorem d_RT_kindOf_6 : decode M_RT_kindOf.2.1 6 = .ok (.goto 7, 3) := by decide +kernel
theorem d_RT_kindOf_9 : decode M_RT_kindOf.2.1 9 = .ok (.iload_n 0, 1) := by decide +kernel
theorem d_RT_kindOf_10 : decode M_RT_kindOf.2.1 10 = .ok (.bipush 16, 2) := by decide +kernel
theorem d_RT_kindOf_12 : decode M_RT_kindOf.2.1 12 = .ok (.idiv, 1) := by decide +kernel
theorem d_RT_kindOf_13 : decode M_RT_kindOf.2.1 13 = .ok (.ireturn, 1) := by decide +kernel
theorem d_RT_thingOf_0 : decode M_RT_thingOf.2.1 0 = .ok (.iload_n 0, 1) := by decide +kernel
theorem d_RT_thingOf_1 : decode M_RT_thingOf.2.1 1 = .ok (.iconst (-1), 1) := by decide +kernel
theorem d_RT_thingOf_2 : decode M_RT_thingOf.2.1 2 = .ok (.if_icmp .ne 7, 3) := by decide +kernel
theorem d_RT_thingOf_5 : decode M_RT_thingOf.2.1 5 = .ok (.iconst (-1), 1) := by decide +kernel
theorem d_RT_thingOf_6 : decode M_RT_thingOf.2.1 6 = .ok (.goto 7, 3) := by decide +kernel
theorem d_RT_thingOf_9 : decode M_RT_thingOf.2.1 9 = .ok (.iload_n 0, 1) := by decide +kernel
theorem d_RT_thingOf_10 : decode M_RT_thingOf.2.1 10 = .ok (.bipush 16, 2) := by decide +kernel
theorem d_RT_thingOf_12 : decode M_RT_thingOf.2.1 12 = .ok (.irem, 1) := by decide +kernel
theorem d_RT_thingOf_13 : decode M_RT_thingOf.2.1 13 = .ok (.ireturn, 1) := by decide +kernel
theorem d_Wo_append_0 : decode M_Wo_append.2.1 0 = .ok (.iload_n 1, 1) := by decide +kernel
theorem d_Wo_append_1 : decode M_Wo_append.2.1 1 = .ok (.bipush 32, 2) := by decide +kernel
theorem d_Wo_append_3 : decode M_Wo_append.2.1 3 = .ok (.if_icmp .eq 28, 3) := by decide +kernel
theorem d_Wo_append_6 : decode M_Wo_append.2.1 6 = .ok (.iload_n 1, 1) := by decide +kernel
theorem d_Wo_append_7 : decode M_Wo_append.2.1 7 = .ok (.bipush 10, 2) := by decide +kernel
theorem d_Wo_append_9 : decode M_Wo_append.2.1 9 = .ok (.if_icmp .eq 22, 3) := by decide +kernel
theorem d_Wo_append_12 : decode M_Wo_append.2.1 12 = .ok (.iload_n 1, 1) := by decide +kernel
theorem d_Wo_append_13 : decode M_Wo_append.2.1 13 = .ok (.bipush 59, 2) := by decide +kernel
theorem d_Wo_append_15 : decode M_Wo_append.2.1 15 = .ok (.if_icmp .eq 16, 3) := by decide +kernel
theorem d_Wo_append_18 : decode M_Wo_append.2.1 18 = .ok (.iload_n 1, 1) := by decide +kernel
theorem d_Wo_append_19 : decode M_Wo_append.2.1 19 = .ok (.bipush 46, 2) := by decide +kernel
theorem d_Wo_append_21 : decode M_Wo_append.2.1 21 = .ok (.if_icmp .eq 10, 3) := by decide +kernel
theorem d_Wo_append_24 : decode M_Wo_append.2.1 24 = .ok (.iload_n 1, 1) := by decide +kernel
theorem d_Wo_append_25 : decode M_Wo_append.2.1 25 = .ok (.invokestatic 15, 3) := by decide +kernel
theorem d_Wo_append_28 : decode M_Wo_append.2.1 28 = .ok (.ifCond .eq 7, 3) := by decide +kernel
theorem d_Wo_append_31 : decode M_Wo_append.2.1 31 = .ok (.iconst 1, 1) := by decide +kernel
theorem d_Wo_append_32 : decode M_Wo_append.2.1 32 = .ok (.goto 4, 3) := by decide +kernel
theorem d_Wo_append_35 : decode M_Wo_append.2.1 35 = .ok (.iconst 0, 1) := by decide +kernel
theorem d_Wo_append_36 : decode M_Wo_append.2.1 36 = .ok (.istore_n 2, 1) := by decide +kernel
theorem d_Wo_append_37 : decode M_Wo_append.2.1 37 = .ok (.iload_n 2, 1) := by decide +kernel
theorem d_Wo_append_38 : decode M_Wo_append.2.1 38 = .ok (.ifCond .eq 13, 3) := by decide +kernel
theorem d_Wo_append_41 : decode M_Wo_append.2.1 41 = .ok (.aload_n 0, 1) := by decide +kernel
theorem d_Wo_append_42 : decode M_Wo_append.2.1 42 = .ok (.getfield 19, 3) := by decide +kernel
theorem d_Wo_append_45 : decode M_Wo_append.2.1 45 = .ok (.sipush 3000, 3) := by decide +kernel
theorem d_Wo_append_48 : decode M_Wo_append.2.1 48 = .ok (.if_icmp .lt 5, 3) := by decide +kernel
theorem d_Wo_append_51 : decode M_Wo_append.2.1 51 = .ok (.iconst 0, 1) := by decide +kernel
theorem d_Wo_append_52 : decode M_Wo_append.2.1 52 = .ok (.ireturn, 1) := by decide +kernel
theorem d_Wo_append_53 : decode M_Wo_append.2.1 53 = .ok (.aload_n 0, 1) := by decide +kernel
theorem d_Wo_append_54 : decode M_Wo_append.2.1 54 = .ok (.getfield 9, 3) := by decide +kernel
theorem d_Wo_append_57 : decode M_Wo_append.2.1 57 = .ok (.aload_n 0, 1) := by decide +kernel
theorem d_Wo_append_58 : decode M_Wo_append.2.1 58 = .ok (.getfield 19, 3) := by decide +kernel
theorem d_Wo_append_61 : decode M_Wo_append.2.1 61 = .ok (.iload_n 1, 1) := by decide +kernel
theorem d_Wo_append_62 : decode M_Wo_append.2.1 62 = .ok (.i2c, 1) := by decide +kernel
theorem d_Wo_append_63 : decode M_Wo_append.2.1 63 = .ok (.castore, 1) := by decide +kernel
theorem d_Wo_append_64 : decode M_Wo_append.2.1 64 = .ok (.aload_n 0, 1) := by decide +kernel
theorem d_Wo_append_65 : decode M_Wo_append.2.1 65 = .ok (.dup, 1) := by decide +kernel
theorem d_Wo_append_66 : decode M_Wo_append.2.1 66 = .ok (.getfield 19, 3) := by decide +kernel
theorem d_Wo_append_69 : decode M_Wo_append.2.1 69 = .ok (.iconst 1, 1) := by decide +kernel
theorem d_Wo_append_70 : decode M_Wo_append.2.1 70 = .ok (.iadd, 1) := by decide +kernel
theorem d_Wo_append_71 : decode M_Wo_append.2.1 71 = .ok (.putfield 19, 3) := by decide +kernel
theorem d_Wo_append_74 : decode M_Wo_append.2.1 74 = .ok (.iconst 1, 1) := by decide +kernel
theorem d_Wo_append_75 : decode M_Wo_append.2.1 75 = .ok (.ireturn, 1) := by decide +kernel
theorem d_Wo_atEnd_0 : decode M_Wo_atEnd.2.1 0 = .ok (.aload_n 0, 1) := by decide +kernel
theorem d_Wo_atEnd_1 : decode M_Wo_atEnd.2.1 1 = .ok (.getfield 35, 3) := by decide +kernel
theorem d_Wo_atEnd_4 : decode M_Wo_atEnd.2.1 4 = .ok (.aload_n 0, 1) := by decide +kernel
theorem d_Wo_atEnd_5 : decode M_Wo_atEnd.2.1 5 = .ok (.getfield 23, 3) := by decide +kernel
theorem d_Wo_atEnd_8 : decode M_Wo_atEnd.2.1 8 = .ok (.if_icmp .ne 7, 3) := by decide +kernel
theorem d_Wo_atEnd_11 : decode M_Wo_atEnd.2.1 11 = .ok (.iconst 1, 1) := by decide +kernel
theorem d_Wo_atEnd_12 : decode M_Wo_atEnd.2.1 12 = .ok (.goto 4, 3) := by decide +kernel
theorem d_Wo_atEnd_15 : decode M_Wo_atEnd.2.1 15 = .ok (.iconst 0, 1) := by decide +kernel
theorem d_Wo_atEnd_16 : decode M_Wo_atEnd.2.1 16 = .ok (.ireturn, 1) := by decide +kernel
theorem d_Wo_endOfDigits_0 : decode M_Wo_endOfDigits.2.1 0 = .ok (.iload_n 1, 1) := by decide +kernel
theorem d_Wo_endOfDigits_1 : decode M_Wo_endOfDigits.2.1 1 = .ok (.istore_n 2, 1) := by decide +kernel
theorem d_Wo_endOfDigits_2 : decode M_Wo_endOfDigits.2.1 2 = .ok (.iload_n 2, 1) := by decide +kernel
theorem d_Wo_endOfDigits_3 : decode M_Wo_endOfDigits.2.1 3 = .ok (.aload_n 0, 1) := by decide +kernel
theorem d_Wo_endOfDigits_4 : decode M_Wo_endOfDigits.2.1 4 = .ok (.getfield 23, 3) := by decide +kernel
theorem d_Wo_endOfDigits_7 : decode M_Wo_endOfDigits.2.1 7 = .ok (.if_icmp .ge 31, 3) := by decide +kernel
theorem d_Wo_endOfDigits_10 : decode M_Wo_endOfDigits.2.1 10 = .ok (.aload_n 0, 1) := by decide +kernel
theorem d_Wo_endOfDigits_11 : decode M_Wo_endOfDigits.2.1 11 = .ok (.getfield 9, 3) := by decide +kernel
theorem d_Wo_endOfDigits_14 : decode M_Wo_endOfDigits.2.1 14 = .ok (.iload_n 2, 1) := by decide +kernel
theorem d_Wo_endOfDigits_15 : decode M_Wo_endOfDigits.2.1 15 = .ok (.caload, 1) := by decide +kernel
theorem d_Wo_endOfDigits_16 : decode M_Wo_endOfDigits.2.1 16 = .ok (.bipush 48, 2) := by decide +kernel
theorem d_Wo_endOfDigits_18 : decode M_Wo_endOfDigits.2.1 18 = .ok (.if_icmp .lt 20, 3) := by decide +kernel
theorem d_Wo_endOfDigits_21 : decode M_Wo_endOfDigits.2.1 21 = .ok (.aload_n 0, 1) := by decide +kernel
theorem d_Wo_endOfDigits_22 : decode M_Wo_endOfDigits.2.1 22 = .ok (.getfield 9, 3) := by decide +kernel
theorem d_Wo_endOfDigits_25 : decode M_Wo_endOfDigits.2.1 25 = .ok (.iload_n 2, 1) := by decide +kernel
theorem d_Wo_endOfDigits_26 : decode M_Wo_endOfDigits.2.1 26 = .ok (.caload, 1) := by decide +kernel
theorem d_Wo_endOfDigits_27 : decode M_Wo_endOfDigits.2.1 27 = .ok (.bipush 57, 2) := by decide +kernel
theorem d_Wo_endOfDigits_29 : decode M_Wo_endOfDigits.2.1 29 = .ok (.if_icmp .gt 9, 3) := by decide +kernel
theorem d_Wo_endOfDigits_32 : decode M_Wo_endOfDigits.2.1 32 = .ok (.iinc 2 1, 3) := by decide +kernel
theorem d_Wo_endOfDigits_35 : decode M_Wo_endOfDigits.2.1 35 = .ok (.goto (-33), 3) := by decide +kernel
theorem d_Wo_endOfDigits_38 : decode M_Wo_endOfDigits.2.1 38 = .ok (.iload_n 2, 1) := by decide +kernel
theorem d_Wo_endOfDigits_39 : decode M_Wo_endOfDigits.2.1 39 = .ok (.ireturn, 1) := by decide +kernel
theorem d_Wo_digitsAsNumber_0 : decode M_Wo_digitsAsNumber.2.1 0 = .ok (.iconst 0, 1) := by decide +kernel
theorem d_Wo_digitsAsNumber_1 : decode M_Wo_digitsAsNumber.2.1 1 = .ok (.istore_n 3, 1) := by decide +kernel
theorem d_Wo_digitsAsNumber_2 : decode M_Wo_digitsAsNumber.2.1 2 = .ok (.iload_n 1, 1) := by decide +kernel
theorem d_Wo_digitsAsNumber_3 : decode M_Wo_digitsAsNumber.2.1 3 = .ok (.istore 4, 2) := by decide +kernel
theorem d_Wo_digitsAsNumber_5 : decode M_Wo_digitsAsNumber.2.1 5 = .ok (.iload 4, 2) := by decide +kernel
theorem d_Wo_digitsAsNumber_7 : decode M_Wo_digitsAsNumber.2.1 7 = .ok (.iload_n 2, 1) := by decide +kernel
theorem d_Wo_digitsAsNumber_8 : decode M_Wo_digitsAsNumber.2.1 8 = .ok (.if_icmp .ge 25, 3) := by decide +kernel
theorem d_Wo_digitsAsNumber_11 : decode M_Wo_digitsAsNumber.2.1 11 = .ok (.iload_n 3, 1) := by decide +kernel
theorem d_Wo_digitsAsNumber_12 : decode M_Wo_digitsAsNumber.2.1 12 = .ok (.bipush 10, 2) := by decide +kernel
theorem d_Wo_digitsAsNumber_14 : decode M_Wo_digitsAsNumber.2.1 14 = .ok (.imul, 1) := by decide +kernel
theorem d_Wo_digitsAsNumber_15 : decode M_Wo_digitsAsNumber.2.1 15 = .ok (.aload_n 0, 1) := by decide +kernel
theorem d_Wo_digitsAsNumber_16 : decode M_Wo_digitsAsNumber.2.1 16 = .ok (.getfield 9, 3) := by decide +kernel
theorem d_Wo_digitsAsNumber_19 : decode M_Wo_digitsAsNumber.2.1 19 = .ok (.iload 4, 2) := by decide +kernel
theorem d_Wo_digitsAsNumber_21 : decode M_Wo_digitsAsNumber.2.1 21 = .ok (.caload, 1) := by decide +kernel
theorem d_Wo_digitsAsNumber_22 : decode M_Wo_digitsAsNumber.2.1 22 = .ok (.bipush 48, 2) := by decide +kernel
theorem d_Wo_digitsAsNumber_24 : decode M_Wo_digitsAsNumber.2.1 24 = .ok (.isub, 1) := by decide +kernel
theorem d_Wo_digitsAsNumber_25 : decode M_Wo_digitsAsNumber.2.1 25 = .ok (.iadd, 1) := by decide +kernel
theorem d_Wo_digitsAsNumber_26 : decode M_Wo_digitsAsNumber.2.1 26 = .ok (.istore_n 3, 1) := by decide +kernel
theorem d_Wo_digitsAsNumber_27 : decode M_Wo_digitsAsNumber.2.1 27 = .ok (.iinc 4 1, 3) := by decide +kernel
theorem d_Wo_digitsAsNumber_30 : decode M_Wo_digitsAsNumber.2.1 30 = .ok (.goto (-25), 3) := by decide +kernel
theorem d_Wo_digitsAsNumber_33 : decode M_Wo_digitsAsNumber.2.1 33 = .ok (.iload_n 3, 1) := by decide +kernel
theorem d_Wo_digitsAsNumber_34 : decode M_Wo_digitsAsNumber.2.1 34 = .ok (.ireturn, 1) := by decide +kernel
theorem d_Wo_goOn_0 : decode M_Wo_goOn.2.1 0 = .ok (.aload_n 0, 1) := by decide +kernel
theorem d_Wo_goOn_1 : decode M_Wo_goOn.2.1 1 = .ok (.getfield 23, 3) := by decide +kernel
theorem d_Wo_goOn_4 : decode M_Wo_goOn.2.1 4 = .ok (.istore_n 1, 1) := by decide +kernel
theorem d_Wo_goOn_5 : decode M_Wo_goOn.2.1 5 = .ok (.iload_n 1, 1) := by decide +kernel
theorem d_Wo_goOn_6 : decode M_Wo_goOn.2.1 6 = .ok (.aload_n 0, 1) := by decide +kernel
theorem d_Wo_goOn_7 : decode M_Wo_goOn.2.1 7 = .ok (.getfield 19, 3) := by decide +kernel
theorem d_Wo_goOn_10 : decode M_Wo_goOn.2.1 10 = .ok (.if_icmp .ge 41, 3) := by decide +kernel
theorem d_Wo_goOn_13 : decode M_Wo_goOn.2.1 13 = .ok (.aload_n 0, 1) := by decide +kernel
theorem d_Wo_goOn_14 : decode M_Wo_goOn.2.1 14 = .ok (.getfield 9, 3) := by decide +kernel
theorem d_Wo_goOn_17 : decode M_Wo_goOn.2.1 17 = .ok (.iload_n 1, 1) := by decide +kernel
theorem d_Wo_goOn_18 : decode M_Wo_goOn.2.1 18 = .ok (.caload, 1) := by decide +kernel
theorem d_Wo_goOn_19 : decode M_Wo_goOn.2.1 19 = .ok (.bipush 32, 2) := by decide +kernel
theorem d_Wo_goOn_21 : decode M_Wo_goOn.2.1 21 = .ok (.if_icmp .gt 30, 3) := by decide +kernel
theorem d_Wo_goOn_24 : decode M_Wo_goOn.2.1 24 = .ok (.aload_n 0, 1) := by decide +kernel
theorem d_Wo_goOn_25 : decode M_Wo_goOn.2.1 25 = .ok (.getfield 9, 3) := by decide +kernel
theorem d_Wo_goOn_28 : decode M_Wo_goOn.2.1 28 = .ok (.iload_n 1, 1) := by decide +kernel
theorem d_Wo_goOn_29 : decode M_Wo_goOn.2.1 29 = .ok (.caload, 1) := by decide +kernel
theorem d_Wo_goOn_30 : decode M_Wo_goOn.2.1 30 = .ok (.bipush 10, 2) := by decide +kernel
theorem d_Wo_goOn_32 : decode M_Wo_goOn.2.1 32 = .ok (.if_icmp .ne 13, 3) := by decide +kernel
theorem d_Wo_goOn_35 : decode M_Wo_goOn.2.1 35 = .ok (.aload_n 0, 1) := by decide +kernel
theorem d_Wo_goOn_36 : decode M_Wo_goOn.2.1 36 = .ok (.dup, 1) := by decide +kernel
theorem d_Wo_goOn_37 : decode M_Wo_goOn.2.1 37 = .ok (.getfield 29, 3) := by decide +kernel
theorem d_Wo_goOn_40 : decode M_Wo_goOn.2.1 40 = .ok (.iconst 1, 1) := by decide +kernel
theorem d_Wo_goOn_41 : decode M_Wo_goOn.2.1 41 = .ok (.iadd, 1) := by decide +kernel
theorem d_Wo_goOn_42 : decode M_Wo_goOn.2.1 42 = .ok (.putfield 29, 3) := by decide +kernel
theorem d_Wo_goOn_45 : decode M_Wo_goOn.2.1 45 = .ok (.iinc 1 1, 3) := by decide +kernel
theorem d_Wo_goOn_48 : decode M_Wo_goOn.2.1 48 = .ok (.goto (-43), 3) := by decide +kernel
theorem d_Wo_goOn_51 : decode M_Wo_goOn.2.1 51 = .ok (.aload_n 0, 1) := by decide +kernel
theorem d_Wo_goOn_52 : decode M_Wo_goOn.2.1 52 = .ok (.iload_n 1, 1) := by decide +kernel
theorem d_Wo_goOn_53 : decode M_Wo_goOn.2.1 53 = .ok (.putfield 35, 3) := by decide +kernel
theorem d_Wo_goOn_56 : decode M_Wo_goOn.2.1 56 = .ok (.iload_n 1, 1) := by decide +kernel
theorem d_Wo_goOn_57 : decode M_Wo_goOn.2.1 57 = .ok (.aload_n 0, 1) := by decide +kernel
theorem d_Wo_goOn_58 : decode M_Wo_goOn.2.1 58 = .ok (.getfield 19, 3) := by decide +kernel
theorem d_Wo_goOn_61 : decode M_Wo_goOn.2.1 61 = .ok (.if_icmp .ge 20, 3) := by decide +kernel
theorem d_Wo_goOn_64 : decode M_Wo_goOn.2.1 64 = .ok (.aload_n 0, 1) := by decide +kernel
theorem d_Wo_goOn_65 : decode M_Wo_goOn.2.1 65 = .ok (.getfield 9, 3) := by decide +kernel
theorem d_Wo_goOn_68 : decode M_Wo_goOn.2.1 68 = .ok (.iload_n 1, 1) := by decide +kernel
theorem d_Wo_goOn_69 : decode M_Wo_goOn.2.1 69 = .ok (.caload, 1) := by decide +kernel
theorem d_Wo_goOn_70 : decode M_Wo_goOn.2.1 70 = .ok (.bipush 59, 2) := by decide +kernel
theorem d_Wo_goOn_72 : decode M_Wo_goOn.2.1 72 = .ok (.if_icmp .ne 9, 3) := by decide +kernel
theorem d_Wo_goOn_75 : decode M_Wo_goOn.2.1 75 = .ok (.iinc 1 1, 3) := by decide +kernel
theorem d_Wo_goOn_78 : decode M_Wo_goOn.2.1 78 = .ok (.goto 39, 3) := by decide +kernel
theorem d_Wo_goOn_81 : decode M_Wo_goOn.2.1 81 = .ok (.iload_n 1, 1) := by decide +kernel
theorem d_Wo_goOn_82 : decode M_Wo_goOn.2.1 82 = .ok (.aload_n 0, 1) := by decide +kernel
theorem d_Wo_goOn_83 : decode M_Wo_goOn.2.1 83 = .ok (.getfield 19, 3) := by decide +kernel
theorem d_Wo_goOn_86 : decode M_Wo_goOn.2.1 86 = .ok (.if_icmp .ge 31, 3) := by decide +kernel
theorem d_Wo_goOn_89 : decode M_Wo_goOn.2.1 89 = .ok (.aload_n 0, 1) := by decide +kernel
theorem d_Wo_goOn_90 : decode M_Wo_goOn.2.1 90 = .ok (.getfield 9, 3) := by decide +kernel
theorem d_Wo_goOn_93 : decode M_Wo_goOn.2.1 93 = .ok (.iload_n 1, 1) := by decide +kernel
theorem d_Wo_goOn_94 : decode M_Wo_goOn.2.1 94 = .ok (.caload, 1) := by decide +kernel
theorem d_Wo_goOn_95 : decode M_Wo_goOn.2.1 95 = .ok (.bipush 32, 2) := by decide +kernel
theorem d_Wo_goOn_97 : decode M_Wo_goOn.2.1 97 = .ok (.if_icmp .le 20, 3) := by decide +kernel
theorem d_Wo_goOn_100 : decode M_Wo_goOn.2.1 100 = .ok (.aload_n 0, 1) := by decide +kernel
theorem d_Wo_goOn_101 : decode M_Wo_goOn.2.1 101 = .ok (.getfield 9, 3) := by decide +kernel
theorem d_Wo_goOn_104 : decode M_Wo_goOn.2.1 104 = .ok (.iload_n 1, 1) := by decide +kernel
theorem d_Wo_goOn_105 : decode M_Wo_goOn.2.1 105 = .ok (.caload, 1) := by decide +kernel
theorem d_Wo_goOn_106 : decode M_Wo_goOn.2.1 106 = .ok (.bipush 59, 2) := by decide +kernel
theorem d_Wo_goOn_108 : decode M_Wo_goOn.2.1 108 = .ok (.if_icmp .eq 9, 3) := by decide +kernel
theorem d_Wo_goOn_111 : decode M_Wo_goOn.2.1 111 = .ok (.iinc 1 1, 3) := by decide +kernel
theorem d_Wo_goOn_114 : decode M_Wo_goOn.2.1 114 = .ok (.goto (-33), 3) := by decide +kernel
theorem d_Wo_goOn_117 : decode M_Wo_goOn.2.1 117 = .ok (.aload_n 0, 1) := by decide +kernel
theorem d_Wo_goOn_118 : decode M_Wo_goOn.2.1 118 = .ok (.iload_n 1, 1) := by decide +kernel
theorem d_Wo_goOn_119 : decode M_Wo_goOn.2.1 119 = .ok (.putfield 23, 3) := by decide +kernel
theorem d_Wo_goOn_122 : decode M_Wo_goOn.2.1 122 = .ok (.aload_n 0, 1) := by decide +kernel
theorem d_Wo_goOn_123 : decode M_Wo_goOn.2.1 123 = .ok (.dup, 1) := by decide +kernel
theorem d_Wo_goOn_124 : decode M_Wo_goOn.2.1 124 = .ok (.getfield 26, 3) := by decide +kernel
theorem d_Wo_goOn_127 : decode M_Wo_goOn.2.1 127 = .ok (.iconst 1, 1) := by decide +kernel
theorem d_Wo_goOn_128 : decode M_Wo_goOn.2.1 128 = .ok (.iadd, 1) := by decide +kernel
theorem d_Wo_goOn_129 : decode M_Wo_goOn.2.1 129 = .ok (.putfield 26, 3) := by decide +kernel
theorem d_Wo_goOn_132 : decode M_Wo_goOn.2.1 132 = .ok (.return_, 1) := by decide +kernel
theorem d_Wo_goToFirst_0 : decode M_Wo_goToFirst.2.1 0 = .ok (.aload_n 0, 1) := by decide +kernel
theorem d_Wo_goToFirst_1 : decode M_Wo_goToFirst.2.1 1 = .ok (.iconst 0, 1) := by decide +kernel
theorem d_Wo_goToFirst_2 : decode M_Wo_goToFirst.2.1 2 = .ok (.putfield 23, 3) := by decide +kernel
theorem d_Wo_goToFirst_5 : decode M_Wo_goToFirst.2.1 5 = .ok (.aload_n 0, 1) := by decide +kernel
theorem d_Wo_goToFirst_6 : decode M_Wo_goToFirst.2.1 6 = .ok (.iconst (-1), 1) := by decide +kernel
theorem d_Wo_goToFirst_7 : decode M_Wo_goToFirst.2.1 7 = .ok (.putfield 26, 3) := by decide +kernel
theorem d_Wo_goToFirst_10 : decode M_Wo_goToFirst.2.1 10 = .ok (.aload_n 0, 1) := by decide +kernel
theorem d_Wo_goToFirst_11 : decode M_Wo_goToFirst.2.1 11 = .ok (.iconst 0, 1) := by decide +kernel
theorem d_Wo_goToFirst_12 : decode M_Wo_goToFirst.2.1 12 = .ok (.putfield 29, 3) := by decide +kernel
theorem d_Wo_goToFirst_15 : decode M_Wo_goToFirst.2.1 15 = .ok (.aload_n 0, 1) := by decide +kernel
theorem d_Wo_goToFirst_16 : decode M_Wo_goToFirst.2.1 16 = .ok (.invokevirtual 32, 3) := by decide +kernel
theorem d_Wo_goToFirst_19 : decode M_Wo_goToFirst.2.1 19 = .ok (.return_, 1) := by decide +kernel
def isLD (u : Int32) : Prop := (97 ≤ u.toInt ∧ u.toInt ≤ 122) ∨ (48 ≤ u.toInt ∧ u.toInt ≤ 57)
def isTC (u : Int32) : Prop := u.toInt = 32 ∨ u.toInt = 10 ∨ u.toInt = 59 ∨ u.toInt = 46 ∨ isLD u
noncomputable def bI (p : Prop) : Int32 := @ite _ p (Classical.propDecidable p) 1 0
theorem bI_t {p : Prop} (h : p) : bI p = 1 := by unfold bI; exact if_pos h
theorem bI_f {p : Prop} (h : ¬ p) : bI p = 0 := by unfold bI; exact if_neg h
theorem i10 : ¬ (1 : Int32) = 0 := by decide
theorem bI_eq0 {p : Prop} : bI p = 0 ↔ ¬ p := by
  by_cases h : p
  · rw [bI_t h]; exact ⟨fun q => absurd q i10, fun q => absurd h q⟩
  · rw [bI_f h]; exact ⟨fun _ => h, fun _ => rfl⟩
theorem bI_ne0 {p : Prop} : ¬ bI p = 0 ↔ p := by
  by_cases h : p
  · rw [bI_t h]; exact ⟨fun _ => h, fun _ => i10⟩
  · rw [bI_f h]; exact ⟨fun q => absurd rfl q, fun q => absurd q h⟩
theorem bI_congr {p q : Prop} (h : p ↔ q) : bI p = bI q := by
  by_cases hp : p
  · rw [bI_t hp, bI_t (h.mp hp)]
  · rw [bI_f hp, bI_f (fun z => hp (h.mpr z))]
theorem bI_nar (p : Prop) : narrow .boolean (.int (bI p)) = .int (bI p) := by
  by_cases hp : p
  · rw [bI_t hp]; rfl
  · rw [bI_f hp]; rfl
/-- the first place from i on, below n, where the text is no blank -/
def sk (n : Nat) (t : Nat → Int32) : Nat → Nat → Nat
  | 0, i => i
  | f + 1, i => if i < n ∧ (t i).toInt ≤ 32 then sk n t f (i + 1) else i
/-- the line feeds passed on the way -/
def nls (n : Nat) (t : Nat → Int32) : Nat → Nat → Nat
  | 0, _ => 0
  | f + 1, i => if i < n ∧ (t i).toInt ≤ 32 then (if (t i).toInt = 10 then 1 else 0) + nls n t f (i + 1) else 0
/-- where a word of signs ends -/
def we (n : Nat) (t : Nat → Int32) : Nat → Nat → Nat
  | 0, i => i
  | f + 1, i => if i < n ∧ 32 < (t i).toInt ∧ (t i).toInt ≠ 59 then we n t f (i + 1) else i
/-- where the word that begins at i ends -/
def wordEnd (n : Nat) (t : Nat → Int32) (i : Nat) : Nat := if i < n ∧ (t i).toInt = 59 then i + 1 else we n t (n - i) i
/-- where digits end -/
def de (e : Nat) (t : Nat → Int32) : Nat → Nat → Nat
  | 0, i => i
  | f + 1, i => if i < e ∧ 48 ≤ (t i).toInt ∧ (t i).toInt ≤ 57 then de e t f (i + 1) else i
theorem sk_le (n : Nat) (t : Nat → Int32) : ∀ f i, i ≤ n → i ≤ sk n t f i ∧ sk n t f i ≤ n
  | 0, i, h => ⟨Nat.le_refl _, h⟩
  | f + 1, i, h => by
    unfold sk
    split
    · have := sk_le n t f (i + 1) (by omega)
      omega
    · omega
theorem we_le (n : Nat) (t : Nat → Int32) : ∀ f i, i ≤ n → i ≤ we n t f i ∧ we n t f i ≤ n
  | 0, i, h => ⟨Nat.le_refl _, h⟩
  | f + 1, i, h => by
    unfold we
    split
    · have := we_le n t f (i + 1) (by omega)
      omega
    · omega
theorem wordEnd_le {n i : Nat} (t : Nat → Int32) (h : i ≤ n) : i ≤ wordEnd n t i ∧ wordEnd n t i ≤ n := by
  unfold wordEnd
  split
  · omega
  · exact we_le n t _ i h
theorem de_le (e : Nat) (t : Nat → Int32) : ∀ f i, i ≤ e → i ≤ de e t f i ∧ de e t f i ≤ e
  | 0, i, h => ⟨Nat.le_refl _, h⟩
  | f + 1, i, h => by
    unfold de
    split
    · have := de_le e t f (i + 1) (by omega)
      omega
    · omega
section
variable {nx : Nat} {ct : Nat → Nat × Nat} {mi : Nat → Nat → Int32} {ml : Nat → Nat → Int64} {mr : Nat → Nat → Option Nat}
theorem sp_isLD (u : Int32) (σ : rx_S) : rx_Calls y_RT_isLetterOrDigit M_RT_isLetterOrDigit 0 0 0 [.int u] σ (fun v τ => v = some (.int (bI (isLD u))) ∧ τ = σ) := by
  refine rx_enter (by decide) rfl rfl (Nat.le_of_ble_eq_true rfl) ?_
  refine ru_iload_n d_RT_isLetterOrDigit_0 rfl rfl ?_
  refine ru_bipush (v := 97) d_RT_isLetterOrDigit_1 (by decide) ?_
  refine ru_icmp_lt (tgt := 12) d_RT_isLetterOrDigit_3 (by decide) (fun h3 => ?_) (fun h3 => ?_)
  · skip
    refine ru_iload_n d_RT_isLetterOrDigit_12 rfl rfl ?_
    refine ru_bipush (v := 48) d_RT_isLetterOrDigit_13 (by decide) ?_
    refine ru_icmp_lt (tgt := 28) d_RT_isLetterOrDigit_15 (by decide) (fun h15 => ?_) (fun h15 => ?_)
    · skip
      refine ru_iconst (v := 0) d_RT_isLetterOrDigit_28 (by decide) ?_
      refine ru_zret (ty := .boolean) d_RT_isLetterOrDigit_29 rfl rfl ?_
      first | (exfalso; simp only [il, ie, i_97, i_122, i_48, i_57] at *; omega) | exact ⟨by rw [bI_t (by simp only [il, ie, i_97, i_122, i_48, i_57] at *; unfold isLD; omega)], rfl⟩ | exact ⟨by rw [bI_f (by simp only [il, ie, i_97, i_122, i_48, i_57] at *; unfold isLD; omega)], rfl⟩
    · skip
      refine ru_iload_n d_RT_isLetterOrDigit_18 rfl rfl ?_
      refine ru_bipush (v := 57) d_RT_isLetterOrDigit_19 (by decide) ?_
      refine ru_icmp_gt (tgt := 28) d_RT_isLetterOrDigit_21 (by decide) (fun h21 => ?_) (fun h21 => ?_)
      · skip
        refine ru_iconst (v := 0) d_RT_isLetterOrDigit_28 (by decide) ?_
        refine ru_zret (ty := .boolean) d_RT_isLetterOrDigit_29 rfl rfl ?_
        first | (exfalso; simp only [il, ie, i_97, i_122, i_48, i_57] at *; omega) | exact ⟨by rw [bI_t (by simp only [il, ie, i_97, i_122, i_48, i_57] at *; unfold isLD; omega)], rfl⟩ | exact ⟨by rw [bI_f (by simp only [il, ie, i_97, i_122, i_48, i_57] at *; unfold isLD; omega)], rfl⟩
      · skip
        refine ru_iconst (v := 1) d_RT_isLetterOrDigit_24 (by decide) ?_
        refine ru_goto (tgt := 29) d_RT_isLetterOrDigit_25 (by decide) ?_
        refine ru_zret (ty := .boolean) d_RT_isLetterOrDigit_29 rfl rfl ?_
        first | (exfalso; simp only [il, ie, i_97, i_122, i_48, i_57] at *; omega) | exact ⟨by rw [bI_t (by simp only [il, ie, i_97, i_122, i_48, i_57] at *; unfold isLD; omega)], rfl⟩ | exact ⟨by rw [bI_f (by simp only [il, ie, i_97, i_122, i_48, i_57] at *; unfold isLD; omega)], rfl⟩
  · skip
    refine ru_iload_n d_RT_isLetterOrDigit_6 rfl rfl ?_
    refine ru_bipush (v := 122) d_RT_isLetterOrDigit_7 (by decide) ?_
    refine ru_icmp_le (tgt := 24) d_RT_isLetterOrDigit_9 (by decide) (fun h9 => ?_) (fun h9 => ?_)
    · skip
      refine ru_iconst (v := 1) d_RT_isLetterOrDigit_24 (by decide) ?_
      refine ru_goto (tgt := 29) d_RT_isLetterOrDigit_25 (by decide) ?_
      refine ru_zret (ty := .boolean) d_RT_isLetterOrDigit_29 rfl rfl ?_
      first | (exfalso; simp only [il, ie, i_97, i_122, i_48, i_57] at *; omega) | exact ⟨by rw [bI_t (by simp only [il, ie, i_97, i_122, i_48, i_57] at *; unfold isLD; omega)], rfl⟩ | exact ⟨by rw [bI_f (by simp only [il, ie, i_97, i_122, i_48, i_57] at *; unfold isLD; omega)], rfl⟩
    · skip
      refine ru_iload_n d_RT_isLetterOrDigit_12 rfl rfl ?_
      refine ru_bipush (v := 48) d_RT_isLetterOrDigit_13 (by decide) ?_
      refine ru_icmp_lt (tgt := 28) d_RT_isLetterOrDigit_15 (by decide) (fun h15 => ?_) (fun h15 => ?_)
      · skip
        refine ru_iconst (v := 0) d_RT_isLetterOrDigit_28 (by decide) ?_
        refine ru_zret (ty := .boolean) d_RT_isLetterOrDigit_29 rfl rfl ?_
        first | (exfalso; simp only [il, ie, i_97, i_122, i_48, i_57] at *; omega) | exact ⟨by rw [bI_t (by simp only [il, ie, i_97, i_122, i_48, i_57] at *; unfold isLD; omega)], rfl⟩ | exact ⟨by rw [bI_f (by simp only [il, ie, i_97, i_122, i_48, i_57] at *; unfold isLD; omega)], rfl⟩
      · skip
        refine ru_iload_n d_RT_isLetterOrDigit_18 rfl rfl ?_
        refine ru_bipush (v := 57) d_RT_isLetterOrDigit_19 (by decide) ?_
        refine ru_icmp_gt (tgt := 28) d_RT_isLetterOrDigit_21 (by decide) (fun h21 => ?_) (fun h21 => ?_)
        · skip
          refine ru_iconst (v := 0) d_RT_isLetterOrDigit_28 (by decide) ?_
          refine ru_zret (ty := .boolean) d_RT_isLetterOrDigit_29 rfl rfl ?_
          first | (exfalso; simp only [il, ie, i_97, i_122, i_48, i_57] at *; omega) | exact ⟨by rw [bI_t (by simp only [il, ie, i_97, i_122, i_48, i_57] at *; unfold isLD; omega)], rfl⟩ | exact ⟨by rw [bI_f (by simp only [il, ie, i_97, i_122, i_48, i_57] at *; unfold isLD; omega)], rfl⟩
        · skip
          refine ru_iconst (v := 1) d_RT_isLetterOrDigit_24 (by decide) ?_
          refine ru_goto (tgt := 29) d_RT_isLetterOrDigit_25 (by decide) ?_
          refine ru_zret (ty := .boolean) d_RT_isLetterOrDigit_29 rfl rfl ?_
          first | (exfalso; simp only [il, ie, i_97, i_122, i_48, i_57] at *; omega) | exact ⟨by rw [bI_t (by simp only [il, ie, i_97, i_122, i_48, i_57] at *; unfold isLD; omega)], rfl⟩ | exact ⟨by rw [bI_f (by simp only [il, ie, i_97, i_122, i_48, i_57] at *; unfold isLD; omega)], rfl⟩
theorem sp_slotOf (a b : Int32) (σ : rx_S) : rx_Calls y_RT_slotOf M_RT_slotOf 0 0 0 [.int a, .int b] σ (fun v τ => v = some (.int (a * 16 + b)) ∧ τ = σ) := by
  refine rx_enter (by decide) rfl rfl (Nat.le_of_ble_eq_true rfl) ?_
  refine ru_iload_n d_RT_slotOf_0 rfl rfl ?_
  refine ru_bipush (v := 16) d_RT_slotOf_1 (by decide) ?_
  refine ru_imul d_RT_slotOf_3 ?_
  refine ru_iload_n d_RT_slotOf_4 rfl rfl ?_
  refine ru_iadd d_RT_slotOf_5 ?_
  refine ru_iret d_RT_slotOf_6 rfl ?_
  exact ⟨rfl, rfl⟩
theorem sp_kindOf (a : Int32) (σ : rx_S) : rx_Calls y_RT_kindOf M_RT_kindOf 0 0 0 [.int a] σ (fun v τ => v = some (.int (if a = -1 then -1 else a / 16)) ∧ τ = σ) := by
  refine rx_enter (by decide) rfl rfl (Nat.le_of_ble_eq_true rfl) ?_
  refine ru_iload_n d_RT_kindOf_0 rfl rfl ?_
  refine ru_iconst (v := (-1)) d_RT_kindOf_1 (by decide) ?_
  refine ru_icmp_ne (tgt := 9) d_RT_kindOf_2 (by decide) (fun h2 => ?_) (fun h2 => ?_)
  · skip
    refine ru_iload_n d_RT_kindOf_9 rfl rfl ?_
    refine ru_bipush (v := 16) d_RT_kindOf_10 (by decide) ?_
    refine ru_idiv d_RT_kindOf_12 (by decide) ?_
    refine ru_iret d_RT_kindOf_13 rfl ?_
    first | exact ⟨by rw [if_neg h2], rfl⟩ | exact ⟨by rw [if_pos h2], rfl⟩
  · skip
    refine ru_iconst (v := (-1)) d_RT_kindOf_5 (by decide) ?_
    refine ru_goto (tgt := 13) d_RT_kindOf_6 (by decide) ?_
    refine ru_iret d_RT_kindOf_13 rfl ?_
    first | exact ⟨by rw [if_neg h2], rfl⟩ | exact ⟨by rw [if_pos h2], rfl⟩
theorem sp_thingOf (a : Int32) (σ : rx_S) : rx_Calls y_RT_thingOf M_RT_thingOf 0 0 0 [.int a] σ (fun v τ => v = some (.int (if a = -1 then -1 else a - a / 16 * 16)) ∧ τ = σ) := by
  refine rx_enter (by decide) rfl rfl (Nat.le_of_ble_eq_true rfl) ?_
  refine ru_iload_n d_RT_thingOf_0 rfl rfl ?_
  refine ru_iconst (v := (-1)) d_RT_thingOf_1 (by decide) ?_
  refine ru_icmp_ne (tgt := 9) d_RT_thingOf_2 (by decide) (fun h2 => ?_) (fun h2 => ?_)
  · skip
    refine ru_iload_n d_RT_thingOf_9 rfl rfl ?_
    refine ru_bipush (v := 16) d_RT_thingOf_10 (by decide) ?_
    refine ru_irem d_RT_thingOf_12 (by decide) ?_
    refine ru_iret d_RT_thingOf_13 rfl ?_
    first | exact ⟨by rw [if_neg h2], rfl⟩ | exact ⟨by rw [if_pos h2], rfl⟩
  · skip
    refine ru_iconst (v := (-1)) d_RT_thingOf_5 (by decide) ?_
    refine ru_goto (tgt := 13) d_RT_thingOf_6 (by decide) ?_
    refine ru_iret d_RT_thingOf_13 rfl ?_
    first | exact ⟨by rw [if_neg h2], rfl⟩ | exact ⟨by rw [if_pos h2], rfl⟩
theorem sp_atEnd (hL : LAY nx ct mr) : rx_Calls y_Wo_atEnd M_Wo_atEnd 0 0 0 [.ref 266] (nx, ct, mi, ml, mr) (fun v τ => v = some (.int (bI (mi 266 2 = mi 266 3))) ∧ τ = (nx, ct, mi, ml, mr)) := by
  refine rx_enter (by decide) rfl rfl (Nat.le_of_ble_eq_true rfl) ?_
  refine ru_aload_n d_Wo_atEnd_0 rfl rfl ?_
  refine ru_getI d_Wo_atEnd_1 lf_Wo_35 (ly hL 266 7 0) rfl ?_
  refine ru_aload_n d_Wo_atEnd_4 rfl rfl ?_
  refine ru_getI d_Wo_atEnd_5 lf_Wo_23 (ly hL 266 7 0) rfl ?_
  refine ru_icmp_ne (tgt := 15) d_Wo_atEnd_8 (by decide) (fun h8 => ?_) (fun h8 => ?_)
  · skip
    refine ru_iconst (v := 0) d_Wo_atEnd_15 (by decide) ?_
    refine ru_zret (ty := .boolean) d_Wo_atEnd_16 rfl rfl ?_
    first | exact ⟨by rw [bI_t h8], rfl⟩ | exact ⟨by rw [bI_f h8], rfl⟩
  · skip
    refine ru_iconst (v := 1) d_Wo_atEnd_11 (by decide) ?_
    refine ru_goto (tgt := 16) d_Wo_atEnd_12 (by decide) ?_
    refine ru_zret (ty := .boolean) d_Wo_atEnd_16 rfl rfl ?_
    first | exact ⟨by rw [bI_t h8], rfl⟩ | exact ⟨by rw [bI_f h8], rfl⟩
theorem tc_nar {u : Int32} (h : isTC u) : vp_nar .char (u.toUInt32 % 65536).toInt32 = u := by
  rw [pk_vc]
  obtain ⟨j, hj, e⟩ := nI_of (x := u) (by rw [il, i_0]; unfold isTC isLD at h; omega)
  have h2 : j < 128 := by
    have : u.toInt = j := by rw [e, nI_toInt hj]
    unfold isTC isLD at h
    omega
  rw [e, pk_char, pk_tn (by omega)]
  congr 1
  omega
theorem sp_Wo_append {n : Nat} (u : Int32) (hL : LAY nx ct mr) (hn : mi 266 1 = nI n) (hn2 : n ≤ 3000) : rx_Calls y_Wo_append M_Wo_append 1 0 0 [.ref 266, .int u] (nx, ct, mi, ml, mr) (fun v τ => v = some (.int (bI (isTC u ∧ n < 3000))) ∧ τ = (nx, ct, @ite _ (isTC u ∧ n < 3000) (Classical.propDecidable _) (rx_u (rx_u mi 267 n u) 266 1 (nI (n + 1))) mi, ml, mr)) := by
  refine rx_enter (by decide) rfl rfl (Nat.le_of_ble_eq_true rfl) ?_
  have fin : isTC u → rx_W M_Wo_append 1 0 0 36 [(0, .ref 266), (1, .int u)] [.int 1] (nx, ct, mi, ml, mr) (pR (fun v τ => v = some (.int (bI (isTC u ∧ n < 3000))) ∧ τ = (nx, ct, @ite _ (isTC u ∧ n < 3000) (Classical.propDecidable _) (rx_u (rx_u mi 267 n u) 266 1 (nI (n + 1))) mi, ml, mr))) := by
    intro hu
    refine ru_istore_n d_Wo_append_36 rfl (by decide) ?_
    refine ru_iload_n d_Wo_append_37 rfl rfl ?_
    refine ru_if_eq (tgt := 51) d_Wo_append_38 (by decide) (fun h38 => absurd h38 (by decide)) (fun h38 => ?_)
    refine ru_aload_n d_Wo_append_41 rfl rfl ?_
    refine ru_getI d_Wo_append_42 lf_Wo_19 (ly hL 266 7 0) rfl ?_
    refine ru_sipush (v := 3000) d_Wo_append_45 (by decide) ?_
    refine ru_icmp_lt (tgt := 53) d_Wo_append_48 (by decide) (fun h48 => ?_) (fun h48 => ?_)
    · skip
      refine ru_aload_n d_Wo_append_53 rfl rfl ?_
      refine ru_getR d_Wo_append_54 lf_Wo_9 (ly hL 266 7 0) rfl (lr hL 266 0 267) ?_
      refine ru_aload_n d_Wo_append_57 rfl rfl ?_
      refine ru_getI d_Wo_append_58 lf_Wo_19 (ly hL 266 7 0) rfl ?_
      refine ru_eqi hn ?_
      refine ru_iload_n d_Wo_append_61 rfl rfl ?_
      refine ru_i2c d_Wo_append_62 ?_
      refine ru_castN d_Wo_append_63 (ly hL 267 101 3000) (by rw [hn, il, nI_toInt (by omega), i_3000] at h48; omega) (by decide) ?_
      refine ru_aload_n d_Wo_append_64 rfl rfl ?_
      refine ru_dup d_Wo_append_65 rfl ?_
      refine ru_getI d_Wo_append_66 lf_Wo_19 (ly hL 266 7 0) rfl ?_
      refine ru_iconst (v := 1) d_Wo_append_69 (by decide) ?_
      refine ru_iadd d_Wo_append_70 ?_
      refine ru_putI d_Wo_append_71 lf_Wo_19 (ly hL 266 7 0) rfl (fun q hq => by cases hq; exact Or.inl rfl) ⟨rfl, rfl⟩ ?_
      refine ru_iconst (v := 1) d_Wo_append_74 (by decide) ?_
      refine ru_zret (ty := .boolean) d_Wo_append_75 rfl rfl ?_
      have hlt : n < 3000 := by rw [hn, il, nI_toInt (by omega), i_3000] at h48; omega
      refine ⟨by rw [bI_t ⟨hu, hlt⟩], ?_⟩
      rw [if_pos ⟨hu, hlt⟩, tc_nar hu, rx_u_r _ _ (by decide), hn, nI_1]
    · skip
      refine ru_iconst (v := 0) d_Wo_append_51 (by decide) ?_
      refine ru_zret (ty := .boolean) d_Wo_append_52 rfl rfl ?_
      have hge : ¬ n < 3000 := by rw [hn, il, nI_toInt (by omega), i_3000] at h48; omega
      exact ⟨by rw [bI_f (fun q => hge q.2)], by rw [if_neg (fun q => hge q.2)]⟩
  refine ru_iload_n d_Wo_append_0 rfl rfl ?_
  refine ru_bipush (v := 32) d_Wo_append_1 (by decide) ?_
  refine ru_icmp_eq (tgt := 31) d_Wo_append_3 (by decide) (fun h3 => ?_) (fun h3 => ?_)
  · skip
    refine ru_iconst (v := 1) d_Wo_append_31 (by decide) ?_
    refine ru_goto (tgt := 36) d_Wo_append_32 (by decide) ?_
    exact fin (by first | exact Or.inr (Or.inr (Or.inr (Or.inr (bI_ne0.mp h28)))) | (simp only [iq, i_32, i_10, i_59, i_46] at *; unfold isTC; omega))
  · skip
    refine ru_iload_n d_Wo_append_6 rfl rfl ?_
    refine ru_bipush (v := 10) d_Wo_append_7 (by decide) ?_
    refine ru_icmp_eq (tgt := 31) d_Wo_append_9 (by decide) (fun h9 => ?_) (fun h9 => ?_)
    · skip
      refine ru_iconst (v := 1) d_Wo_append_31 (by decide) ?_
      refine ru_goto (tgt := 36) d_Wo_append_32 (by decide) ?_
      exact fin (by first | exact Or.inr (Or.inr (Or.inr (Or.inr (bI_ne0.mp h28)))) | (simp only [iq, i_32, i_10, i_59, i_46] at *; unfold isTC; omega))
    · skip
      refine ru_iload_n d_Wo_append_12 rfl rfl ?_
      refine ru_bipush (v := 59) d_Wo_append_13 (by decide) ?_
      refine ru_icmp_eq (tgt := 31) d_Wo_append_15 (by decide) (fun h15 => ?_) (fun h15 => ?_)
      · skip
        refine ru_iconst (v := 1) d_Wo_append_31 (by decide) ?_
        refine ru_goto (tgt := 36) d_Wo_append_32 (by decide) ?_
        exact fin (by first | exact Or.inr (Or.inr (Or.inr (Or.inr (bI_ne0.mp h28)))) | (simp only [iq, i_32, i_10, i_59, i_46] at *; unfold isTC; omega))
      · skip
        refine ru_iload_n d_Wo_append_18 rfl rfl ?_
        refine ru_bipush (v := 46) d_Wo_append_19 (by decide) ?_
        refine ru_icmp_eq (tgt := 31) d_Wo_append_21 (by decide) (fun h21 => ?_) (fun h21 => ?_)
        · skip
          refine ru_iconst (v := 1) d_Wo_append_31 (by decide) ?_
          refine ru_goto (tgt := 36) d_Wo_append_32 (by decide) ?_
          exact fin (by first | exact Or.inr (Or.inr (Or.inr (Or.inr (bI_ne0.mp h28)))) | (simp only [iq, i_32, i_10, i_59, i_46] at *; unfold isTC; omega))
        · skip
          refine ru_iload_n d_Wo_append_24 rfl rfl ?_
          refine ru_callS (mc := 0) (ms := 0) d_Wo_append_25 lm_Wo_15 (sp_isLD u _) (by decide) rfl (by decide) ?_
          intro v τ h
          obtain ⟨rfl, rfl⟩ := h
          refine ru_if_eq (tgt := 35) d_Wo_append_28 (by decide) (fun h28 => ?_) (fun h28 => ?_)
          · skip
            refine ru_iconst (v := 0) d_Wo_append_35 (by decide) ?_
            refine ru_istore_n d_Wo_append_36 rfl (by decide) ?_
            refine ru_iload_n d_Wo_append_37 rfl rfl ?_
            refine ru_if_eq (tgt := 51) d_Wo_append_38 (by decide) (fun h38 => ?_) (fun h38 => absurd rfl h38)
            refine ru_iconst (v := 0) d_Wo_append_51 (by decide) ?_
            refine ru_zret (ty := .boolean) d_Wo_append_52 rfl rfl ?_
            have hu : ¬ isTC u := by have q := bI_eq0.mp h28; clear h28; simp only [iq, i_32, i_10, i_59, i_46] at *; unfold isTC; unfold isLD at q ⊢; omega
            exact ⟨by rw [bI_f (fun q => hu q.1)], by rw [if_neg (fun q => hu q.1)]⟩
          · skip
            refine ru_iconst (v := 1) d_Wo_append_31 (by decide) ?_
            refine ru_goto (tgt := 36) d_Wo_append_32 (by decide) ?_
            exact fin (by first | exact Or.inr (Or.inr (Or.inr (Or.inr (bI_ne0.mp h28)))) | (simp only [iq, i_32, i_10, i_59, i_46] at *; unfold isTC; omega))
theorem sp_endOfDigits {e i : Nat} (hL : LAY nx ct mr) (he : mi 266 3 = nI e) (he2 : e ≤ 3000) (hi : i ≤ e) : rx_Calls y_Wo_endOfDigits M_Wo_endOfDigits 0 0 0 [.ref 266, .int (nI i)] (nx, ct, mi, ml, mr) (fun v τ => v = some (.int (nI (de e (mi 267) (e - i) i))) ∧ τ = (nx, ct, mi, ml, mr)) := by
  refine rx_enter (by decide) rfl rfl (Nat.le_of_ble_eq_true rfl) ?_
  have loop : ∀ f i, i ≤ e → f = e - i → rx_W M_Wo_endOfDigits 0 0 0 2 [(0, .ref 266), (2, .int (nI i))] [] (nx, ct, mi, ml, mr) (pR (fun v τ => v = some (.int (nI (de e (mi 267) f i))) ∧ τ = (nx, ct, mi, ml, mr))) := by
    intro f
    induction f with
    | zero =>
      intro i hi hf
      refine ru_iload_n d_Wo_endOfDigits_2 rfl rfl ?_
      refine ru_aload_n d_Wo_endOfDigits_3 rfl rfl ?_
      refine ru_getI d_Wo_endOfDigits_4 lf_Wo_23 (ly hL 266 7 0) rfl ?_
      refine ru_eqi he ?_
      refine ru_icmp_ge (tgt := 38) d_Wo_endOfDigits_7 (by decide) (fun h7 => ?_) (fun h7 => absurd (nI_le (by omega) (by omega)) h7)
      refine ru_iload_n d_Wo_endOfDigits_38 rfl rfl ?_
      refine ru_iret d_Wo_endOfDigits_39 rfl ?_
      exact ⟨rfl, rfl⟩
    | succ f ih =>
      intro i hi hf
      unfold de
      refine ru_iload_n d_Wo_endOfDigits_2 rfl rfl ?_
      refine ru_aload_n d_Wo_endOfDigits_3 rfl rfl ?_
      refine ru_getI d_Wo_endOfDigits_4 lf_Wo_23 (ly hL 266 7 0) rfl ?_
      refine ru_eqi he ?_
      refine ru_icmp_ge (tgt := 38) d_Wo_endOfDigits_7 (by decide) (fun h7 => absurd h7 (nI_ge (by omega) (by omega))) (fun h7 => ?_)
      refine ru_aload_n d_Wo_endOfDigits_10 rfl rfl ?_
      refine ru_getR d_Wo_endOfDigits_11 lf_Wo_9 (ly hL 266 7 0) rfl (lr hL 266 0 267) ?_
      refine ru_iload_n d_Wo_endOfDigits_14 rfl rfl ?_
      refine ru_caldN d_Wo_endOfDigits_15 (ly hL 267 101 3000) (by omega) (by decide) ?_
      refine ru_bipush (v := 48) d_Wo_endOfDigits_16 (by decide) ?_
      refine ru_icmp_lt (tgt := 38) d_Wo_endOfDigits_18 (by decide) (fun h18 => ?_) (fun h18 => ?_)
      · skip
        refine ru_iload_n d_Wo_endOfDigits_38 rfl rfl ?_
        refine ru_iret d_Wo_endOfDigits_39 rfl ?_
        rw [if_neg (by simp only [il, i_48, i_57] at *; omega)]
        exact ⟨rfl, rfl⟩
      · skip
        refine ru_aload_n d_Wo_endOfDigits_21 rfl rfl ?_
        refine ru_getR d_Wo_endOfDigits_22 lf_Wo_9 (ly hL 266 7 0) rfl (lr hL 266 0 267) ?_
        refine ru_iload_n d_Wo_endOfDigits_25 rfl rfl ?_
        refine ru_caldN d_Wo_endOfDigits_26 (ly hL 267 101 3000) (by omega) (by decide) ?_
        refine ru_bipush (v := 57) d_Wo_endOfDigits_27 (by decide) ?_
        refine ru_icmp_gt (tgt := 38) d_Wo_endOfDigits_29 (by decide) (fun h29 => ?_) (fun h29 => ?_)
        · skip
          refine ru_iload_n d_Wo_endOfDigits_38 rfl rfl ?_
          refine ru_iret d_Wo_endOfDigits_39 rfl ?_
          rw [if_neg (by simp only [il, i_48, i_57] at *; omega)]
          exact ⟨rfl, rfl⟩
        · skip
          refine ru_iinc d_Wo_endOfDigits_32 rfl (nI_1 i) (by decide) ?_
          refine ru_goto (tgt := 2) d_Wo_endOfDigits_35 (by decide) ?_
          rw [if_pos (by simp only [il, i_48, i_57] at *; omega)]
          exact ru_to (ih (i + 1) (by omega) (by omega)) ⟨rfl, rfl, trivial⟩
  refine ru_iload_n d_Wo_endOfDigits_0 rfl rfl ?_
  refine ru_istore_n d_Wo_endOfDigits_1 rfl (by decide) ?_
  exact ru_to (loop _ i hi rfl) ⟨rfl, rfl, trivial⟩
theorem sp_goOn {n b : Nat} (hL : LAY nx ct mr) (hn : mi 266 1 = nI n) (hn2 : n ≤ 3000) (hb : mi 266 3 = nI b) (hb2 : b ≤ n) : rx_Calls y_Wo_goOn M_Wo_goOn 0 0 0 [.ref 266] (nx, ct, mi, ml, mr) (fun v τ => v = none ∧ τ = (nx, ct, rx_u (rx_u (rx_u (rx_u mi 266 5 (mi 266 5 + nI (nls n (mi 267) (n - b) b))) 266 2 (nI (sk n (mi 267) (n - b) b))) 266 3 (nI (wordEnd n (mi 267) (sk n (mi 267) (n - b) b)))) 266 4 (mi 266 4 + 1), ml, mr)) := by
  refine rx_enter (by decide) rfl rfl (Nat.le_of_ble_eq_true rfl) ?_
  generalize hp : (fun (v : Option Value) (τ : rx_S) => v = none ∧ τ = (nx, ct, rx_u (rx_u (rx_u (rx_u mi 266 5 (mi 266 5 + nI (nls n (mi 267) (n - b) b))) 266 2 (nI (sk n (mi 267) (n - b) b))) 266 3 (nI (wordEnd n (mi 267) (sk n (mi 267) (n - b) b)))) 266 4 (mi 266 4 + 1), ml, mr)) = post
  -- the end, from 117
  have fin : ∀ (m1 : Nat → Nat → Int32) (e : Nat), post none (nx, ct, rx_u (rx_u m1 266 3 (nI e)) 266 4 (m1 266 4 + 1), ml, mr) → rx_W M_Wo_goOn 0 0 0 117 [(0, .ref 266), (1, .int (nI e))] [] (nx, ct, m1, ml, mr) (pR post) := by
    intro m1 e h
    refine ru_aload_n d_Wo_goOn_117 rfl rfl ?_
    refine ru_iload_n d_Wo_goOn_118 rfl rfl ?_
    refine ru_putI d_Wo_goOn_119 lf_Wo_23 (ly hL 266 7 0) rfl (fun q hq => by cases hq; exact Or.inl rfl) ⟨rfl, rfl⟩ ?_
    refine ru_aload_n d_Wo_goOn_122 rfl rfl ?_
    refine ru_dup d_Wo_goOn_123 rfl ?_
    refine ru_getI d_Wo_goOn_124 lf_Wo_26 (ly hL 266 7 0) rfl ?_
    refine ru_iconst (v := 1) d_Wo_goOn_127 (by decide) ?_
    refine ru_iadd d_Wo_goOn_128 ?_
    refine ru_putI d_Wo_goOn_129 lf_Wo_26 (ly hL 266 7 0) rfl (fun q hq => by cases hq; exact Or.inl rfl) ⟨rfl, rfl⟩ ?_
    refine ru_vret d_Wo_goOn_132 rfl ?_
    rw [rx_u_k _ _ (by decide)]
    exact h
  -- the second loop, from 81
  have loop2 : ∀ (m1 : Nat → Nat → Int32), m1 266 1 = nI n → m1 267 = mi 267 → ∀ f i, i ≤ n → f = n - i → post none (nx, ct, rx_u (rx_u m1 266 3 (nI (we n (mi 267) f i))) 266 4 (m1 266 4 + 1), ml, mr) → rx_W M_Wo_goOn 0 0 0 81 [(0, .ref 266), (1, .int (nI i))] [] (nx, ct, m1, ml, mr) (pR post) := by
    intro m1 h1 h2 f
    induction f with
    | zero =>
      intro i hi hf h
      refine ru_iload_n d_Wo_goOn_81 rfl rfl ?_
      refine ru_aload_n d_Wo_goOn_82 rfl rfl ?_
      refine ru_getI d_Wo_goOn_83 lf_Wo_19 (ly hL 266 7 0) rfl ?_
      refine ru_eqi h1 ?_
      refine ru_icmp_ge (tgt := 117) d_Wo_goOn_86 (by decide) (fun h86 => ?_) (fun h86 => absurd (nI_le (by omega) (by omega)) h86)
      exact fin _ _ h
    | succ f ih =>
      intro i hi hf h
      unfold we at h
      refine ru_iload_n d_Wo_goOn_81 rfl rfl ?_
      refine ru_aload_n d_Wo_goOn_82 rfl rfl ?_
      refine ru_getI d_Wo_goOn_83 lf_Wo_19 (ly hL 266 7 0) rfl ?_
      refine ru_eqi h1 ?_
      refine ru_icmp_ge (tgt := 117) d_Wo_goOn_86 (by decide) (fun h86 => absurd h86 (nI_ge (by omega) (by omega))) (fun h86 => ?_)
      refine ru_aload_n d_Wo_goOn_89 rfl rfl ?_
      refine ru_getR d_Wo_goOn_90 lf_Wo_9 (ly hL 266 7 0) rfl (lr hL 266 0 267) ?_
      refine ru_iload_n d_Wo_goOn_93 rfl rfl ?_
      refine ru_caldN d_Wo_goOn_94 (ly hL 267 101 3000) (by omega) (by decide) ?_
      rw [h2]
      refine ru_bipush (v := 32) d_Wo_goOn_95 (by decide) ?_
      refine ru_icmp_le (tgt := 117) d_Wo_goOn_97 (by decide) (fun h97 => ?_) (fun h97 => ?_)
      · skip
        rw [if_neg (by simp only [ie, iq, i_32, i_59] at *; omega)] at h
        exact fin _ _ h
      · skip
        refine ru_aload_n d_Wo_goOn_100 rfl rfl ?_
        refine ru_getR d_Wo_goOn_101 lf_Wo_9 (ly hL 266 7 0) rfl (lr hL 266 0 267) ?_
        refine ru_iload_n d_Wo_goOn_104 rfl rfl ?_
        refine ru_caldN d_Wo_goOn_105 (ly hL 267 101 3000) (by omega) (by decide) ?_
        rw [h2]
        refine ru_bipush (v := 59) d_Wo_goOn_106 (by decide) ?_
        refine ru_icmp_eq (tgt := 117) d_Wo_goOn_108 (by decide) (fun h108 => ?_) (fun h108 => ?_)
        · skip
          rw [if_neg (by simp only [ie, iq, i_32, i_59] at *; omega)] at h
          exact fin _ _ h
        · skip
          refine ru_iinc d_Wo_goOn_111 rfl (nI_1 i) (by decide) ?_
          refine ru_goto (tgt := 81) d_Wo_goOn_114 (by decide) ?_
          rw [if_pos (by simp only [ie, iq, i_32, i_59] at *; omega)] at h
          exact ru_to (ih (i + 1) (by omega) (by omega) h) ⟨rfl, rfl, trivial⟩
  -- from 51: the start is told
  have mid : ∀ (m1 : Nat → Nat → Int32) (i : Nat), m1 266 1 = nI n → m1 267 = mi 267 → i ≤ n → post none (nx, ct, rx_u (rx_u (rx_u m1 266 2 (nI i)) 266 3 (nI (wordEnd n (mi 267) i))) 266 4 (m1 266 4 + 1), ml, mr) → rx_W M_Wo_goOn 0 0 0 51 [(0, .ref 266), (1, .int (nI i))] [] (nx, ct, m1, ml, mr) (pR post) := by
    intro m1 i h1 h2 hi h
    have h1' : rx_u m1 266 2 (nI i) 266 1 = nI n := by rw [rx_u_k _ _ (by decide)]; exact h1
    have h2' : rx_u m1 266 2 (nI i) 267 = mi 267 := by rw [rx_u_r _ _ (by decide)]; exact h2
    have h4' : rx_u m1 266 2 (nI i) 266 4 = m1 266 4 := rx_u_k _ _ (by decide)
    unfold wordEnd at h
    refine ru_aload_n d_Wo_goOn_51 rfl rfl ?_
    refine ru_iload_n d_Wo_goOn_52 rfl rfl ?_
    refine ru_putI d_Wo_goOn_53 lf_Wo_35 (ly hL 266 7 0) rfl (fun q hq => by cases hq; exact Or.inl rfl) ⟨rfl, rfl⟩ ?_
    refine ru_iload_n d_Wo_goOn_56 rfl rfl ?_
    refine ru_aload_n d_Wo_goOn_57 rfl rfl ?_
    refine ru_getI d_Wo_goOn_58 lf_Wo_19 (ly hL 266 7 0) rfl ?_
    refine ru_eqi h1' ?_
    refine ru_icmp_ge (tgt := 81) d_Wo_goOn_61 (by decide) (fun h61 => ?_) (fun h61 => ?_)
    · skip
      rw [if_neg (by first | (rintro ⟨q, -⟩; exact absurd h61 (nI_ge q (by omega))) | (rintro ⟨-, q⟩; exact h72 (by rw [iq, i_59]; exact q)))] at h
      exact loop2 _ h1' h2' _ i hi rfl (by rw [h4']; exact h)
    · skip
      refine ru_aload_n d_Wo_goOn_64 rfl rfl ?_
      refine ru_getR d_Wo_goOn_65 lf_Wo_9 (ly hL 266 7 0) rfl (lr hL 266 0 267) ?_
      refine ru_iload_n d_Wo_goOn_68 rfl rfl ?_
      refine ru_caldN d_Wo_goOn_69 (ly hL 267 101 3000) (Nat.lt_of_lt_of_le (Nat.lt_of_not_le (fun q => h61 (nI_le q (by omega)))) hn2) (by decide) ?_
      rw [h2']
      refine ru_bipush (v := 59) d_Wo_goOn_70 (by decide) ?_
      refine ru_icmp_ne (tgt := 81) d_Wo_goOn_72 (by decide) (fun h72 => ?_) (fun h72 => ?_)
      · skip
        rw [if_neg (by first | (rintro ⟨q, -⟩; exact absurd h61 (nI_ge q (by omega))) | (rintro ⟨-, q⟩; exact h72 (by rw [iq, i_59]; exact q)))] at h
        exact loop2 _ h1' h2' _ i hi rfl (by rw [h4']; exact h)
      · skip
        refine ru_iinc d_Wo_goOn_75 rfl (nI_1 i) (by decide) ?_
        refine ru_goto (tgt := 117) d_Wo_goOn_78 (by decide) ?_
        rw [if_pos ⟨Nat.lt_of_not_le (fun q => h61 (nI_le q (by omega))), by rw [h72, i_59]⟩] at h
        exact ru_to (fin _ (i + 1) (by rw [h4']; exact h)) ⟨rfl, rfl, trivial⟩
  -- the first loop, from 5
  have loop1 : ∀ f (m1 : Nat → Nat → Int32) i, m1 266 1 = nI n → m1 267 = mi 267 → i ≤ n → f = n - i → post none (nx, ct, rx_u (rx_u (rx_u (rx_u m1 266 5 (m1 266 5 + nI (nls n (mi 267) f i))) 266 2 (nI (sk n (mi 267) f i))) 266 3 (nI (wordEnd n (mi 267) (sk n (mi 267) f i)))) 266 4 (m1 266 4 + 1), ml, mr) → rx_W M_Wo_goOn 0 0 0 5 [(0, .ref 266), (1, .int (nI i))] [] (nx, ct, m1, ml, mr) (pR post) := by
    intro f
    induction f with
    | zero =>
      intro m1 i h1 h2 hi hf h
      unfold nls sk at h
      refine ru_iload_n d_Wo_goOn_5 rfl rfl ?_
      refine ru_aload_n d_Wo_goOn_6 rfl rfl ?_
      refine ru_getI d_Wo_goOn_7 lf_Wo_19 (ly hL 266 7 0) rfl ?_
      refine ru_eqi h1 ?_
      refine ru_icmp_ge (tgt := 51) d_Wo_goOn_10 (by decide) (fun h10 => ?_) (fun h10 => absurd (nI_le (by omega) (by omega)) h10)
      refine mid _ i h1 h2 hi ?_
      rw [nI_0, Int32.add_zero, rx_u_id] at h
      exact h
    | succ f ih =>
      intro m1 i h1 h2 hi hf h
      unfold nls sk at h
      refine ru_iload_n d_Wo_goOn_5 rfl rfl ?_
      refine ru_aload_n d_Wo_goOn_6 rfl rfl ?_
      refine ru_getI d_Wo_goOn_7 lf_Wo_19 (ly hL 266 7 0) rfl ?_
      refine ru_eqi h1 ?_
      refine ru_icmp_ge (tgt := 51) d_Wo_goOn_10 (by decide) (fun h10 => absurd h10 (nI_ge (by omega) (by omega))) (fun h10 => ?_)
      refine ru_aload_n d_Wo_goOn_13 rfl rfl ?_
      refine ru_getR d_Wo_goOn_14 lf_Wo_9 (ly hL 266 7 0) rfl (lr hL 266 0 267) ?_
      refine ru_iload_n d_Wo_goOn_17 rfl rfl ?_
      refine ru_caldN d_Wo_goOn_18 (ly hL 267 101 3000) (by omega) (by decide) ?_
      rw [h2]
      refine ru_bipush (v := 32) d_Wo_goOn_19 (by decide) ?_
      refine ru_icmp_gt (tgt := 51) d_Wo_goOn_21 (by decide) (fun h21 => ?_) (fun h21 => ?_)
      · skip
        rw [if_neg (by simp only [il, i_32] at *; omega), if_neg (by simp only [il, i_32] at *; omega)] at h
        refine mid _ i h1 h2 hi ?_
        rw [nI_0, Int32.add_zero, rx_u_id] at h
        exact h
      · skip
        refine ru_aload_n d_Wo_goOn_24 rfl rfl ?_
        refine ru_getR d_Wo_goOn_25 lf_Wo_9 (ly hL 266 7 0) rfl (lr hL 266 0 267) ?_
        refine ru_iload_n d_Wo_goOn_28 rfl rfl ?_
        refine ru_caldN d_Wo_goOn_29 (ly hL 267 101 3000) (by omega) (by decide) ?_
        rw [h2]
        refine ru_bipush (v := 10) d_Wo_goOn_30 (by decide) ?_
        refine ru_icmp_ne (tgt := 45) d_Wo_goOn_32 (by decide) (fun h32 => ?_) (fun h32 => ?_)
        · skip
          refine ru_iinc d_Wo_goOn_45 rfl (nI_1 i) (by decide) ?_
          refine ru_goto (tgt := 5) d_Wo_goOn_48 (by decide) ?_
          have hb : i < n ∧ (mi 267 i).toInt ≤ 32 := ⟨by omega, by simp only [il, i_32] at *; omega⟩
          rw [if_pos hb, if_pos hb] at h
          first | (rw [if_pos (show (mi 267 i).toInt = 10 by rw [h32, i_10])] at h; refine ru_to (ih _ (i + 1) (by rw [rx_u_k _ _ (by decide)]; exact h1) (by rw [rx_u_r _ _ (by decide)]; exact h2) (by omega) (by omega) ?_) ⟨rfl, rfl, trivial⟩; rw [rx_u_u, rx_u_same, rx_u_k _ _ (by decide)]; rw [Int32.add_assoc, ← nI_add 1] at *; exact h) | (rw [if_neg (show ¬ (mi 267 i).toInt = 10 by intro q; exact h32 (by rw [iq, i_10]; exact q)), Nat.zero_add] at h; exact ru_to (ih _ (i + 1) h1 h2 (by omega) (by omega) h) ⟨rfl, rfl, trivial⟩)
        · skip
          refine ru_aload_n d_Wo_goOn_35 rfl rfl ?_
          refine ru_dup d_Wo_goOn_36 rfl ?_
          refine ru_getI d_Wo_goOn_37 lf_Wo_29 (ly hL 266 7 0) rfl ?_
          refine ru_iconst (v := 1) d_Wo_goOn_40 (by decide) ?_
          refine ru_iadd d_Wo_goOn_41 ?_
          refine ru_putI d_Wo_goOn_42 lf_Wo_29 (ly hL 266 7 0) rfl (fun q hq => by cases hq; exact Or.inl rfl) ⟨rfl, rfl⟩ ?_
          refine ru_iinc d_Wo_goOn_45 rfl (nI_1 i) (by decide) ?_
          refine ru_goto (tgt := 5) d_Wo_goOn_48 (by decide) ?_
          have hb : i < n ∧ (mi 267 i).toInt ≤ 32 := ⟨by omega, by simp only [il, i_32] at *; omega⟩
          rw [if_pos hb, if_pos hb] at h
          first | (rw [if_pos (show (mi 267 i).toInt = 10 by rw [h32, i_10])] at h; refine ru_to (ih _ (i + 1) (by rw [rx_u_k _ _ (by decide)]; exact h1) (by rw [rx_u_r _ _ (by decide)]; exact h2) (by omega) (by omega) ?_) ⟨rfl, rfl, trivial⟩; rw [rx_u_u, rx_u_same, rx_u_k _ _ (by decide)]; rw [Int32.add_assoc, ← nI_add 1] at *; exact h) | (rw [if_neg (show ¬ (mi 267 i).toInt = 10 by intro q; exact h32 (by rw [iq, i_10]; exact q)), Nat.zero_add] at h; exact ru_to (ih _ (i + 1) h1 h2 (by omega) (by omega) h) ⟨rfl, rfl, trivial⟩)
  refine ru_aload_n d_Wo_goOn_0 rfl rfl ?_
  refine ru_getI d_Wo_goOn_1 lf_Wo_23 (ly hL 266 7 0) rfl ?_
  refine ru_eqi hb ?_
  refine ru_istore_n d_Wo_goOn_4 rfl (by decide) ?_
  refine ru_to (loop1 _ _ b hn rfl hb2 rfl ?_) ⟨rfl, rfl, trivial⟩
  rw [← hp]
  exact ⟨rfl, rfl⟩
end
end
section
/-! PURE WALKS: a method that has changed nothing yet -/
def rx_V (M : rx_M) (d mc ms pc : Nat) (lo : List (Nat × Value)) (st : List Value) (σ : rx_S) (post : rx_End) : Prop :=
  ∀ (l : Launch) (ev : rx_E) (p : Program) (e : Env) (s : State) (m : MethodId) (args : Array Value) (below : List Frame) (meth : Method) (c : Code), rx_C l ev M p s m args meth c →
    ∀ (R : Room) (mt sst : Nat) (ls : Array Slot), rx_at ev M d mc ms lo σ R s.heap [] 0 0 mt sst ls →
      W p l e R s m args below meth c s.heap [] 0 0 (post below ev args s mt sst) (F0 m pc ls (st.map (rx_tv ev)))
/-- it returns so, and nothing has changed -/
def pP (post : Option Value → Prop) : rx_End := fun below ev args s mt sst => MQ below (fun _ st o t => ∃ v : Option Value, o = .returned (v.map (rx_tv ev)) ∧ post v ∧ t.heap = st.heap) args s mt sst (fun _ => False)
def rx_Pure (y : MethodName) (M : rx_M) (d : Nat) (as : List Value) (σ : rx_S) (post : Option Value → Prop) : Prop :=
  ∀ (l : Launch), l.stackTraces = false → ∀ (ev : rx_E), Met l y (rx_ws y M) { frames := d, cells := 0, slots := 0, locals := 40 * d } (rx_P ev as σ) (fun _ st o t => ∃ v : Option Value, o = .returned (v.map (rx_tv ev)) ∧ post v ∧ t.heap = st.heap) 0 0 (fun _ => False)

section
variable {M : rx_M} {d mc ms pc : Nat} {lo : List (Nat × Value)} {st : List Value} {σ : rx_S} {post : rx_End}
theorem rv_iconst {n : Int} {v : Int32} (hd : decode M.2.1 pc = .ok (.iconst n, 1)) (hv : Int32.ofInt n = v) (k : rx_V M d mc ms (pc + 1) lo (.int v :: st) σ post) : rx_V M d mc ms pc lo (st) σ post := by
  intro l ev p e s m args below meth c C R mt sst ls A
  exact lv_iconst C.1 C.2.1 hd hv (k l ev p e s m args below meth c C R mt sst ls A)
theorem rv_bipush {n : Int} {v : Int32} (hd : decode M.2.1 pc = .ok (.bipush n, 2)) (hv : (Int8.ofInt n).toInt32 = v) (k : rx_V M d mc ms (pc + 2) lo (.int v :: st) σ post) : rx_V M d mc ms pc lo (st) σ post := by
  intro l ev p e s m args below meth c C R mt sst ls A
  exact lv_bipush C.1 C.2.1 hd hv (k l ev p e s m args below meth c C R mt sst ls A)
theorem rv_sipush {n : Int} {v : Int32} (hd : decode M.2.1 pc = .ok (.sipush n, 3)) (hv : (Int16.ofInt n).toInt32 = v) (k : rx_V M d mc ms (pc + 3) lo (.int v :: st) σ post) : rx_V M d mc ms pc lo (st) σ post := by
  intro l ev p e s m args below meth c C R mt sst ls A
  exact lv_sipush C.1 C.2.1 hd hv (k l ev p e s m args below meth c C R mt sst ls A)
theorem rv_lconst {n : Fin 2} {v : Int64} (hd : decode M.2.1 pc = .ok (.lconst n, 1)) (hv : Int64.ofNat (n : Nat) = v) (k : rx_V M d mc ms (pc + 1) lo (.long v :: st) σ post) : rx_V M d mc ms pc lo (st) σ post := by
  intro l ev p e s m args below meth c C R mt sst ls A
  exact lv_lconst C.1 C.2.1 hd hv (k l ev p e s m args below meth c C R mt sst ls A)
theorem rv_null  (hd : decode M.2.1 pc = .ok (.aconst_null, 1))  (k : rx_V M d mc ms (pc + 1) lo (.null :: st) σ post) : rx_V M d mc ms pc lo (st) σ post := by
  intro l ev p e s m args below meth c C R mt sst ls A
  exact lv_null C.1 C.2.1 hd  (k l ev p e s m args below meth c C R mt sst ls A)
theorem rv_iload {i : Nat} {x : Int32} (hd : decode M.2.1 pc = .ok (.iload i, 2)) (hl : rx_get i lo = some (.int x)) (k : rx_V M d mc ms (pc + 2) lo (.int x :: st) σ post) : rx_V M d mc ms pc lo (st) σ post := by
  intro l ev p e s m args below meth c C R mt sst ls A
  exact lv_iload C.1 C.2.1 hd (rx_ld A hl) (k l ev p e s m args below meth c C R mt sst ls A)
theorem rv_iload_n {n : Fin 4} {i : Nat} {x : Int32} (hd : decode M.2.1 pc = .ok (.iload_n n, 1)) (hi : (n : Nat) = i) (hl : rx_get i lo = some (.int x)) (k : rx_V M d mc ms (pc + 1) lo (.int x :: st) σ post) : rx_V M d mc ms pc lo (st) σ post := by
  intro l ev p e s m args below meth c C R mt sst ls A
  exact lv_iload_n C.1 C.2.1 hd hi (rx_ld A hl) (k l ev p e s m args below meth c C R mt sst ls A)
theorem rv_lload {i : Nat} {x : Int64} (hd : decode M.2.1 pc = .ok (.lload i, 2)) (hl : rx_get i lo = some (.long x)) (k : rx_V M d mc ms (pc + 2) lo (.long x :: st) σ post) : rx_V M d mc ms pc lo (st) σ post := by
  intro l ev p e s m args below meth c C R mt sst ls A
  exact lv_lload C.1 C.2.1 hd (rx_ld A hl) (k l ev p e s m args below meth c C R mt sst ls A)
theorem rv_lload_n {n : Fin 4} {i : Nat} {x : Int64} (hd : decode M.2.1 pc = .ok (.lload_n n, 1)) (hi : (n : Nat) = i) (hl : rx_get i lo = some (.long x)) (k : rx_V M d mc ms (pc + 1) lo (.long x :: st) σ post) : rx_V M d mc ms pc lo (st) σ post := by
  intro l ev p e s m args below meth c C R mt sst ls A
  exact lv_lload_n C.1 C.2.1 hd hi (rx_ld A hl) (k l ev p e s m args below meth c C R mt sst ls A)
theorem rv_aload {i x : Nat} (hd : decode M.2.1 pc = .ok (.aload i, 2)) (hl : rx_get i lo = some (.ref x)) (k : rx_V M d mc ms (pc + 2) lo (.ref x :: st) σ post) : rx_V M d mc ms pc lo (st) σ post := by
  intro l ev p e s m args below meth c C R mt sst ls A
  exact lv_aload C.1 C.2.1 hd (rx_ld A hl) (k l ev p e s m args below meth c C R mt sst ls A)
theorem rv_aload_n {n : Fin 4} {i x : Nat} (hd : decode M.2.1 pc = .ok (.aload_n n, 1)) (hi : (n : Nat) = i) (hl : rx_get i lo = some (.ref x)) (k : rx_V M d mc ms (pc + 1) lo (.ref x :: st) σ post) : rx_V M d mc ms pc lo (st) σ post := by
  intro l ev p e s m args below meth c C R mt sst ls A
  exact lv_aload_n C.1 C.2.1 hd hi (rx_ld A hl) (k l ev p e s m args below meth c C R mt sst ls A)
theorem rv_aloadN {i : Nat} (hd : decode M.2.1 pc = .ok (.aload i, 2)) (hl : rx_get i lo = some .null) (k : rx_V M d mc ms (pc + 2) lo (.null :: st) σ post) : rx_V M d mc ms pc lo (st) σ post := by
  intro l ev p e s m args below meth c C R mt sst ls A
  exact lv_aloadN C.1 C.2.1 hd (rx_ld A hl) (k l ev p e s m args below meth c C R mt sst ls A)
theorem rv_aload_nN {n : Fin 4} {i : Nat} (hd : decode M.2.1 pc = .ok (.aload_n n, 1)) (hi : (n : Nat) = i) (hl : rx_get i lo = some .null) (k : rx_V M d mc ms (pc + 1) lo (.null :: st) σ post) : rx_V M d mc ms pc lo (st) σ post := by
  intro l ev p e s m args below meth c C R mt sst ls A
  exact lv_aload_nN C.1 C.2.1 hd hi (rx_ld A hl) (k l ev p e s m args below meth c C R mt sst ls A)
theorem rv_istore {i : Nat} {x : Int32} (hd : decode M.2.1 pc = .ok (.istore i, 2)) (hn : i < M.2.2.1) (k : rx_V M d mc ms (pc + 2) (rx_st1 i (.int x) lo) st σ post) : rx_V M d mc ms pc lo ((.int x) :: st) σ post := by
  intro l ev p e s m args below meth c C R mt sst ls A
  refine lv_istore C.1 C.2.1 hd A.2.2.2.1 hn rfl (fun ls hl => ?_)
  exact k l ev p e s m args below meth c C R mt sst ls (A.lo (rx_st1_map hl))
theorem rv_istore_n {n : Fin 4} {i : Nat} {x : Int32} (hd : decode M.2.1 pc = .ok (.istore_n n, 1)) (hi : (n : Nat) = i) (hn : i < M.2.2.1) (k : rx_V M d mc ms (pc + 1) (rx_st1 i (.int x) lo) st σ post) : rx_V M d mc ms pc lo ((.int x) :: st) σ post := by
  intro l ev p e s m args below meth c C R mt sst ls A
  refine lv_istore_n C.1 C.2.1 hd hi A.2.2.2.1 hn rfl (fun ls hl => ?_)
  exact k l ev p e s m args below meth c C R mt sst ls (A.lo (rx_st1_map hl))
theorem rv_lstore {i : Nat} {x : Int64} (hd : decode M.2.1 pc = .ok (.lstore i, 2)) (hn : i + 1 < M.2.2.1) (k : rx_V M d mc ms (pc + 2) (rx_st2 i (.long x) lo) st σ post) : rx_V M d mc ms pc lo ((.long x) :: st) σ post := by
  intro l ev p e s m args below meth c C R mt sst ls A
  refine lv_lstore C.1 C.2.1 hd A.2.2.2.1 hn rfl (fun ls hl => ?_)
  exact k l ev p e s m args below meth c C R mt sst ls (A.lo (rx_st2_map hl))
theorem rv_lstore_n {n : Fin 4} {i : Nat} {x : Int64} (hd : decode M.2.1 pc = .ok (.lstore_n n, 1)) (hi : (n : Nat) = i) (hn : i + 1 < M.2.2.1) (k : rx_V M d mc ms (pc + 1) (rx_st2 i (.long x) lo) st σ post) : rx_V M d mc ms pc lo ((.long x) :: st) σ post := by
  intro l ev p e s m args below meth c C R mt sst ls A
  refine lv_lstore_n C.1 C.2.1 hd hi A.2.2.2.1 hn rfl (fun ls hl => ?_)
  exact k l ev p e s m args below meth c C R mt sst ls (A.lo (rx_st2_map hl))
theorem rv_astore {i : Nat} {x : Nat} (hd : decode M.2.1 pc = .ok (.astore i, 2)) (hn : i < M.2.2.1) (k : rx_V M d mc ms (pc + 2) (rx_st1 i (.ref x) lo) st σ post) : rx_V M d mc ms pc lo ((.ref x) :: st) σ post := by
  intro l ev p e s m args below meth c C R mt sst ls A
  refine lv_astore C.1 C.2.1 hd A.2.2.2.1 hn rfl (fun ls hl => ?_)
  exact k l ev p e s m args below meth c C R mt sst ls (A.lo (rx_st1_map hl))
theorem rv_astore_n {n : Fin 4} {i : Nat} {x : Nat} (hd : decode M.2.1 pc = .ok (.astore_n n, 1)) (hi : (n : Nat) = i) (hn : i < M.2.2.1) (k : rx_V M d mc ms (pc + 1) (rx_st1 i (.ref x) lo) st σ post) : rx_V M d mc ms pc lo ((.ref x) :: st) σ post := by
  intro l ev p e s m args below meth c C R mt sst ls A
  refine lv_astore_n C.1 C.2.1 hd hi A.2.2.2.1 hn rfl (fun ls hl => ?_)
  exact k l ev p e s m args below meth c C R mt sst ls (A.lo (rx_st1_map hl))
theorem rv_astoreN {i : Nat} (hd : decode M.2.1 pc = .ok (.astore i, 2)) (hn : i < M.2.2.1) (k : rx_V M d mc ms (pc + 2) (rx_st1 i (.null) lo) st σ post) : rx_V M d mc ms pc lo ((.null) :: st) σ post := by
  intro l ev p e s m args below meth c C R mt sst ls A
  refine lv_astoreN C.1 C.2.1 hd A.2.2.2.1 hn rfl (fun ls hl => ?_)
  exact k l ev p e s m args below meth c C R mt sst ls (A.lo (rx_st1_map hl))
theorem rv_astore_nN {n : Fin 4} {i : Nat} (hd : decode M.2.1 pc = .ok (.astore_n n, 1)) (hi : (n : Nat) = i) (hn : i < M.2.2.1) (k : rx_V M d mc ms (pc + 1) (rx_st1 i (.null) lo) st σ post) : rx_V M d mc ms pc lo ((.null) :: st) σ post := by
  intro l ev p e s m args below meth c C R mt sst ls A
  refine lv_astore_nN C.1 C.2.1 hd hi A.2.2.2.1 hn rfl (fun ls hl => ?_)
  exact k l ev p e s m args below meth c C R mt sst ls (A.lo (rx_st1_map hl))
theorem rv_iinc {i : Nat} {n : Int} {x v : Int32} (hd : decode M.2.1 pc = .ok (.iinc i n, 3)) (hl : rx_get i lo = some (.int x)) (hv : x + Int32.ofInt n = v) (hn : i < M.2.2.1) (k : rx_V M d mc ms (pc + 3) (rx_st1 i (.int v) lo) st σ post) : rx_V M d mc ms pc lo st σ post := by
  intro l ev p e s m args below meth c C R mt sst ls A
  obtain ⟨j, hj⟩ := List.getElem?_of_mem (rx_get_mem (ev := ev) hl)
  refine lv_iinc C.1 C.2.1 hd A.2.2.2.1 hj hv hn rfl (fun ls hl => ?_)
  exact k l ev p e s m args below meth c C R mt sst ls (A.lo (rx_st1_map hl))
theorem rv_iadd {x y : Int32} (hd : decode M.2.1 pc = .ok (.iadd, 1))  (k : rx_V M d mc ms (pc + 1) lo (.int (x + y) :: st) σ post) : rx_V M d mc ms pc lo (.int y :: .int x :: st) σ post := by
  intro l ev p e s m args below meth c C R mt sst ls A
  exact lv_iadd C.1 C.2.1 hd  (k l ev p e s m args below meth c C R mt sst ls A)
theorem rv_isub {x y : Int32} (hd : decode M.2.1 pc = .ok (.isub, 1))  (k : rx_V M d mc ms (pc + 1) lo (.int (x - y) :: st) σ post) : rx_V M d mc ms pc lo (.int y :: .int x :: st) σ post := by
  intro l ev p e s m args below meth c C R mt sst ls A
  exact lv_isub C.1 C.2.1 hd  (k l ev p e s m args below meth c C R mt sst ls A)
theorem rv_imul {x y : Int32} (hd : decode M.2.1 pc = .ok (.imul, 1))  (k : rx_V M d mc ms (pc + 1) lo (.int (x * y) :: st) σ post) : rx_V M d mc ms pc lo (.int y :: .int x :: st) σ post := by
  intro l ev p e s m args below meth c C R mt sst ls A
  exact lv_imul C.1 C.2.1 hd  (k l ev p e s m args below meth c C R mt sst ls A)
theorem rv_iand {x y : Int32} (hd : decode M.2.1 pc = .ok (.iand, 1))  (k : rx_V M d mc ms (pc + 1) lo (.int (x &&& y) :: st) σ post) : rx_V M d mc ms pc lo (.int y :: .int x :: st) σ post := by
  intro l ev p e s m args below meth c C R mt sst ls A
  exact lv_iand C.1 C.2.1 hd  (k l ev p e s m args below meth c C R mt sst ls A)
theorem rv_ior {x y : Int32} (hd : decode M.2.1 pc = .ok (.ior, 1))  (k : rx_V M d mc ms (pc + 1) lo (.int (x ||| y) :: st) σ post) : rx_V M d mc ms pc lo (.int y :: .int x :: st) σ post := by
  intro l ev p e s m args below meth c C R mt sst ls A
  exact lv_ior C.1 C.2.1 hd  (k l ev p e s m args below meth c C R mt sst ls A)
theorem rv_ixor {x y : Int32} (hd : decode M.2.1 pc = .ok (.ixor, 1))  (k : rx_V M d mc ms (pc + 1) lo (.int (x ^^^ y) :: st) σ post) : rx_V M d mc ms pc lo (.int y :: .int x :: st) σ post := by
  intro l ev p e s m args below meth c C R mt sst ls A
  exact lv_ixor C.1 C.2.1 hd  (k l ev p e s m args below meth c C R mt sst ls A)
theorem rv_ladd {x y : Int64} (hd : decode M.2.1 pc = .ok (.ladd, 1))  (k : rx_V M d mc ms (pc + 1) lo (.long (x + y) :: st) σ post) : rx_V M d mc ms pc lo (.long y :: .long x :: st) σ post := by
  intro l ev p e s m args below meth c C R mt sst ls A
  exact lv_ladd C.1 C.2.1 hd  (k l ev p e s m args below meth c C R mt sst ls A)
theorem rv_lsub {x y : Int64} (hd : decode M.2.1 pc = .ok (.lsub, 1))  (k : rx_V M d mc ms (pc + 1) lo (.long (x - y) :: st) σ post) : rx_V M d mc ms pc lo (.long y :: .long x :: st) σ post := by
  intro l ev p e s m args below meth c C R mt sst ls A
  exact lv_lsub C.1 C.2.1 hd  (k l ev p e s m args below meth c C R mt sst ls A)
theorem rv_lmul {x y : Int64} (hd : decode M.2.1 pc = .ok (.lmul, 1))  (k : rx_V M d mc ms (pc + 1) lo (.long (x * y) :: st) σ post) : rx_V M d mc ms pc lo (.long y :: .long x :: st) σ post := by
  intro l ev p e s m args below meth c C R mt sst ls A
  exact lv_lmul C.1 C.2.1 hd  (k l ev p e s m args below meth c C R mt sst ls A)
theorem rv_land {x y : Int64} (hd : decode M.2.1 pc = .ok (.land, 1))  (k : rx_V M d mc ms (pc + 1) lo (.long (x &&& y) :: st) σ post) : rx_V M d mc ms pc lo (.long y :: .long x :: st) σ post := by
  intro l ev p e s m args below meth c C R mt sst ls A
  exact lv_land C.1 C.2.1 hd  (k l ev p e s m args below meth c C R mt sst ls A)
theorem rv_lor {x y : Int64} (hd : decode M.2.1 pc = .ok (.lor, 1))  (k : rx_V M d mc ms (pc + 1) lo (.long (x ||| y) :: st) σ post) : rx_V M d mc ms pc lo (.long y :: .long x :: st) σ post := by
  intro l ev p e s m args below meth c C R mt sst ls A
  exact lv_lor C.1 C.2.1 hd  (k l ev p e s m args below meth c C R mt sst ls A)
theorem rv_lxor {x y : Int64} (hd : decode M.2.1 pc = .ok (.lxor, 1))  (k : rx_V M d mc ms (pc + 1) lo (.long (x ^^^ y) :: st) σ post) : rx_V M d mc ms pc lo (.long y :: .long x :: st) σ post := by
  intro l ev p e s m args below meth c C R mt sst ls A
  exact lv_lxor C.1 C.2.1 hd  (k l ev p e s m args below meth c C R mt sst ls A)
theorem rv_idiv {x y : Int32} (hd : decode M.2.1 pc = .ok (.idiv, 1)) (hne : ¬ y = 0) (k : rx_V M d mc ms (pc + 1) lo (.int (x / y) :: st) σ post) : rx_V M d mc ms pc lo (.int y :: .int x :: st) σ post := by
  intro l ev p e s m args below meth c C R mt sst ls A
  exact lv_idiv C.1 C.2.1 hd hne (k l ev p e s m args below meth c C R mt sst ls A)
theorem rv_irem {x y : Int32} (hd : decode M.2.1 pc = .ok (.irem, 1)) (hne : ¬ y = 0) (k : rx_V M d mc ms (pc + 1) lo (.int (x - x / y * y) :: st) σ post) : rx_V M d mc ms pc lo (.int y :: .int x :: st) σ post := by
  intro l ev p e s m args below meth c C R mt sst ls A
  exact lv_irem C.1 C.2.1 hd hne (k l ev p e s m args below meth c C R mt sst ls A)
theorem rv_ldiv {x y : Int64} (hd : decode M.2.1 pc = .ok (.ldiv, 1)) (hne : ¬ y = 0) (k : rx_V M d mc ms (pc + 1) lo (.long (x / y) :: st) σ post) : rx_V M d mc ms pc lo (.long y :: .long x :: st) σ post := by
  intro l ev p e s m args below meth c C R mt sst ls A
  exact lv_ldiv C.1 C.2.1 hd hne (k l ev p e s m args below meth c C R mt sst ls A)
theorem rv_lrem {x y : Int64} (hd : decode M.2.1 pc = .ok (.lrem, 1)) (hne : ¬ y = 0) (k : rx_V M d mc ms (pc + 1) lo (.long (x - x / y * y) :: st) σ post) : rx_V M d mc ms pc lo (.long y :: .long x :: st) σ post := by
  intro l ev p e s m args below meth c C R mt sst ls A
  exact lv_lrem C.1 C.2.1 hd hne (k l ev p e s m args below meth c C R mt sst ls A)
theorem rv_ineg {x : Int32} (hd : decode M.2.1 pc = .ok (.ineg, 1))  (k : rx_V M d mc ms (pc + 1) lo (.int (-x) :: st) σ post) : rx_V M d mc ms pc lo (.int x :: st) σ post := by
  intro l ev p e s m args below meth c C R mt sst ls A
  exact lv_ineg C.1 C.2.1 hd  (k l ev p e s m args below meth c C R mt sst ls A)
theorem rv_i2l {x : Int32} (hd : decode M.2.1 pc = .ok (.i2l, 1))  (k : rx_V M d mc ms (pc + 1) lo (.long x.toInt64 :: st) σ post) : rx_V M d mc ms pc lo (.int x :: st) σ post := by
  intro l ev p e s m args below meth c C R mt sst ls A
  exact lv_i2l C.1 C.2.1 hd rfl (k l ev p e s m args below meth c C R mt sst ls A)
theorem rv_l2i {x : Int64} (hd : decode M.2.1 pc = .ok (.l2i, 1))  (k : rx_V M d mc ms (pc + 1) lo (.int x.toInt32 :: st) σ post) : rx_V M d mc ms pc lo (.long x :: st) σ post := by
  intro l ev p e s m args below meth c C R mt sst ls A
  exact lv_l2i C.1 C.2.1 hd rfl (k l ev p e s m args below meth c C R mt sst ls A)
theorem rv_i2b {x : Int32} (hd : decode M.2.1 pc = .ok (.i2b, 1))  (k : rx_V M d mc ms (pc + 1) lo (.int x.toInt8.toInt32 :: st) σ post) : rx_V M d mc ms pc lo (.int x :: st) σ post := by
  intro l ev p e s m args below meth c C R mt sst ls A
  exact lv_i2b C.1 C.2.1 hd rfl (k l ev p e s m args below meth c C R mt sst ls A)
theorem rv_i2c {x : Int32} (hd : decode M.2.1 pc = .ok (.i2c, 1))  (k : rx_V M d mc ms (pc + 1) lo (.int (x.toUInt32 % 65536).toInt32 :: st) σ post) : rx_V M d mc ms pc lo (.int x :: st) σ post := by
  intro l ev p e s m args below meth c C R mt sst ls A
  exact lv_i2c C.1 C.2.1 hd rfl (k l ev p e s m args below meth c C R mt sst ls A)
theorem rv_iushr {x y : Int32} (hd : decode M.2.1 pc = .ok (.iushr, 1))  (k : rx_V M d mc ms (pc + 1) lo (.int (x.toUInt32 >>> (y.toUInt32 &&& Int32.toUInt32 31)).toInt32 :: st) σ post) : rx_V M d mc ms pc lo (.int y :: .int x :: st) σ post := by
  intro l ev p e s m args below meth c C R mt sst ls A
  exact lv_iushr C.1 C.2.1 hd rfl (k l ev p e s m args below meth c C R mt sst ls A)
theorem rv_lshl {x : Int64} {y : Int32} (hd : decode M.2.1 pc = .ok (.lshl, 1))  (k : rx_V M d mc ms (pc + 1) lo (.long (x <<< (y.toInt64 &&& 63)) :: st) σ post) : rx_V M d mc ms pc lo (.int y :: .long x :: st) σ post := by
  intro l ev p e s m args below meth c C R mt sst ls A
  exact lv_lshl C.1 C.2.1 hd rfl (k l ev p e s m args below meth c C R mt sst ls A)
theorem rv_ishl {x y : Int32} (hd : decode M.2.1 pc = .ok (.ishl, 1))  (k : rx_V M d mc ms (pc + 1) lo (.int (x <<< (y &&& 31)) :: st) σ post) : rx_V M d mc ms pc lo (.int y :: .int x :: st) σ post := by
  intro l ev p e s m args below meth c C R mt sst ls A
  exact lv_ishl C.1 C.2.1 hd  (k l ev p e s m args below meth c C R mt sst ls A)
theorem rv_ishr {x y : Int32} (hd : decode M.2.1 pc = .ok (.ishr, 1))  (k : rx_V M d mc ms (pc + 1) lo (.int (x >>> (y &&& 31)) :: st) σ post) : rx_V M d mc ms pc lo (.int y :: .int x :: st) σ post := by
  intro l ev p e s m args below meth c C R mt sst ls A
  exact lv_ishr C.1 C.2.1 hd  (k l ev p e s m args below meth c C R mt sst ls A)
theorem rv_lcmp {x y : Int64} (hd : decode M.2.1 pc = .ok (.lcmp, 1))  (k : rx_V M d mc ms (pc + 1) lo (.int (lg_cmp x y) :: st) σ post) : rx_V M d mc ms pc lo (.long y :: .long x :: st) σ post := by
  intro l ev p e s m args below meth c C R mt sst ls A
  exact W.lcmp C.1 C.2.1 hd  (k l ev p e s m args below meth c C R mt sst ls A)
theorem rv_dup {a : Value} (hd : decode M.2.1 pc = .ok (.dup, 1)) (ha : a.category = 1) (k : rx_V M d mc ms (pc + 1) lo (a :: a :: st) σ post) : rx_V M d mc ms pc lo (a :: st) σ post := by
  intro l ev p e s m args below meth c C R mt sst ls A
  exact lv_dup C.1 C.2.1 hd ((rx_tv_cat ev a).trans ha) (k l ev p e s m args below meth c C R mt sst ls A)
theorem rv_pop {a : Value} (hd : decode M.2.1 pc = .ok (.pop, 1)) (ha : a.category = 1) (k : rx_V M d mc ms (pc + 1) lo (st) σ post) : rx_V M d mc ms pc lo (a :: st) σ post := by
  intro l ev p e s m args below meth c C R mt sst ls A
  exact lv_pop C.1 C.2.1 hd ((rx_tv_cat ev a).trans ha) (k l ev p e s m args below meth c C R mt sst ls A)
theorem rv_dup_x1 {a b : Value} (hd : decode M.2.1 pc = .ok (.dup_x1, 1)) (ha : a.category = 1) (hb : b.category = 1) (k : rx_V M d mc ms (pc + 1) lo (a :: b :: a :: st) σ post) : rx_V M d mc ms pc lo (a :: b :: st) σ post := by
  intro l ev p e s m args below meth c C R mt sst ls A
  exact lv_dup_x1 C.1 C.2.1 hd ((rx_tv_cat ev a).trans ha) ((rx_tv_cat ev b).trans hb) (k l ev p e s m args below meth c C R mt sst ls A)
theorem rv_dup_x2 {a b v : Value} (hd : decode M.2.1 pc = .ok (.dup_x2, 1)) (ha : a.category = 1) (hb : b.category = 1) (hv : v.category = 1) (k : rx_V M d mc ms (pc + 1) lo (a :: b :: v :: a :: st) σ post) : rx_V M d mc ms pc lo (a :: b :: v :: st) σ post := by
  intro l ev p e s m args below meth c C R mt sst ls A
  exact lv_dup_x2 C.1 C.2.1 hd ((rx_tv_cat ev a).trans ha) ((rx_tv_cat ev b).trans hb) ((rx_tv_cat ev v).trans hv) (k l ev p e s m args below meth c C R mt sst ls A)
theorem rv_dup2 {a b : Value} (hd : decode M.2.1 pc = .ok (.dup2, 1)) (ha : a.category = 1) (hb : b.category = 1) (k : rx_V M d mc ms (pc + 1) lo (a :: b :: a :: b :: st) σ post) : rx_V M d mc ms pc lo (a :: b :: st) σ post := by
  intro l ev p e s m args below meth c C R mt sst ls A
  exact lv_dup2_11 C.1 C.2.1 hd ((rx_tv_cat ev a).trans ha) ((rx_tv_cat ev b).trans hb) (k l ev p e s m args below meth c C R mt sst ls A)
theorem rv_dup2L {a : Value} (hd : decode M.2.1 pc = .ok (.dup2, 1)) (ha : a.category = 2) (k : rx_V M d mc ms (pc + 1) lo (a :: a :: st) σ post) : rx_V M d mc ms pc lo (a :: st) σ post := by
  intro l ev p e s m args below meth c C R mt sst ls A
  exact lv_dup2_2 C.1 C.2.1 hd ((rx_tv_cat ev a).trans ha) (k l ev p e s m args below meth c C R mt sst ls A)
theorem rv_dup2_x1L {a b : Value} (hd : decode M.2.1 pc = .ok (.dup2_x1, 1)) (ha : a.category = 2) (hb : b.category = 1) (k : rx_V M d mc ms (pc + 1) lo (a :: b :: a :: st) σ post) : rx_V M d mc ms pc lo (a :: b :: st) σ post := by
  intro l ev p e s m args below meth c C R mt sst ls A
  exact lv_dup2_x1_2 C.1 C.2.1 hd ((rx_tv_cat ev a).trans ha) ((rx_tv_cat ev b).trans hb) (k l ev p e s m args below meth c C R mt sst ls A)
theorem rv_if_eq {x : Int32} {off : Int} {tgt : Nat} (hd : decode M.2.1 pc = .ok (.ifCond .eq off, 3)) (ht : (pc : Int) + off = (tgt : Int)) (kt : x = 0 → rx_V M d mc ms tgt lo st σ post) (kf : ¬ x = 0 → rx_V M d mc ms (pc + 3) lo st σ post) : rx_V M d mc ms pc lo (.int x :: st) σ post := by
  intro l ev p e s m args below meth c C R mt sst ls A
  exact lv_if_eq C.1 C.2.1 hd ht (fun h => kt h l ev p e s m args below meth c C R mt sst ls A) (fun h => kf h l ev p e s m args below meth c C R mt sst ls A)
theorem rv_icmp_eq {x y : Int32} {off : Int} {tgt : Nat} (hd : decode M.2.1 pc = .ok (.if_icmp .eq off, 3)) (ht : (pc : Int) + off = (tgt : Int)) (kt : x = y → rx_V M d mc ms tgt lo st σ post) (kf : ¬ x = y → rx_V M d mc ms (pc + 3) lo st σ post) : rx_V M d mc ms pc lo (.int y :: .int x :: st) σ post := by
  intro l ev p e s m args below meth c C R mt sst ls A
  exact lv_icmp_eq C.1 C.2.1 hd ht (fun h => kt h l ev p e s m args below meth c C R mt sst ls A) (fun h => kf h l ev p e s m args below meth c C R mt sst ls A)
theorem rv_if_ne {x : Int32} {off : Int} {tgt : Nat} (hd : decode M.2.1 pc = .ok (.ifCond .ne off, 3)) (ht : (pc : Int) + off = (tgt : Int)) (kt : ¬ x = 0 → rx_V M d mc ms tgt lo st σ post) (kf : x = 0 → rx_V M d mc ms (pc + 3) lo st σ post) : rx_V M d mc ms pc lo (.int x :: st) σ post := by
  intro l ev p e s m args below meth c C R mt sst ls A
  exact lv_if_ne C.1 C.2.1 hd ht (fun h => kt h l ev p e s m args below meth c C R mt sst ls A) (fun h => kf h l ev p e s m args below meth c C R mt sst ls A)
theorem rv_icmp_ne {x y : Int32} {off : Int} {tgt : Nat} (hd : decode M.2.1 pc = .ok (.if_icmp .ne off, 3)) (ht : (pc : Int) + off = (tgt : Int)) (kt : ¬ x = y → rx_V M d mc ms tgt lo st σ post) (kf : x = y → rx_V M d mc ms (pc + 3) lo st σ post) : rx_V M d mc ms pc lo (.int y :: .int x :: st) σ post := by
  intro l ev p e s m args below meth c C R mt sst ls A
  exact lv_icmp_ne C.1 C.2.1 hd ht (fun h => kt h l ev p e s m args below meth c C R mt sst ls A) (fun h => kf h l ev p e s m args below meth c C R mt sst ls A)
theorem rv_if_lt {x : Int32} {off : Int} {tgt : Nat} (hd : decode M.2.1 pc = .ok (.ifCond .lt off, 3)) (ht : (pc : Int) + off = (tgt : Int)) (kt : x < 0 → rx_V M d mc ms tgt lo st σ post) (kf : ¬ x < 0 → rx_V M d mc ms (pc + 3) lo st σ post) : rx_V M d mc ms pc lo (.int x :: st) σ post := by
  intro l ev p e s m args below meth c C R mt sst ls A
  exact lv_if_lt C.1 C.2.1 hd ht (fun h => kt h l ev p e s m args below meth c C R mt sst ls A) (fun h => kf h l ev p e s m args below meth c C R mt sst ls A)
theorem rv_icmp_lt {x y : Int32} {off : Int} {tgt : Nat} (hd : decode M.2.1 pc = .ok (.if_icmp .lt off, 3)) (ht : (pc : Int) + off = (tgt : Int)) (kt : x < y → rx_V M d mc ms tgt lo st σ post) (kf : ¬ x < y → rx_V M d mc ms (pc + 3) lo st σ post) : rx_V M d mc ms pc lo (.int y :: .int x :: st) σ post := by
  intro l ev p e s m args below meth c C R mt sst ls A
  exact lv_icmp_lt C.1 C.2.1 hd ht (fun h => kt h l ev p e s m args below meth c C R mt sst ls A) (fun h => kf h l ev p e s m args below meth c C R mt sst ls A)
theorem rv_if_ge {x : Int32} {off : Int} {tgt : Nat} (hd : decode M.2.1 pc = .ok (.ifCond .ge off, 3)) (ht : (pc : Int) + off = (tgt : Int)) (kt : 0 ≤ x → rx_V M d mc ms tgt lo st σ post) (kf : ¬ 0 ≤ x → rx_V M d mc ms (pc + 3) lo st σ post) : rx_V M d mc ms pc lo (.int x :: st) σ post := by
  intro l ev p e s m args below meth c C R mt sst ls A
  exact lv_if_ge C.1 C.2.1 hd ht (fun h => kt h l ev p e s m args below meth c C R mt sst ls A) (fun h => kf h l ev p e s m args below meth c C R mt sst ls A)
theorem rv_icmp_ge {x y : Int32} {off : Int} {tgt : Nat} (hd : decode M.2.1 pc = .ok (.if_icmp .ge off, 3)) (ht : (pc : Int) + off = (tgt : Int)) (kt : y ≤ x → rx_V M d mc ms tgt lo st σ post) (kf : ¬ y ≤ x → rx_V M d mc ms (pc + 3) lo st σ post) : rx_V M d mc ms pc lo (.int y :: .int x :: st) σ post := by
  intro l ev p e s m args below meth c C R mt sst ls A
  exact lv_icmp_ge C.1 C.2.1 hd ht (fun h => kt h l ev p e s m args below meth c C R mt sst ls A) (fun h => kf h l ev p e s m args below meth c C R mt sst ls A)
theorem rv_if_gt {x : Int32} {off : Int} {tgt : Nat} (hd : decode M.2.1 pc = .ok (.ifCond .gt off, 3)) (ht : (pc : Int) + off = (tgt : Int)) (kt : 0 < x → rx_V M d mc ms tgt lo st σ post) (kf : ¬ 0 < x → rx_V M d mc ms (pc + 3) lo st σ post) : rx_V M d mc ms pc lo (.int x :: st) σ post := by
  intro l ev p e s m args below meth c C R mt sst ls A
  exact lv_if_gt C.1 C.2.1 hd ht (fun h => kt h l ev p e s m args below meth c C R mt sst ls A) (fun h => kf h l ev p e s m args below meth c C R mt sst ls A)
theorem rv_icmp_gt {x y : Int32} {off : Int} {tgt : Nat} (hd : decode M.2.1 pc = .ok (.if_icmp .gt off, 3)) (ht : (pc : Int) + off = (tgt : Int)) (kt : y < x → rx_V M d mc ms tgt lo st σ post) (kf : ¬ y < x → rx_V M d mc ms (pc + 3) lo st σ post) : rx_V M d mc ms pc lo (.int y :: .int x :: st) σ post := by
  intro l ev p e s m args below meth c C R mt sst ls A
  exact lv_icmp_gt C.1 C.2.1 hd ht (fun h => kt h l ev p e s m args below meth c C R mt sst ls A) (fun h => kf h l ev p e s m args below meth c C R mt sst ls A)
theorem rv_if_le {x : Int32} {off : Int} {tgt : Nat} (hd : decode M.2.1 pc = .ok (.ifCond .le off, 3)) (ht : (pc : Int) + off = (tgt : Int)) (kt : x ≤ 0 → rx_V M d mc ms tgt lo st σ post) (kf : ¬ x ≤ 0 → rx_V M d mc ms (pc + 3) lo st σ post) : rx_V M d mc ms pc lo (.int x :: st) σ post := by
  intro l ev p e s m args below meth c C R mt sst ls A
  exact lv_if_le C.1 C.2.1 hd ht (fun h => kt h l ev p e s m args below meth c C R mt sst ls A) (fun h => kf h l ev p e s m args below meth c C R mt sst ls A)
theorem rv_icmp_le {x y : Int32} {off : Int} {tgt : Nat} (hd : decode M.2.1 pc = .ok (.if_icmp .le off, 3)) (ht : (pc : Int) + off = (tgt : Int)) (kt : x ≤ y → rx_V M d mc ms tgt lo st σ post) (kf : ¬ x ≤ y → rx_V M d mc ms (pc + 3) lo st σ post) : rx_V M d mc ms pc lo (.int y :: .int x :: st) σ post := by
  intro l ev p e s m args below meth c C R mt sst ls A
  exact lv_icmp_le C.1 C.2.1 hd ht (fun h => kt h l ev p e s m args below meth c C R mt sst ls A) (fun h => kf h l ev p e s m args below meth c C R mt sst ls A)
theorem rv_goto {off : Int} {tgt : Nat} (hd : decode M.2.1 pc = .ok (.goto off, 3)) (ht : (pc : Int) + off = (tgt : Int)) (k : rx_V M d mc ms tgt lo st σ post) : rx_V M d mc ms pc lo st σ post := by
  intro l ev p e s m args below meth c C R mt sst ls A
  exact lv_goto C.1 C.2.1 hd ht (k l ev p e s m args below meth c C R mt sst ls A)
theorem rv_ifnonnull {x : Nat} {off : Int} {tgt : Nat} (hd : decode M.2.1 pc = .ok (.ifnonnull off, 3)) (ht : (pc : Int) + off = (tgt : Int)) (k : rx_V M d mc ms tgt lo st σ post) : rx_V M d mc ms pc lo (.ref x :: st) σ post := by
  intro l ev p e s m args below meth c C R mt sst ls A
  exact lv_ifnonnull C.1 C.2.1 hd ht (k l ev p e s m args below meth c C R mt sst ls A)
theorem rv_ifnull {x : Nat} {off : Int} (hd : decode M.2.1 pc = .ok (.ifnull off, 3)) (k : rx_V M d mc ms (pc + 3) lo st σ post) : rx_V M d mc ms pc lo (.ref x :: st) σ post := by
  intro l ev p e s m args below meth c C R mt sst ls A
  exact lv_ifnull C.1 C.2.1 hd (k l ev p e s m args below meth c C R mt sst ls A)
theorem rv_ifnullN {off : Int} {tgt : Nat} (hd : decode M.2.1 pc = .ok (.ifnull off, 3)) (ht : (pc : Int) + off = (tgt : Int)) (k : rx_V M d mc ms tgt lo st σ post) : rx_V M d mc ms pc lo (.null :: st) σ post := by
  intro l ev p e s m args below meth c C R mt sst ls A
  exact lv_ifnullN C.1 C.2.1 hd ht (k l ev p e s m args below meth c C R mt sst ls A)
theorem rv_ifnonnullN {off : Int} (hd : decode M.2.1 pc = .ok (.ifnonnull off, 3)) (k : rx_V M d mc ms (pc + 3) lo st σ post) : rx_V M d mc ms pc lo (.null :: st) σ post := by
  intro l ev p e s m args below meth c C R mt sst ls A
  exact lv_ifnonnullN C.1 C.2.1 hd (k l ev p e s m args below meth c C R mt sst ls A)
theorem rv_tableOut {dflt a b : Int} {offs : Array Int} {len : Nat} {x : Int32} {tgt : Nat} (hd : decode M.2.1 pc = .ok (.tableswitch dflt a b offs, len)) (h : x.toInt < a ∨ b < x.toInt) (ht : (pc : Int) + dflt = (tgt : Int)) (k : rx_V M d mc ms tgt lo st σ post) : rx_V M d mc ms pc lo (.int x :: st) σ post := by
  intro l ev p e s m args below meth c C R mt sst ls A
  exact lv_tableOut C.1 C.2.1 hd h ht (k l ev p e s m args below meth c C R mt sst ls A)
theorem rv_tableIn {dflt a b : Int} {offs : Array Int} {len : Nat} {x : Int32} {off : Int} {tgt : Nat} (hd : decode M.2.1 pc = .ok (.tableswitch dflt a b offs, len)) (h1 : ¬ x.toInt < a) (h2 : ¬ b < x.toInt) (ho : offs[(x.toInt - a).toNat]? = some off) (ht : (pc : Int) + off = (tgt : Int)) (k : rx_V M d mc ms tgt lo st σ post) : rx_V M d mc ms pc lo (.int x :: st) σ post := by
  intro l ev p e s m args below meth c C R mt sst ls A
  exact lv_tableIn C.1 C.2.1 hd h1 h2 ho ht (k l ev p e s m args below meth c C R mt sst ls A)
theorem rv_lookup {dflt : Int} {ps : Array (Int × Int)} {len : Nat} {x : Int32} {off : Int} {tgt : Nat} (hd : decode M.2.1 pc = .ok (.lookupswitch dflt ps, len)) (hp : (ps.toList.zip (ps.toList.drop 1)).all (fun (a, next) => a.1 < next.1) = true) (ho : Op.lookupswitch.offset ps.toList dflt x.toInt = off) (ht : (pc : Int) + off = (tgt : Int)) (k : rx_V M d mc ms tgt lo st σ post) : rx_V M d mc ms pc lo (.int x :: st) σ post := by
  intro l ev p e s m args below meth c C R mt sst ls A
  exact lv_lookup C.1 C.2.1 hd hp ho ht (k l ev p e s m args below meth c C R mt sst ls A)
theorem rv_ldc {ix : Nat} {v : Int32} (hd : decode M.2.1 pc = .ok (.ldc ix, 2)) (hw : Cond.constant M.1 ix v ∈ rx_TB) (k : rx_V M d mc ms (pc + 2) lo (.int v :: st) σ post) : rx_V M d mc ms pc lo st σ post := by
  intro l ev p e s m args below meth c C R mt sst ls A
  exact lv_ldc C.1 C.2.1 C.2.2.2.1 (C.2.2.2.2.1 _ hw) hd (k l ev p e s m args below meth c C R mt sst ls A)
theorem rv_ldc2 {ix : Nat} {v : Int64} (hd : decode M.2.1 pc = .ok (.ldc2_w ix, 3)) (hw : Cond.constantLong M.1 ix v ∈ rx_TB) (k : rx_V M d mc ms (pc + 3) lo (.long v :: st) σ post) : rx_V M d mc ms pc lo st σ post := by
  intro l ev p e s m args below meth c C R mt sst ls A
  exact lv_ldc2 C.1 C.2.1 C.2.2.2.1 (C.2.2.2.2.1 _ hw) hd (k l ev p e s m args below meth c C R mt sst ls A)
theorem rv_eqi {x y : Int32} (h : x = y) (k : rx_V M d mc ms pc lo (.int y :: st) σ post) : rx_V M d mc ms pc lo (.int x :: st) σ post := h ▸ k
theorem rv_eql {x y : Int64} (h : x = y) (k : rx_V M d mc ms pc lo (.long y :: st) σ post) : rx_V M d mc ms pc lo (.long x :: st) σ post := h ▸ k
theorem rv_eqv {x y : Value} (h : x = y) (k : rx_V M d mc ms pc lo (y :: st) σ post) : rx_V M d mc ms pc lo (x :: st) σ post := h ▸ k
theorem rv_topi {x : Int32} (k : ∀ y : Int32, y = x → rx_V M d mc ms pc lo (.int y :: st) σ post) : rx_V M d mc ms pc lo (.int x :: st) σ post := k x rfl
theorem rv_topl {x : Int64} (k : ∀ y : Int64, y = x → rx_V M d mc ms pc lo (.long y :: st) σ post) : rx_V M d mc ms pc lo (.long x :: st) σ post := k x rfl
theorem rv_lo (lo' : List (Nat × Value)) (h : rx_sub lo' lo) (k : rx_V M d mc ms pc lo' st σ post) : rx_V M d mc ms pc lo st σ post := by
  intro l ev p e s m args below meth c C R mt sst ls A
  exact k l ev p e s m args below meth c C R mt sst ls (A.lo (rx_sub_has h A.2.2.2.1))
theorem rv_to {lo' : List (Nat × Value)} (k : rx_V M d mc ms pc lo' st σ post) (h : rx_sub lo' lo) : rx_V M d mc ms pc lo st σ post := rv_lo lo' h k
theorem rv_iret {post : Option Value → Prop} {v : Int32} (hd : decode M.2.1 pc = .ok (.ireturn, 1)) (hr : M.2.2.2.1 = some .int) (h : post (some (.int v))) : rx_V M d mc ms pc lo ([.int v]) σ (pP post) := by
  intro l ev p e s m args below meth c C R mt sst ls A
  obtain ⟨a1, a2, a3, a4, a5, a6, a7, a8, a9⟩ := A
  refine W.widen (k := mt) (n := sst) (by omega) (by omega) ?_
  exact W.iret C.1 C.2.1 (C.2.2.2.2.2.1.trans hr) (fun t ht hW => ⟨some (.int v), rfl, h, ht⟩) (fun q hq => by cases hq) hd C.2.2.2.2.2.2.1
theorem rv_lret {post : Option Value → Prop} {v : Int64} (hd : decode M.2.1 pc = .ok (.lreturn, 1)) (hr : M.2.2.2.1 = some .long) (h : post (some (.long v))) : rx_V M d mc ms pc lo ([.long v]) σ (pP post) := by
  intro l ev p e s m args below meth c C R mt sst ls A
  obtain ⟨a1, a2, a3, a4, a5, a6, a7, a8, a9⟩ := A
  refine W.widen (k := mt) (n := sst) (by omega) (by omega) ?_
  exact W.lret C.1 C.2.1 (C.2.2.2.2.2.1.trans hr) (fun t ht hW => ⟨some (.long v), rfl, h, ht⟩) (fun q hq => by cases hq) hd C.2.2.2.2.2.2.1
theorem rv_vret {post : Option Value → Prop}  (hd : decode M.2.1 pc = .ok (.return_, 1)) (hr : M.2.2.2.1 = none) (h : post (none)) : rx_V M d mc ms pc lo ([]) σ (pP post) := by
  intro l ev p e s m args below meth c C R mt sst ls A
  obtain ⟨a1, a2, a3, a4, a5, a6, a7, a8, a9⟩ := A
  refine W.widen (k := mt) (n := sst) (by omega) (by omega) ?_
  exact W.vret C.1 C.2.1 (C.2.2.2.2.2.1.trans hr) (fun t ht hW => ⟨none, rfl, h, ht⟩) (fun q hq => by cases hq) hd C.2.2.2.2.2.2.1
theorem rv_zret {post : Option Value → Prop} {v : Int32} {ty : FieldType} (hd : decode M.2.1 pc = .ok (.ireturn, 1)) (hr : M.2.2.2.1 = some ty) (hn : narrow ty (.int v) = .int v) (h : post (some (.int v))) : rx_V M d mc ms pc lo ([.int v]) σ (pP post) := by
  intro l ev p e s m args below meth c C R mt sst ls A
  obtain ⟨a1, a2, a3, a4, a5, a6, a7, a8, a9⟩ := A
  refine W.widen (k := mt) (n := sst) (by omega) (by omega) ?_
  exact W.zret C.1 C.2.1 (C.2.2.2.2.2.1.trans hr) hn (fun t ht hW => ⟨some (.int v), rfl, h, ht⟩) (fun q hq => by cases hq) hd C.2.2.2.2.2.2.1
theorem rv_aret {post : Option Value → Prop} {v : Nat} {ty : FieldType} (hd : decode M.2.1 pc = .ok (.areturn, 1)) (hr : M.2.2.2.1 = some ty) (hrt : (∃ n, ty = .object n) ∨ ∃ t, ty = .array t) (h : post (some (.ref v))) : rx_V M d mc ms pc lo ([.ref v]) σ (pP post) := by
  intro l ev p e s m args below meth c C R mt sst ls A
  obtain ⟨a1, a2, a3, a4, a5, a6, a7, a8, a9⟩ := A
  refine W.widen (k := mt) (n := sst) (by omega) (by omega) ?_
  exact W.aret C.1 C.2.1 (C.2.2.2.2.2.1.trans hr) hrt (Or.inr ⟨_, rfl⟩) (fun t ht hW => ⟨some (.ref v), rfl, h, ht⟩) (fun q hq => by cases hq) hd C.2.2.2.2.2.2.1
theorem rv_aretN {post : Option Value → Prop} {ty : FieldType} (hd : decode M.2.1 pc = .ok (.areturn, 1)) (hr : M.2.2.2.1 = some ty) (hrt : (∃ n, ty = .object n) ∨ ∃ t, ty = .array t) (h : post (some .null)) : rx_V M d mc ms pc lo ([.null]) σ (pP post) := by
  intro l ev p e s m args below meth c C R mt sst ls A
  obtain ⟨a1, a2, a3, a4, a5, a6, a7, a8, a9⟩ := A
  refine W.widen (k := mt) (n := sst) (by omega) (by omega) ?_
  exact W.aret C.1 C.2.1 (C.2.2.2.2.2.1.trans hr) hrt (Or.inl rfl) (fun t ht hW => ⟨some .null, rfl, h, ht⟩) (fun q hq => by cases hq) hd C.2.2.2.2.2.2.1
end
end
section
/-! THROWS: pure calls, a new exception thrown, a call that throws, the catch -/
section
variable {M M' : rx_M} {y : MethodName} {d d1 mc ms pc ix r : Nat} {lo : List (Nat × Value)} {st stk as : List Value} {σ : rx_S} {post : rx_End} {nx : Nat} {ct : Nat → Nat × Nat} {mi : Nat → Nat → Int32} {ml : Nat → Nat → Int64} {mr : Nat → Nat → Option Nat}
theorem rx_enterP {post : Option Value → Prop} (hy : plainFor y = true) (hM : y.cls = M.1) (hnm : y.name = M.2.2.2.2.1) (hn : (lg_sl as).length ≤ M.2.2.1) (k : rx_V M d 0 0 0 (lv_args 0 as) [] σ (pP post)) (hh : M.2.2.2.2.2 = [] := by rfl) : rx_Pure y M d as σ post := by
  intro l htr ev
  refine va_MetF (cc := M.2.1) (maxL := M.2.2.1) (ret := M.2.2.2.1) hy rfl ?_
  intro p e s m args below meth c s₁ B hml hv
  obtain ⟨rfl, hR, hOk⟩ := hv
  have hts := atoms_spec (ws := rx_ws y M) B.pre
  have hown : s.vm.findClass M.1 = some m.cls := by rw [← hM]; exact findClass_of_methodNamed B.named
  have htab : c.exceptionTable.toList.map (fun h => (h.startPc, h.endPc, h.handlerPc, h.catchType)) = M.2.2.2.2.2 := by
    have h1 := BodyLoose.noHandlers B (hts _ List.mem_cons_self)
    rw [hh]
    simp [Array.isEmpty_iff.mp h1]
  have hl := lv_entry (as.map (rx_tv ev)) (n := M.2.2.1) (by rw [rx_sl_map]; exact hn)
  rw [lg_entry_eq]
  generalize (lg_sl (as.map (rx_tv ev)) ++ List.replicate (M.2.2.1 - (lg_sl (as.map (rx_tv ev))).length) Slot.unset).toArray = ls at hl ⊢
  rw [rx_args_map] at hl
  refine k l ev p e s m _ below meth c ⟨B.exec, B.bytes, hml, hown, fun w h => hts w (List.mem_cons_of_mem _ h), B.returns, B.notSynchronized, (name_of_methodNamed B.named B.method).1.trans hnm, hOk, ⟨?_, hR.2.2.1⟩, htr, hR.ns, htab⟩ _ 0 0 ls ⟨Nat.le_refl _, Nat.le_refl _, hR, hl, (fun q h => by cases h), by omega, by omega, Nat.le_refl _, Nat.le_refl _⟩
  rw [hR.2.1]
  omega
theorem rx_Pure.calls {post : Option Value → Prop} (h : rx_Pure y M d as σ post) : rx_Calls y M d 0 0 as σ (fun v τ => post v ∧ τ = σ) := by
  intro l htr ev
  intro p e ha hc hk s m args below hf happ hP hK
  obtain ⟨n, o, h1, h2, h3, ⟨v, hv, hp, hh⟩, L, hF, hL⟩ := h l htr ev p e ha hc hk s m args below hf happ hP hK
  exact ⟨n, o, h1, h2, h3, ⟨v, σ, hv, ⟨hp, rfl⟩, by rw [hh]; exact hP.2.1⟩, L, hF, fun q hq => (hL q hq).elim⟩
theorem rv_get {ci k n : Nat} {v : Value} (hd : decode M.2.1 pc = .ok (.getfield ix, 3)) (hF : rx_F M.1 ix ci k) (hi : rx_is (nx, ct, mi, ml, mr) r ci n) (hv : ∀ ev, rx_fv ev mi ml mr r (rx_ty ci k) k = rx_tv ev v) (kk : rx_V M d mc ms (pc + 3) lo (v :: st) (nx, ct, mi, ml, mr) post) : rx_V M d mc ms pc lo (.ref r :: st) (nx, ct, mi, ml, mr) post := by
  intro l ev p e s m args below meth c C R mt sst ls A
  obtain ⟨q, hc, hk, hlk⟩ := hF
  obtain ⟨cell, q1, q2, q3, q4⟩ := A.2.2.1.ob hi hc
  have hOk := C.2.2.2.2.2.2.2.2.1
  obtain ⟨hS, hfc, kC, hkC, hkind⟩ := hOk.1.1 ci _ hc.1
  obtain ⟨cf, kf, fi, f, hfi, hsl⟩ := hS k hk
  have hsv : cell.slots[f.slot]? = some (rx_tv ev v) := by rw [hsl, q4 k hk]; exact congrArg some (hv ev)
  have hst := (u_facts hfc hkC (u_lays C.2.2.2.2.1 hc.2.2.1 hk) hfi).1
  have hkn : cell.vm ≠ .unknown := by rw [q3]; exact fun h => by cases h
  have K := kk l ev p e s m args below meth c C R mt sst ls A
  rcases hlk with h | ⟨host, h⟩
  · exact W.getf C.1 C.2.1 C.2.2.2.1 (C.2.2.2.2.1 _ h) hfi hst q1 hkn (v := rx_tv ev v) hsv rfl rfl hd K
  · exact va_Wgetf C.1 C.2.1 C.2.2.2.1 (va_Nw.use rfl (hOk.2.1 _ h)) hfi hst q1 hkn (v := rx_tv ev v) hsv rfl rfl hd K
theorem rv_getI {ci k n : Nat} (hd : decode M.2.1 pc = .ok (.getfield ix, 3)) (hF : rx_F M.1 ix ci k) (hi : rx_is (nx, ct, mi, ml, mr) r ci n) (hk : rx_kd (rx_ty ci k) = 0) (kk : rx_V M d mc ms (pc + 3) lo (.int (mi r k) :: st) (nx, ct, mi, ml, mr) post) : rx_V M d mc ms pc lo (.ref r :: st) (nx, ct, mi, ml, mr) post :=
  rv_get hd hF hi (fun _ => rx_fv_i hk) kk
theorem rv_getL {ci k n : Nat} (hd : decode M.2.1 pc = .ok (.getfield ix, 3)) (hF : rx_F M.1 ix ci k) (hi : rx_is (nx, ct, mi, ml, mr) r ci n) (hk : rx_kd (rx_ty ci k) = 1) (kk : rx_V M d mc ms (pc + 3) lo (.long (ml r k) :: st) (nx, ct, mi, ml, mr) post) : rx_V M d mc ms pc lo (.ref r :: st) (nx, ct, mi, ml, mr) post :=
  rv_get hd hF hi (fun _ => rx_fv_l hk) kk
theorem rv_getR {ci k n a : Nat} (hd : decode M.2.1 pc = .ok (.getfield ix, 3)) (hF : rx_F M.1 ix ci k) (hi : rx_is (nx, ct, mi, ml, mr) r ci n) (hk : rx_kd (rx_ty ci k) = 2) (ha : mr r k = some a) (kk : rx_V M d mc ms (pc + 3) lo (.ref a :: st) (nx, ct, mi, ml, mr) post) : rx_V M d mc ms pc lo (.ref r :: st) (nx, ct, mi, ml, mr) post :=
  rv_get hd hF hi (fun _ => by rw [rx_fv_r hk, ha]; rfl) kk
theorem rv_callV {post1 : Option Value → Prop} (hd : decode M.2.1 pc = .ok (.invokevirtual ix, 3)) (hL : rx_LV M.1 ix y M' as.length) (hc : rx_Pure y M' d1 (.ref r :: as) σ post1) (hv : rx_recv σ r y.cls) (hdd : d1 + 1 ≤ d) (hstk : stk = as.reverse ++ .ref r :: st) (hcat : (st.map fun v => v.category).sum ≤ 8)
    (k : ∀ v, post1 v → rx_V M d mc ms (pc + 3) lo (v.toList ++ st) σ post) : rx_V M d mc ms pc lo stk σ post := by
  intro l ev p e s m args below meth c C R mt sst ls A
  obtain ⟨⟨w1, w2, w3, w4, w5, w6⟩, w7, w8⟩ := hL
  have A' := A
  obtain ⟨a1, a2, a3, a4, a5, a6, a7, a8, a9⟩ := A
  have hts := C.2.2.2.2.1
  have hOk := C.2.2.2.2.2.2.2.2.1
  have hws := pay_in hts (rx_goodIn (y := y) (M := M') w1)
  have hlen : ∀ sig, parseMethodDescriptor y.desc = some sig → as.length = sig.parameters.length := fun sig h => by
    rw [h] at w4
    exact (Option.some.inj w4).symm
  have hpre : PreV s s.heap y.cls (rx_ea ev r) (rx_P ev (.ref r :: as) σ) (as.map (rx_tv ev)) := ⟨rx_blind _ _ _, hv ev s s.heap hOk a3, fun U hU hW => ⟨rfl, by rw [hU]; exact a3, rx_Ok_warm hW hOk⟩⟩
  have hst : (F0 m pc ls (stk.map (rx_tv ev))).stack = (as.map (rx_tv ev)).reverse ++ .ref (rx_ea ev r) :: st.map (rx_tv ev) := by
    show stk.map (rx_tv ev) = _
    rw [hstk, List.map_append, List.map_reverse]
    rfl
  have hroom : 2 * (F0 m pc ls (stk.map (rx_tv ev))).monitorRoom + ((st.map (rx_tv ev)).map fun v => v.category).sum ≤ 8 := lv_room (by rw [rx_cats]; exact hcat)
  have fin : va_Run p l e R s m args below meth c s.heap [] 0 0 0 0 (F0 m pc ls (stk.map (rx_tv ev))) (st.map (rx_tv ev)) ((fun (_ : Array Value) (st : State) (o : Outcome) (t : State) => ∃ v : Option Value, o = .returned (v.map (rx_tv ev)) ∧ post1 v ∧ t.heap = st.heap) (Value.ref (rx_ea ev r) :: as.map (rx_tv ev)).toArray) (fun _ => False) → W p l e R s m args below meth c s.heap [] 0 0 (post below ev args s mt sst) (F0 m pc ls (stk.map (rx_tv ev))) := by
    intro hr T hT X
    obtain ⟨v, st₀, t, T', L, h0, X', hL, e1, e2, ⟨v', hv', hp, hh⟩, stp⟩ := hr T hT X
    cases hv'
    have K := k v' hp l ev p e s m args below meth c C R mt sst ls A'
    rw [rx_toList] at K
    obtain ⟨t2, b1, b2⟩ := K T' (by rw [e1, hh, h0]) (Stand.forget X' (fun q h => (hL q h).elim))
    exact ⟨t2, stp t2 b1, b2⟩
  rcases w6 with w6 | ⟨host, w6⟩
  · exact fin (va_runV ⟨C.1, C.2.1, C.2.2.1, C.2.2.2.1, hts⟩ (hc l C.2.2.2.2.2.2.2.2.2.2.1 ev) ⟨⟨rfl, rfl, by show d1 + 1 ≤ _; omega, by show 8 + (M'.2.2.1 + 11) + 40 * d1 ≤ _; omega, hws, List.mem_cons_self, hts _ w1, hts _ w2, w3, hlen, hts _ w6⟩, hts _ w7, hts _ w8⟩ hpre rfl (List.length_map _) a4.1 hst hroom hd ⟨by omega, by omega⟩)
  · exact fin (va_runVN ⟨C.1, C.2.1, C.2.2.1, C.2.2.2.1, hts⟩ (hc l C.2.2.2.2.2.2.2.2.2.2.1 ev) ⟨⟨⟨rfl, rfl, by show d1 + 1 ≤ _; omega, by show 8 + (M'.2.2.1 + 11) + 40 * d1 ≤ _; omega, hws, List.mem_cons_self⟩, hts _ w1, hts _ w2, w3, hlen, va_Nw.use rfl (hOk.2.1 _ w6)⟩, hts _ w7, hts _ w8⟩ hpre rfl (List.length_map _) a4.1 hst hroom hd ⟨by omega, by omega⟩)
end
/-- it throws so -/
def rx_QT (ev : rx_E) (f : Nat → rx_S → Prop) (mc ms : Nat) : Array Value → State → Outcome → State → Prop := fun _ st o t => ∃ (x : Nat) (τ : rx_S), o = .threw (rx_ea ev x) ∧ f x τ ∧ 256 ≤ x ∧ x < τ.1 ∧ rx_R ev τ t.heap ∧ st.WarmedH t.vm ∧ (∃ ce : Cell, t.heap[rx_ea ev x]? = some ce ∧ ce.vm = .none ∧ st.vm.findClass "java/lang/IndexOutOfBoundsException" = some ce.cls) ∧ ∃ L : List Loc, st.sameButNew ({ t with vm := st.vm } : State) L mc ms ∧ ∀ q ∈ L, ev.2.2.2.1.size ≤ q.base
def pT (f : Nat → rx_S → Prop) : rx_End := fun below ev args s mt sst t => ∃ o, t.status = .running ∧ Ended t below o ∧ rx_QT ev f mt sst args s o t
def rx_Throws (y : MethodName) (M : rx_M) (d mc ms : Nat) (as : List Value) (σ : rx_S) (f : Nat → rx_S → Prop) : Prop :=
  ∀ (l : Launch), l.stackTraces = false → ∀ (ev : rx_E), MetFree l y (headSpec (rx_ws y M) { frames := d, cells := mc, slots := ms, locals := 40 * d }) (rx_P ev as σ) (fun _ _ _ _ _ => True) (rx_QT ev f mc ms)
theorem rx_enterT {y : MethodName} {M : rx_M} {d mc ms : Nat} {as : List Value} {σ : rx_S} {f : Nat → rx_S → Prop} (hy : plainFor y = true) (hM : y.cls = M.1) (hnm : y.name = M.2.2.2.2.1) (hn : (lg_sl as).length ≤ M.2.2.1) (k : rx_V M d mc ms 0 (lv_args 0 as) [] σ (pT f)) (hh : M.2.2.2.2.2 = [] := by rfl) : rx_Throws y M d mc ms as σ f := by
  intro l htr ev
  refine MetFree.of_bodySF (code := M.2.1) (maxLocals := M.2.2.1) (ret := M.2.2.2.1) hy ?_ ?_
  · intro args s m h hn
    obtain ⟨meth, c, h1, h2, h3, h4, h5, h6, -, -⟩ := Cond.code_spec hn (atoms_spec (ws := rx_ws y M) h _ List.mem_cons_self)
    exact ⟨meth, c, h1, h2, h3, h4, h5, h6⟩
  · intro p e s m args below meth c s₁ B hml hv _
    obtain ⟨rfl, hR, hOk⟩ := hv
    have hts := atoms_spec (ws := rx_ws y M) B.pre
    have hown : s.vm.findClass M.1 = some m.cls := by rw [← hM]; exact findClass_of_methodNamed B.named
    have htab : c.exceptionTable.toList.map (fun h => (h.startPc, h.endPc, h.handlerPc, h.catchType)) = M.2.2.2.2.2 := by
      have h1 := BodyLoose.noHandlers B (hts _ List.mem_cons_self)
      rw [hh]
      simp [Array.isEmpty_iff.mp h1]
    have hl := lv_entry (as.map (rx_tv ev)) (n := M.2.2.1) (by rw [rx_sl_map]; exact hn)
    have hsz : ev.2.2.2.1.size ≤ s.heap.size := by rw [hR.2.1]; omega
    rw [rx_args_map] at hl
    have K := k l ev p e s m (as.map (rx_tv ev)).toArray below meth c ⟨B.exec, B.bytes, hml, hown, fun w h => hts w (List.mem_cons_of_mem _ h), B.returns, B.notSynchronized, (name_of_methodNamed B.named B.method).1.trans hnm, hOk, ⟨hsz, hR.2.2.1⟩, htr, hR.ns, htab⟩ { frames := d, cells := mc, slots := ms, locals := 40 * d } mc ms _ ⟨Nat.le_refl _, Nat.le_refl _, hR, hl, (fun q h => by cases h), by omega, by omega, Nat.le_refl _, Nat.le_refl _⟩
    have hh0 : s₁.heap = s.heap := by rw [B.state]; rfl
    have K2 := K s₁ hh0 (Stand.of_body B)
    rw [List.map_nil, ← lg_entry_eq] at K2
    obtain ⟨t, a1, o, b1, b2, b3⟩ := K2
    exact ⟨t, o, a1, b1, b2, b3⟩
end
section
/-! An exception is made and thrown; a call throws, and the caller's handler takes it -/
theorem rx_lS.kept {C n d : String} {U : State} {H H1 : Heap} (h : rx_lS C n d U H) (hq : ∀ a : Nat, a < H.size → H1[a]? = H[a]?) : rx_lS C n d U H1 := by
  obtain ⟨c, k, i, f, a, cell, h1, h2, h3, h4, h5, h6⟩ := h
  exact ⟨c, k, i, f, a, cell, h1, h2, h3, h4, by rw [hq a (Array.getElem?_eq_some_iff.mp h5).1]; exact h5, h6⟩
def rx_sp : List Cond := [.laysStatic "java/lang/Throwable" "UNASSIGNED_STACK" "[Ljava/lang/StackTraceElement;", .laysStatic "java/lang/Throwable" "SUPPRESSED_SENTINEL" "Ljava/util/List;", .isRef (.static "java/lang/Throwable" "UNASSIGNED_STACK" "[Ljava/lang/StackTraceElement;"), .isRef (.static "java/lang/Throwable" "SUPPRESSED_SENTINEL" "Ljava/util/List;")]
abbrev rx_IO : String := "java/lang/IndexOutOfBoundsException"
abbrev rx_IOn : List String := ["java/lang/RuntimeException", "java/lang/Exception"]
theorem rx_own_in : (Bundle.ownAtoms "RuleText" 70 rx_IO rx_IOn).all (fun a => (decide (a ∈ lw_tbl) && goodWord a) || decide (a ∈ rx_DW) || decide (a ∈ rx_sp)) = true := by decide +kernel
theorem rx_own {l : Launch} {ev : rx_E} {M : rx_M} {p : Program} {s : State} {m : MethodId} {args : Array Value} {meth : Method} {c : Code} (C : rx_C l ev M p s m args meth c) : ∀ a ∈ Bundle.ownAtoms "RuleText" 70 rx_IO rx_IOn, a.before args s = true := by
  intro a ha
  have h := List.all_eq_true.mp rx_own_in a ha
  have hOk := C.2.2.2.2.2.2.2.2.1
  have hT : rx_ExtT ev s := hOk.2.2.2.2.2.2.2.2.2.2.2.2.2.2.2
  have hlow : ∀ q : Nat, q < ev.2.2.2.1.size → s.heap[q]? = ev.2.2.2.1[q]? := C.2.2.2.2.2.2.2.2.2.1.2
  simp only [Bool.or_eq_true, Bool.and_eq_true, decide_eq_true_eq] at h
  rcases h with (h | h) | h
  · exact C.2.2.2.2.1 a (List.mem_filter.mpr ⟨h.1, h.2⟩)
  · have hw := hT.1 a h
    rcases rx_DW_kinds a h with ⟨x, e⟩ | ⟨x, z, e⟩
    · subst e; exact va_Nw.use rfl hw
    · subst e; exact va_Nw.use rfl hw
  · unfold rx_sp at h
    simp only [List.mem_cons, List.not_mem_nil, or_false] at h
    rcases h with rfl | rfl | rfl | rfl
    · exact (hT.2.1.1.kept hlow).cond
    · exact (hT.2.1.2.kept hlow).cond
    · exact rx_Zq.cond (hT.2.2.1.1.kept (fun a h _ => hlow a h))
    · exact rx_Zq.cond (hT.2.2.1.2.kept (fun a h _ => hlow a h))
theorem rx_IO1 : Cond.classLink "RuleText" 66 rx_IO ∈ rx_TB := (rx_in (tm_3 (List.mem_of_getElem? (i := 107) rfl)) rfl)
theorem rx_IO2 : Cond.instantiable rx_IO 6 ∈ rx_TB := (rx_in (tm_3 (List.mem_of_getElem? (i := 108) rfl)) rfl)
theorem rx_IO3 : Cond.initialized rx_IO ∈ rx_TB := (rx_in (tm_1 (List.mem_of_getElem? (i := 20) rfl)) rfl)
theorem rv_throw {M : rx_M} {d mc ms pc ixS r : Nat} {tx : String} {lo : List (Nat × Value)} {nx : Nat} {ct : Nat → Nat × Nat} {mi : Nat → Nat → Int32} {ml : Nat → Nat → Int64} {mr : Nat → Nat → Option Nat} {f : Nat → rx_S → Prop}
    (hd0 : decode M.2.1 pc = .ok (.new 66, 3)) (hd1 : decode M.2.1 (pc + 3) = .ok (.dup, 1)) (hd2 : decode M.2.1 (pc + 4) = .ok (.ldc ixS, 2)) (hd3 : decode M.2.1 (pc + 6) = .ok (.invokespecial 70, 3)) (hd4 : decode M.2.1 (pc + 9) = .ok (.athrow, 1))
    (hM : M.1 = "RuleText") (hS : (M.1, ixS, tx, r) ∈ rx_SR) (hh : M.2.2.2.2.2 = []) (hdd : 6 ≤ d) (hf : f nx (rx_new nx ct mi ml mr 95 0)) : rx_V M d (mc + 1) (ms + 6) pc lo [] (nx, ct, mi, ml, mr) (pT f) := by
  intro l ev p e s m args below meth c C R mt sst ls A
  obtain ⟨a1, a2, a3, a4, a5, a6, a7, a8, a9⟩ := A
  have hts := C.2.2.2.2.1
  have hown : s.vm.findClass "RuleText" = some m.cls := by rw [← hM]; exact C.2.2.2.1
  have hOk := C.2.2.2.2.2.2.2.2.1
  obtain ⟨cX, kX, hfc, hkX, -⟩ := Cond.instantiable_spec (hts _ rx_IO2)
  refine W.newcK C.1 C.2.1 hown (hts _ rx_IO1) (hts _ rx_IO2) (hts _ rx_IO3) rfl hd0 (by omega) (by omega) hfc rfl fun H1 kC hkC e1 z1 o1 => ?_
  refine lv_dup C.1 C.2.1 hd1 rfl ?_
  refine va_ldcS C.1 C.2.1 C.2.2.2.1 (hOk.2.2.2.2.2.2.2.2.2.2.1 _ hS) hd2 ?_
  intro T hT X
  have htr : e.platform.stackTraces = false := by
    have h1 := X.admits.2.2.2.2.1
    rw [h1]
    exact C.2.2.2.2.2.2.2.2.2.2.1
  have hte : c.exceptionTable.toList = [] := by
    have h1 := C.2.2.2.2.2.2.2.2.2.2.2.2
    rw [hh] at h1
    exact List.map_eq_nil_iff.mp h1
  obtain ⟨U, hsteps, hrun, hend, hwarm, hsame, ce, hce, hoc⟩ := X.ctorThrowS C.1 htr (own := "RuleText") (cls := rx_IO) (names := rx_IOn) (ic := 70) hown (by decide +kernel) (by decide +kernel) (rx_own C) (fun x hx => by cases hx) hfc hkC
    (a := s.heap.size) (by rw [hT]; exact e1) (Nat.le_refl _) (msg := .ref (rx_ea ev r)) rfl (g := F0 m (pc + 6) ls [.ref (rx_ea ev r), .ref s.heap.size, .ref s.heap.size]) rfl (by rw [C.2.2.1]; exact a4.1) rfl rfl (rest := []) rfl (by rw [C.2.1]; exact hd3) (by rw [C.2.1]; exact hd4) (fun x hx => by rw [hte] at hx; cases hx)
    (by show 2 + 3 < R.frames; omega) (by show 2 * 0 + 1 + 81 ≤ R.locals; omega) C.2.2.2.2.2.2.1
  have hea : rx_ea ev nx = s.heap.size := a3.new
  have hold : ∀ q : Nat, q < s.heap.size → U.heap[q]? = s.heap[q]? := fun q hq => by
    have h1 : s.heap[q]? = some s.heap[q] := Array.getElem?_eq_getElem hq
    rw [h1]
    exact hsame.old_cell h1
  have hz : U.heap.size = s.heap.size + 1 := by
    have h1 : s.heap.size < U.heap.size := (Array.getElem?_eq_some_iff.mp hce).1
    have h2 : U.heap.size ≤ s.heap.size + (0 + 1) := hsame.2.2.1
    omega
  refine ⟨U, hsteps, .threw s.heap.size, hrun, hend, nx, rx_new nx ct mi ml mr 95 0, by rw [hea], hf, a3.1, Nat.lt_succ_self nx, ?_, hwarm, ⟨ce, by rw [hea]; exact hce, hoc.vm, hoc.cls⟩, [], hsame.mono (by omega) (by omega), fun q hq => by cases hq⟩
  refine a3.grow rfl hz hold (fun x hx => ⟨va_up_ne _ _ hx, va_up_ne _ _ hx, va_up_ne _ _ hx, va_up_ne _ _ hx⟩) ⟨fun ci' n' e' h9 => ?_, fun tg' n' e' h9 => ?_, ⟨ce, by show U.heap[rx_ea ev nx]? = _; rw [hea]; exact hce, by rw [hoc.vm]; rfl⟩⟩
  · have e2 : (95, 0) = (ci', n') := (va_up_self ct nx (95, 0)).symm.trans e'
    cases e2
    omega
  · have e2 : (95, 0) = (tg', n') := (va_up_self ct nx (95, 0)).symm.trans e'
    cases e2
    omega
/-! the catch, its class resolved or not yet -/
theorem rx_goCold {e : Env} {s : State} {f : JFrame} {a : Addr} {x : ExceptionTableEntry} {t : List ExceptionTableEntry} {c : ClassId} {cell : Cell} {vm' : Vm} (hx : covers x f.pc = true) (h0 : x.catchType ≠ 0)
    (hg : (Jvm.resolveClass f.method.cls x.catchType).Gives e.toSetting s.vm (.ok c) vm') (hsz : vm'.classes.size ≤ s.vm.classes.size) (hcell : s.heap[a]? = some cell) (hobj : ∀ k, cell.vm ≠ .statics k)
    (hk : ∃ k, vm'.classes[cell.cls]? = some k) (hc : ∃ k, vm'.classes[c]? = some k) (hfit : vm'.assignable cell.cls c = true) (Q : Handler → Pre) (E : CtlPost) (d : Bool) (acts : List Action) :
    wp (findHandler.go f a (x :: t)) Q E e d acts s ↔ Q (.found x.handlerPc) d acts (s.setVm vm') := by
  simp only [covers] at hx
  obtain ⟨ha, ht⟩ := hg.op (op := VmOp.resolveClass f.method.cls x.catchType) rfl
  have hcell' : (s.setVm vm').heap[a]? = some cell := hcell
  simp [findHandler.go, hx, h0, ha, ht, hsz, hcell, hobj, hk, hc, hfit, VmOp.dirties, VmOp.acts]
end
section
/-! A call throws, and the caller's handler takes it -/
theorem rx_stepCatch {e : Env} {s : State} {a : Addr} {f : JFrame} {r : List Frame} {pc : Nat} {vm' : Vm} (hfind : ∀ (Q : Handler → Pre) (E : CtlPost) (d : Bool) (acts : List Action), wp (findHandler f a) Q E e d acts s ↔ Q (.found pc) d acts (s.setVm vm')) :
    (stepThrowing e s a (.java f :: r)).Is ((s.setVm vm').setFrames (.java { f with pc := pc, stack := [.ref a] } :: r)) [] := by
  simp only [stepThrowing, searchFrame, vmDo]
  generalize hr : Sem.go _ e false [] s = res
  obtain ⟨as, rfl, ha⟩ := Sem.eq_ok_of hr (a := Handler.found pc) (s' := s.setVm vm') (acts' := []) (by simp [hfind _ _ _ _])
  exact ⟨rfl, ha⟩
theorem rx_stepsCatch {tb : Tables} {e : Env} {s target : State} {g : JFrame} {c : Code} {below : List Frame} {a : Addr} {vm' : Vm} (h : At s g.method c below) {pc : Nat} (hfind : ∀ (Q : Handler → Pre) (E : CtlPost) (d : Bool) (acts : List Action), wp (findHandler g a) Q E e d acts ((s.setTop g).pushFrame (.throwing a)) ↔ Q (.found pc) d acts (((s.setTop g).pushFrame (.throwing a)).setVm vm'))
    (hrest : Steps tb e below ((s.setVm vm').setTop { g with pc := pc, stack := [.ref a] }) target) : Steps tb e below ((s.setTop g).pushFrame (.throwing a)) target := by
  obtain ⟨hgo, hw⟩ := h.throwing a
  refine Steps.head hgo hw ?_
  rw [stepThread_throwing (frames_entered h.top _), (rx_stepCatch (s := (s.setTop g).pushFrame (.throwing a)) hfind).1]
  obtain ⟨g₀, hg⟩ := Option.isSome_iff_exists.mp h.top
  obtain ⟨r, hr⟩ := State.topJava?_eq_some.mp hg
  have hr' : (s.setVm vm').frames = .java g₀ :: r := hr
  rw [State.setTop_of_frames _ hr'] at hrest
  rw [State.pushFrame, State.setTop_of_frames _ hr, State.setFrames_setFrames, hr]
  show Steps tb e below (((s.setVm vm').setFrames _).setFrames _) target
  rw [State.setFrames_setFrames]
  exact hrest
/-- the call of a method that throws: the state behind it, with the note over the caller's frame -/
theorem rx_backT {l : Launch} {R : Room} {p : Program} {e : Env} {below : List Frame} {s : State} {sargs : Array Value} {m : MethodId} {meth : Method} {c : Code} {U : State} {Ls : List Loc} {c0 s0 len : Nat} {y : MethodName} {M : rx_M} {d mc ms : Nat} {as : List Value} {σ : rx_S} {f : Nat → rx_S → Prop} {ev : rx_E} {g : JFrame} {ig : Instr} {mk : MethodId}
    (hM : rx_Throws y M d mc ms as σ f) (htr : l.stackTraces = false) (X : Stand p l e R s m sargs below meth c U Ls c0 s0) (hg : g.method = m) (hsize : g.locals.size = c.maxLocals) (hdg : decode c.code g.pc = .ok (ig, len)) (hW : 2 * g.monitorRoom + (g.stack.map fun v => v.category).sum ≤ 8) (hn : U.methodNamed? y = some mk)
    (hfr : d + 1 ≤ R.frames) (hlo : 8 + (M.2.2.1 + 11) + 40 * d ≤ R.locals) (hce : c0 + mc ≤ R.cells) (hsl : s0 + ms ≤ R.slots) (hws : ∀ w ∈ rx_ws y M, ∀ (a' : Array Value) (U : State), s.WarmedH U.vm → w.before a' U = true) (hini : (Cond.initialized y.cls).before sargs s = true)
    (hP : rx_P ev as σ (as.map (rx_tv ev)).toArray (U.calling g mk (as.map (rx_tv ev)).toArray)) :
    ∃ (x : Nat) (τ : rx_S) (T' : State) (L : List Loc), f x τ ∧ 256 ≤ x ∧ x < τ.1 ∧ rx_R ev τ T'.heap ∧ (∀ q ∈ L, ev.2.2.2.1.size ≤ q.base) ∧ Stand p l e R s m sargs below meth c T' (Ls ++ L) (c0 + mc) (s0 + ms) ∧ (∃ ce : Cell, T'.heap[rx_ea ev x]? = some ce ∧ ce.vm = .none ∧ U.vm.findClass "java/lang/IndexOutOfBoundsException" = some ce.cls) ∧
      Steps p.tables e below (doInvoke e (U.setTop g) [] mk (as.map (rx_tv ev)).toArray).1 ((T'.setTop g).pushFrame (.throwing (rx_ea ev x))) := by
  have hM' := hM l htr ev
  have hcode := hws _ List.mem_cons_self (as.map (rx_tv ev)).toArray U X.warmed
  obtain ⟨methY, cY, hmY, hcY, -, hlY, -, -, -, -⟩ := Cond.code_spec hn hcode
  obtain ⟨kY, hkY, -⟩ := className_of_methodNamed hn
  have hini' : (Cond.initialized y.cls).before (as.map (rx_tv ev)).toArray U = true := word_at X.warmed (Or.inl (by first | rfl | simp [Cond.onTables, Cond.keeps, Cond.steady])) hini
  have hinitY : kY.init = .initialized := Cond.initialized_spec (findClass_of_methodNamed hn) hkY hini'
  have h : At U g.method c below := by rw [hg]; exact X.here
  have happ : (headSpec (rx_ws y M) { frames := d, cells := mc, slots := ms, locals := 40 * d }).appliesLoose y e.platform (U.calling g mk (as.map (rx_tv ev)).toArray) = true :=
    Spec.appliesLoose_calling (g := g) h hdg hn hkY hinitY
      (X.room_calling (g := g) (R' := { frames := d, cells := mc, slots := ms, locals := 40 * d }) hsize hmY hcY hfr (by rw [hlY]; show _ + _ + 40 * d ≤ _; omega) hce hsl) (atoms_intro fun w hw => hws w hw _ _ X.warmed)
  obtain ⟨mid, hmid⟩ := h.above
  have hfr2 : (U.setTop g).frames = (.java g :: mid) ++ below := by rw [State.frames_setTop' g h.top, hmid]; rfl
  obtain ⟨o, s₂, hsteps, -, hend, hq⟩ := Steps.callFree hM' p X.admits X.cas X.clock (acts := []) hfr2 happ hP trivial
  rw [State.frames_setTop' g h.top, X.tail] at hend
  obtain ⟨x, τ, ho, hf, hx1, hx2, hR, hWm, ⟨ce, hc1, hc2, hc3⟩, L, hsame, hL⟩ := hq
  subst ho
  obtain ⟨T', X', -, -, ht⟩ := X.outOfThrown hg hend hWm hsame
  have hh : T'.heap = s₂.heap := by
    rw [ht]
    exact (Stand.throwing_heap T' g _).symm
  refine ⟨x, τ, T', L, hf, hx1, hx2, by rw [hh]; exact hR, hL, X', ⟨ce, by rw [hh]; exact hc1, hc2, hc3⟩, ?_⟩
  rw [← ht]
  exact hsteps
theorem rx_hs1 {vm vm' : Vm} (h : vm.Alike vm') : vm'.classes.size ≤ vm.classes.size := by
  first
    | exact Nat.le_of_eq h.2.1
    | exact Nat.le_of_eq h.2.1.symm
    | exact Nat.le_of_eq h.1
    | exact Nat.le_of_eq h.1.symm
section
variable {M M' : rx_M} {y : MethodName} {d d1 mc ms mc1 ms1 pc ix r : Nat} {lo : List (Nat × Value)} {st stk as : List Value} {σ : rx_S} {post : rx_End} {f : Nat → rx_S → Prop}
theorem ru_callVT {p0 p1 hp ci : Nat} (hd : decode M.2.1 pc = .ok (.invokevirtual ix, 3)) (hL : rx_LV M.1 ix y M' as.length) (hc : rx_Throws y M' d1 mc1 ms1 (.ref r :: as) σ f) (hv : rx_recv σ r y.cls) (hdd : d1 + 1 ≤ d) (hstk : stk = as.reverse ++ .ref r :: st) (hcat : (st.map fun v => v.category).sum ≤ 8)
    (hh : M.2.2.2.2.2 = [(p0, p1, hp, ci)]) (hcov : p0 ≤ pc ∧ pc < p1 ∧ ci ≠ 0) (hcl : Cond.classLink M.1 ci rx_IO ∈ rx_TB)
    (k : ∀ x τ, f x τ → rx_W M d mc ms hp lo [.ref x] τ post) : rx_W M d (mc1 + mc) (ms1 + ms) pc lo stk σ post := by
  intro l ev p e s m args below meth c C R H locs cells slots mt sst ls A
  obtain ⟨⟨w1, w2, w3, w4, w5, w6⟩, w7, w8⟩ := hL
  obtain ⟨a1, a2, a3, a4, a5, a6, a7, a8, a9⟩ := A
  have hts := C.2.2.2.2.1
  have hOk := C.2.2.2.2.2.2.2.2.1
  have hws := pay_in hts (rx_goodIn (y := y) (M := M') w1)
  have hlen : ∀ sig, parseMethodDescriptor y.desc = some sig → as.length = sig.parameters.length := fun sig h => by
    rw [h] at w4
    exact (Option.some.inj w4).symm
  obtain ⟨cellB, hcB, hoB, hclB⟩ := hv ev s H hOk a3
  have hst : (F0 m pc ls (stk.map (rx_tv ev))).stack = (as.map (rx_tv ev)).reverse ++ .ref (rx_ea ev r) :: st.map (rx_tv ev) := by
    show stk.map (rx_tv ev) = _
    rw [hstk, List.map_append, List.map_reverse]
    rfl
  have hroom : 2 * (F0 m pc ls (st.map (rx_tv ev))).monitorRoom + ((st.map (rx_tv ev)).map fun v => v.category).sum ≤ 8 := lv_room (by rw [rx_cats]; exact hcat)
  intro T hT X
  obtain ⟨mk, methM, hnamed, hmethM, hstM, habM⟩ := Cond.instanceMethod_spec (hts _ w7)
  obtain ⟨methM', cM, hmethM', -, -, -, -, -, -, hsigM⟩ := Cond.code_spec hnamed (hts _ w1)
  cases hmethM.symm.trans hmethM'
  obtain ⟨c2, r2, m2, q1, q2, q3, q4, kP, hkP, hkPi⟩ := Cond.selects_spec (hts _ w8)
  cases hclB.symm.trans q1
  cases (State.methodFound?_of_named hnamed w3).symm.trans q2
  cases hnamed.symm.trans q3
  have hselP : selectMethod e.platform s.vm cellB.cls mk = .method mk := by rw [Launch.admits_selectMethod X.admits]; exact q4
  have hcB' : T.heap[rx_ea ev r]? = some cellB := by rw [hT]; exact hcB
  have key : ∃ vm₁, Stand p l e R s m args below meth c (T.setVm vm₁) locs cells slots ∧ ∀ target, (∀ acts, Steps p.tables e below (doInvoke e ((T.setVm vm₁).setTop (F0 m pc ls (st.map (rx_tv ev)))) acts mk (Value.ref (rx_ea ev r) :: as.map (rx_tv ev)).toArray).1 target) → Steps p.tables e below (T.setTop (F0 m pc ls (stk.map (rx_tv ev)))) target := by
    rcases w6 with w6 | ⟨host, w6⟩
    · exact X.invokevirtual C.1 C.2.2.2.1 (hts _ w6) hnamed hmethM hstM hkP hkPi w3 (a := rx_ea ev r) (cell := cellB) hcB'
        (fun z h => by rw [h] at hoB; cases hoB) hselP hmethM habM hkP hkPi (g := F0 m pc ls (stk.map (rx_tv ev))) rfl (argsL := as.map (rx_tv ev)) (rest := st.map (rx_tv ev)) ((List.length_map _).trans (hlen _ hsigM)) hst (by rw [C.2.1]; exact hd)
    · exact X.invokevirtualNest C.1 C.2.2.2.1 (va_Nw.use rfl (hOk.2.1 _ w6)) hnamed hmethM hstM hkP hkPi w3 (a := rx_ea ev r) (cell := cellB) hcB'
        (fun z h => by rw [h] at hoB; cases hoB) hselP hmethM habM hkP hkPi (g := F0 m pc ls (stk.map (rx_tv ev))) rfl (argsL := as.map (rx_tv ev)) (rest := st.map (rx_tv ev)) ((List.length_map _).trans (hlen _ hsigM)) hst (by rw [C.2.1]; exact hd)
  obtain ⟨vm₁, X₁, hstep₁⟩ := key
  obtain ⟨x, τ, T', L, hf, hx1, hx2, hR', hL', X', ⟨ce, hc1, hc2, hc3⟩, hsteps⟩ := rx_backT (as := .ref r :: as) (ev := ev) (g := F0 m pc ls (st.map (rx_tv ev))) (ig := .invokevirtual ix) (len := 3) (mk := mk) hc C.2.2.2.2.2.2.2.2.2.2.1 X₁ rfl (by rw [C.2.2.1]; exact a4.1) (by rw [C.2.1]; exact hd) hroom (X₁.named hnamed) (by omega) (by omega) (by omega) (by omega) hws (hts _ w2)
    ⟨rfl, by show rx_R ev σ T.heap; rw [hT]; exact a3, rx_Ok_same (u := T.setVm vm₁) rfl (rx_Ok_warm (s := s) X₁.warmed hOk)⟩
  -- the handler
  have hpl : e.platform.magicAccessors = ({} : Platform).magicAccessors := by rw [X.admits.platform]
  obtain ⟨cc', hfcc, hcl'⟩ := Cond.classLink_spec C.2.2.2.1 (hts _ hcl) e.platform hpl
  obtain ⟨hg₁, hwarm₁, hready₁⟩ := State.classEntry (e := e) X'.warmed hcl'
  generalize T'.vm.noted m.cls ci (.cls cc') = vm₂ at hg₁ hwarm₁ hready₁
  have hal : s.vm.Alike vm₂ := hwarm₁.alike
  have hclc : s.vm.findClass rx_IO = some ce.cls := by
    rw [← X₁.warmed.alike.findClass]
    exact hc3
  have hcc : cc' = ce.cls := Option.some.inj (hfcc.symm.trans hclc)
  subst hcc
  have X₂ := X'.noted hwarm₁
  obtain ⟨kC, hkC⟩ := Vm.classAt_of_findClass (show vm₂.findClass rx_IO = some ce.cls by rw [hal.findClass]; exact hclc)
  have htab := C.2.2.2.2.2.2.2.2.2.2.2.2
  rw [hh] at htab
  obtain ⟨ent, hent⟩ : ∃ ent : ExceptionTableEntry, c.exceptionTable.toList = [ent] := by
    cases ht : c.exceptionTable.toList with
    | nil => rw [ht] at htab; cases htab
    | cons a t => cases t with
      | nil => exact ⟨a, rfl⟩
      | cons b t => rw [ht] at htab; simp at htab
  rw [hent] at htab
  simp only [List.map_cons, List.map_nil, List.cons.injEq, Prod.mk.injEq, and_true] at htab
  obtain ⟨t1, t2, t3, t4⟩ := htab
  have K := k x τ hf l ev p e s m args below meth c C R T'.heap (locs ++ L) (cells + mc1) (slots + ms1) mt sst ls ⟨a1, a2, hR', a4, t_lL a5 hL', by omega, by omega, a8, a9⟩
  obtain ⟨t, b1, b2⟩ := K (T'.setVm vm₂) rfl X₂
  refine ⟨t, hstep₁ t (fun acts => ?_), b2⟩
  rw [doInvoke_state]
  refine hsteps.trans ?_
  refine rx_stepsCatch (vm' := vm₂) (pc := hp) (g := F0 m pc ls (st.map (rx_tv ev))) X'.here (fun Q E dd acts => ?_) b1
  have hm2 : ((T'.setTop (F0 m pc ls (st.map (rx_tv ev)))).pushFrame (.throwing (rx_ea ev x))).vm.method? m = some meth := by
    rw [Stand.throwing_vm]
    exact X'.method'
  rw [W.findHandler_eq (f := F0 m pc ls (st.map (rx_tv ev))) hm2 X'.code, hent, ← t3]
  refine rx_goCold (cell := ce) (vm' := vm₂) (by simp [covers, t1, t2, hcov.1, hcov.2.1]) (by rw [t4]; exact hcov.2.2) ?_ ?_ ?_ (fun z h => by rw [hc2] at h; cases h) ⟨kC, hkC⟩ ⟨kC, hkC⟩ ?_ Q E dd acts
  · rw [Stand.throwing_vm, t4]
    exact hg₁
  · rw [Stand.throwing_vm]
    exact rx_hs1 (X'.warmed.alike.symm.trans hal)
  · rw [Stand.throwing_heap]
    exact hc1
  · first
      | exact va_asg _ _
      | simp [Vm.assignable, Vm.assignableAux]
end
end
section
/-! Methods with a handler; methods of a superclass; a static that is a reference or null -/
def rx_CallsW (y : MethodName) (M : rx_M) (d mc ms : Nat) (as : List Value) (σ : rx_S) (post : Option Value → rx_S → Prop) : Prop :=
  ∀ (l : Launch), l.stackTraces = false → ∀ (ev : rx_E), Met l y (rx_wsW y M) { frames := d, cells := mc, slots := ms, locals := 40 * d } (rx_P ev as σ) (rx_Q ev post) mc ms (fun q => ev.2.2.2.1.size ≤ q)
theorem rx_enterW {y : MethodName} {M : rx_M} {d mc ms : Nat} {as : List Value} {σ : rx_S} {post : Option Value → rx_S → Prop} (hy : plainName y.cls = true) (hM : y.cls = M.1) (hnm : y.name = M.2.2.2.2.1) (hn : (lg_sl as).length ≤ M.2.2.1) (k : rx_W M d mc ms 0 (lv_args 0 as) [] σ (pR post)) : rx_CallsW y M d mc ms as σ post := by
  intro l htr ev
  refine va_MetW (cc := M.2.1) (maxL := M.2.2.1) (ret := M.2.2.2.1) (hh := M.2.2.2.2.2) hy rfl ?_
  intro p e s m args below meth c s₁ B hml hv
  obtain ⟨rfl, hR, hOk⟩ := hv
  have hts := atoms_spec (ws := rx_wsW y M) B.pre
  have hown : s.vm.findClass M.1 = some m.cls := by rw [← hM]; exact findClass_of_methodNamed B.named
  have htab : c.exceptionTable.toList.map (fun h => (h.startPc, h.endPc, h.handlerPc, h.catchType)) = M.2.2.2.2.2 := by
    obtain ⟨m9, meth9, c9, h1, h2, h3, -, -, h4, -⟩ := Cond.codeWith_spec (hts _ List.mem_cons_self)
    cases B.named.symm.trans h1
    cases B.method.symm.trans h2
    cases (Stand.of_body B).code.symm.trans h3
    exact h4
  refine rx_enter0 (d := d) (mc := mc) (ms := ms) (post := pR post) (R := { frames := d, cells := mc, slots := ms, locals := 40 * d }) hn hR ⟨Nat.le_refl _, Nat.le_refl _, Nat.le_refl _, Nat.le_refl _⟩ ⟨B.exec, B.bytes, hml, hown, fun w h => hts w (List.mem_cons_of_mem _ h), B.returns, B.notSynchronized, (name_of_methodNamed B.named B.method).1.trans hnm, hOk, ⟨?_, hR.2.2.1⟩, htr, hR.ns, htab⟩ k
  rw [hR.2.1]
  omega
def rx_LW (own : String) (ix : Nat) (y : MethodName) (M : rx_M) (n : Nat) : Prop :=
  Cond.codeWith y M.2.1 M.2.2.1 M.2.2.2.1 M.2.2.2.2.2 ∈ rx_TB ∧ Cond.initialized y.cls ∈ rx_TB ∧ (y.cls ≠ "java/lang/invoke/MethodHandle" ∧ y.cls ≠ "java/lang/invoke/VarHandle") ∧ (parseMethodDescriptor y.desc).map (fun d => d.parameters.length) = some n ∧ M.2.2.1 ≤ 21 ∧ Cond.methodLink own ix y ∈ rx_TB ∧ Cond.static y ∈ rx_TB
/-- a method of a superclass, by super or by inheritance: own's pool place ix names y; the receiver's class is Cn -/
def rx_LU (own : String) (ix : Nat) (y : MethodName) (M : rx_M) (n : Nat) (Cn : String) : Prop := rx_L own ix y M n ∧ Cond.methodLink own ix y ∈ rx_TB ∧ Cond.sameMethod y.cls y.cls y.name y.desc ∈ rx_TB ∧ Cond.selects Cn y y ∈ rx_TB ∧ Cond.instanceMethod y ∈ rx_TB
def rx_LSU (own : String) (ix : Nat) (y : MethodName) (M : rx_M) (n : Nat) : Prop := rx_L own ix y M n ∧ Cond.methodLink own ix y ∈ rx_TB ∧ Cond.sameMethod y.cls y.cls y.name y.desc ∈ rx_TB ∧ Cond.superclass own y.cls ∈ rx_TB ∧ Cond.instanceMethod y ∈ rx_TB ∧ y.name ≠ "<init>"
section
variable {M M' : rx_M} {y : MethodName} {d d1 mc ms mc1 ms1 pc ix r : Nat} {lo : List (Nat × Value)} {st stk as : List Value} {σ : rx_S} {post : rx_End} {post1 : Option Value → rx_S → Prop}
theorem ru_callSW (hd : decode M.2.1 pc = .ok (.invokestatic ix, 3)) (hL : rx_LW M.1 ix y M' as.length) (hc : rx_CallsW y M' d1 mc1 ms1 as σ post1) (hdd : d1 + 1 ≤ d) (hstk : stk = as.reverse ++ st) (hcat : (st.map fun v => v.category).sum ≤ 8)
    (k : ∀ v τ, post1 v τ → rx_W M d mc ms (pc + 3) lo (v.toList ++ st) τ post) : rx_W M d (mc1 + mc) (ms1 + ms) pc lo stk σ post := by
  intro l ev p e s m args below meth c C R H locs cells slots mt sst ls A
  obtain ⟨w1, w2, w3, w4, w5, w6, w7⟩ := hL
  obtain ⟨a1, a2, a3, a4, a5, a6, a7, a8, a9⟩ := A
  have hts := C.2.2.2.2.1
  have hOk := C.2.2.2.2.2.2.2.2.1
  have hG : GoodIn rx_TB (rx_wsW y M') := by
    intro w hw
    rcases List.mem_cons.mp hw with e | e
    · subst e
      exact ⟨w1, good_of_word (rx_good _ w1)⟩
    · exact ⟨e, good_of_word (rx_good _ e)⟩
  have hws := pay_in hts hG
  have hini := hts _ w2
  have hK : Back l R p e below s args y 3 8 (PreOf R mc1 ms1 (rx_P ev as σ)) (PostOf (rx_Q ev post1) mc1 ms1 (fun q => ev.2.2.2.1.size ≤ q)) :=
    va_backW (hh := M'.2.2.2.2.2) (bytes := M'.2.1) (maxL := M'.2.2.1) (ret := M'.2.2.2.1) (hc l C.2.2.2.2.2.2.2.2.2.2.1 ev) (rx_blind _ _ _) rfl rfl (by show d1 + 1 ≤ _; omega) (by show 8 + (M'.2.2.1 + 11) + 40 * d1 ≤ _; omega) hws List.mem_cons_self (fun a' U hW => word_at hW (Or.inl (by first | rfl | simp [Cond.onTables, Cond.keeps, Cond.steady])) hini)
  have hst : (F0 m pc ls (stk.map (rx_tv ev))).stack = (as.map (rx_tv ev)).reverse ++ st.map (rx_tv ev) := by
    show stk.map (rx_tv ev) = _
    rw [hstk, List.map_append, List.map_reverse]
  have hroom : 2 * (F0 m pc ls (stk.map (rx_tv ev))).monitorRoom + ((st.map (rx_tv ev)).map fun v => v.category).sum ≤ 8 := lv_room (by rw [rx_cats]; exact hcat)
  obtain ⟨mk, methM, cM, hnamed, hmethM, -, -, -, -, -, -, hsigM⟩ := Cond.codeWith_spec (hts _ w1)
  have hlen : (as.map (rx_tv ev)).length = methM.sig.parameters.length := by
    rw [hsigM] at w4
    rw [List.length_map]
    exact (Option.some.inj w4).symm
  have hstatic : methM.isStatic = true := Cond.static_spec hnamed hmethM (hts _ w7)
  obtain ⟨kP, hkP, -⟩ := className_of_methodNamed hnamed
  have hinitP : kP.init = .initialized := Cond.initialized_spec (findClass_of_methodNamed hnamed) hkP hini
  intro T hT X
  obtain ⟨vm₁, X₁, hstep₁⟩ := X.invokestatic C.1 C.2.2.2.1 (hts _ w6) hnamed hmethM hstatic hkP hinitP w3 (g := F0 m pc ls (stk.map (rx_tv ev))) rfl (argsL := as.map (rx_tv ev)) (rest := st.map (rx_tv ev)) hlen hst (by rw [C.2.1]; exact hd)
  obtain ⟨v, ⟨U', l2, c2, s2⟩, X', ⟨g', mk', t, L, e1, e2, ⟨v', τ, hv, hp, hR⟩, h1, hL, h2, h3⟩, hsteps⟩ := hK m meth c ⟨T.setVm vm₁, locs, cells, slots⟩ { F0 m pc ls (stk.map (rx_tv ev)) with stack := st.map (rx_tv ev) } (.invokestatic ix) mk (as.map (rx_tv ev)).toArray X₁ rfl (by rw [C.2.2.1]; exact a4.1) (by rw [C.2.1]; exact hd) hroom (X₁.named hnamed)
    ⟨by show cells + mc1 ≤ _; omega, by show slots + ms1 ≤ _; omega, rfl, by show rx_R ev σ T.heap; rw [hT]; exact a3, rx_Ok_warm (s := s) X₁.warmed hOk⟩
  dsimp only [Pt.U, Pt.locs, Pt.cells, Pt.slots] at X' e1 e2 h1 h2 h3 hsteps
  subst h1; subst h2; subst h3
  cases hv
  have K := k v' τ hp l ev p e s m args below meth c C R U'.heap (locs ++ L) (cells + mc1) (slots + ms1) mt sst ls ⟨a1, a2, by rw [e1]; exact hR, a4, t_lL a5 hL, by omega, by omega, a8, a9⟩
  rw [rx_toList] at K
  obtain ⟨t2, b1, b2⟩ := K U' rfl X'
  exact ⟨t2, hstep₁ t2 (fun acts => by rw [doInvoke_state]; exact hsteps.trans b1), b2⟩
theorem ru_callU {Cn : String} (hd : decode M.2.1 pc = .ok (.invokevirtual ix, 3)) (hL : rx_LU M.1 ix y M' as.length Cn) (hc : rx_Calls y M' d1 mc1 ms1 (.ref r :: as) σ post1) (hv : rx_recv σ r Cn) (hdd : d1 + 1 ≤ d) (hstk : stk = as.reverse ++ .ref r :: st) (hcat : (st.map fun v => v.category).sum ≤ 8)
    (k : ∀ v τ, post1 v τ → rx_W M d mc ms (pc + 3) lo (v.toList ++ st) τ post) : rx_W M d (mc1 + mc) (ms1 + ms) pc lo stk σ post := by
  intro l ev p e s m args below meth c C R H locs cells slots mt sst ls A
  obtain ⟨⟨w1, w2, w3, w4, w5, -⟩, w6, w7, w8, w9⟩ := hL
  obtain ⟨a1, a2, a3, a4, a5, a6, a7, a8, a9⟩ := A
  have hts := C.2.2.2.2.1
  have hOk := C.2.2.2.2.2.2.2.2.1
  have hws := pay_in hts (rx_goodIn (y := y) (M := M') w1)
  have hlen : ∀ sig, parseMethodDescriptor y.desc = some sig → as.length = sig.parameters.length := fun sig h => by
    rw [h] at w4
    exact (Option.some.inj w4).symm
  have hpre : PreV s H Cn (rx_ea ev r) (rx_P ev (.ref r :: as) σ) (as.map (rx_tv ev)) := ⟨rx_blind _ _ _, hv ev s H hOk a3, fun U hU hW => ⟨rfl, by rw [hU]; exact a3, rx_Ok_warm hW hOk⟩⟩
  have hst : (F0 m pc ls (stk.map (rx_tv ev))).stack = (as.map (rx_tv ev)).reverse ++ .ref (rx_ea ev r) :: st.map (rx_tv ev) := by
    show stk.map (rx_tv ev) = _
    rw [hstk, List.map_append, List.map_reverse]
    rfl
  have hroom : 2 * (F0 m pc ls (stk.map (rx_tv ev))).monitorRoom + ((st.map (rx_tv ev)).map fun v => v.category).sum ≤ 8 := lv_room (by rw [rx_cats]; exact hcat)
  refine rx_after (va_runU (x := y) (owner := y.cls) (C := Cn) ⟨C.1, C.2.1, C.2.2.1, C.2.2.2.1, hts⟩ (hc l C.2.2.2.2.2.2.2.2.2.2.1 ev) ⟨⟨rfl, rfl, by show d1 + 1 ≤ _; omega, by show 8 + (M'.2.2.1 + 11) + 40 * d1 ≤ _; omega, hws, List.mem_cons_self⟩, hts _ w1, hts _ w2, w3, hlen, hts _ w6, hts _ w7, va_Decl.of (hts _ w9) (hts _ w1), hts _ w8, hts _ w9⟩ hpre rfl (List.length_map _) a4.1 hst hroom hd ⟨by omega, by omega⟩) ?_
  intro v τ H1 L h1 h2 h3
  have K := k v τ h1 l ev p e s m args below meth c C R H1 (locs ++ L) (cells + mc1) (slots + ms1) mt sst ls ⟨a1, a2, h2, a4, t_lL a5 h3, by omega, by omega, a8, a9⟩
  rw [rx_toList] at K
  exact K
theorem ru_callSU {ci nn : Nat} {q : vw_C} (hd : decode M.2.1 pc = .ok (.invokespecial ix, 3)) (hL : rx_LSU M.1 ix y M' as.length) (hc : rx_Calls y M' d1 mc1 ms1 (.ref r :: as) σ post1) (hi : rx_is σ r ci nn) (hq : rx_cls ci q) (hdd : d1 + 1 ≤ d) (hstk : stk = as.reverse ++ .ref r :: st) (hcat : (st.map fun v => v.category).sum ≤ 8)
    (k : ∀ v τ, post1 v τ → rx_W M d mc ms (pc + 3) lo (v.toList ++ st) τ post) : rx_W M d (mc1 + mc) (ms1 + ms) pc lo stk σ post := by
  intro l ev p e s m args below meth c C R H locs cells slots mt sst ls A
  obtain ⟨⟨w1, w2, w3, w4, w5, -⟩, w6, w7, w8, w9, w10⟩ := hL
  obtain ⟨a1, a2, a3, a4, a5, a6, a7, a8, a9⟩ := A
  have hts := C.2.2.2.2.1
  have hOk := C.2.2.2.2.2.2.2.2.1
  have hws := pay_in hts (rx_goodIn (y := y) (M := M') w1)
  have hlen : ∀ sig, parseMethodDescriptor y.desc = some sig → as.length = sig.parameters.length := fun sig h => by
    rw [h] at w4
    exact (Option.some.inj w4).symm
  have hpre : PreV s H q.1 (rx_ea ev r) (rx_P ev (.ref r :: as) σ) (as.map (rx_tv ev)) := ⟨rx_blind _ _ _, rx_recv_is hi hq ev s H hOk a3, fun U hU hW => ⟨rfl, by rw [hU]; exact a3, rx_Ok_warm hW hOk⟩⟩
  have hst : (F0 m pc ls (stk.map (rx_tv ev))).stack = (as.map (rx_tv ev)).reverse ++ .ref (rx_ea ev r) :: st.map (rx_tv ev) := by
    show stk.map (rx_tv ev) = _
    rw [hstk, List.map_append, List.map_reverse]
    rfl
  have hroom : 2 * (F0 m pc ls (stk.map (rx_tv ev))).monitorRoom + ((st.map (rx_tv ev)).map fun v => v.category).sum ≤ 8 := lv_room (by rw [rx_cats]; exact hcat)
  refine rx_after (va_runSU (hOk.1.1 ci _ hq.1).2 ⟨C.1, C.2.1, C.2.2.1, C.2.2.2.1, hts⟩ (hc l C.2.2.2.2.2.2.2.2.2.2.1 ev) ⟨⟨rfl, rfl, by show d1 + 1 ≤ _; omega, by show 8 + (M'.2.2.1 + 11) + 40 * d1 ≤ _; omega, hws, List.mem_cons_self⟩, hts _ w6, hts _ w7, hts _ w8, hts _ w9, hts _ w2, hts _ w1, w10, hlen⟩ hpre rfl (List.length_map _) a4.1 hst hroom hd ⟨by omega, by omega⟩) ?_
  intro v τ H1 L h1 h2 h3
  have K := k v τ h1 l ev p e s m args below meth c C R H1 (locs ++ L) (cells + mc1) (slots + ms1) mt sst ls ⟨a1, a2, h2, a4, t_lL a5 h3, by omega, by omega, a8, a9⟩
  rw [rx_toList] at K
  exact K
/-- the formatter: a reference or null -/
theorem ru_getsF {ix : Nat} (hd : decode M.2.1 pc = .ok (.getstatic ix, 3)) (hw : Cond.fieldLink M.1 ix "jdk/internal/util/Preconditions" "SIOOBE_FORMATTER" "Ljava/util/function/BiFunction;" ∈ rx_TB) (k1 : rx_W M d mc ms (pc + 3) lo (.null :: st) σ post) (k2 : rx_W M d mc ms (pc + 3) lo (.ref 23 :: st) σ post) : rx_W M d mc ms pc lo st σ post := by
  intro l ev p e s m args below meth c C R H locs cells slots mt sst ls A
  have hOk := C.2.2.2.2.2.2.2.2.1
  have hT : rx_ExtT ev s := hOk.2.2.2.2.2.2.2.2.2.2.2.2.2.2.2
  rcases hT.2.2.2 with hZ | hZ
  · obtain ⟨cf, kf, fi, f, a, cell, h1, h2, h3, h4, h5, h6, h7, h8⟩ := hZ.kept (rx_low A)
    exact W.gets C.1 C.2.1 C.2.2.2.1 (C.2.2.2.2.1 _ hw) h1 h2 h3 h4 h5 (fun e => by rw [e] at h6; cases h6) h7 rfl hd (k1 l ev p e s m args below meth c C R H locs cells slots mt sst ls A)
  · obtain ⟨cf, kf, fi, f, a, cell, h1, h2, h3, h4, h5, h6, h7, h8⟩ := hZ.kept (rx_low A)
    exact W.gets C.1 C.2.1 C.2.2.2.1 (C.2.2.2.2.1 _ hw) h1 h2 h3 h4 h5 (fun e => by rw [e] at h6; cases h6) h7 rfl hd (k2 l ev p e s m args below meth c C R H locs cells slots mt sst ls A)
end
end
section
/-! The reference: its small methods -/
theorem nm_add (a b : Nat) : nI a + nI b = nI (a + b) := nI_add a b
theorem nm_mul (a b : Nat) : nI a * nI b = nI (a * b) := (Int32.ofNat_mul a b).symm
theorem nm_inc (a k : Nat) : nI a + Int32.ofInt k = nI (a + k) := nm_add a k
theorem nm_sub {a b : Nat} (h : b ≤ a) : nI a - nI b = nI (a - b) := by
  have : nI a = nI (a - b) + nI b := by rw [nm_add, Nat.sub_add_cancel h]
  rw [this, Int32.add_sub_cancel]
theorem nm_lt {a b : Nat} (ha : a < 2 ^ 31) (hb : b < 2 ^ 31) (h : nI a < nI b) : a < b := by
  rw [il, nI_toInt ha, nI_toInt hb] at h; omega
theorem nm_nlt {a b : Nat} (ha : a < 2 ^ 31) (hb : b < 2 ^ 31) (h : ¬ nI a < nI b) : b ≤ a := by
  rw [il, nI_toInt ha, nI_toInt hb] at h; omega
theorem nm_le {a b : Nat} (ha : a < 2 ^ 31) (hb : b < 2 ^ 31) (h : nI a ≤ nI b) : a ≤ b := by
  rw [ie, nI_toInt ha, nI_toInt hb] at h; omega
theorem nm_nle {a b : Nat} (ha : a < 2 ^ 31) (hb : b < 2 ^ 31) (h : ¬ nI a ≤ nI b) : b < a := by
  rw [ie, nI_toInt ha, nI_toInt hb] at h; omega
theorem nm_eq {a b : Nat} (ha : a < 2 ^ 31) (hb : b < 2 ^ 31) (h : nI a = nI b) : a = b := by
  rw [iq, nI_toInt ha, nI_toInt hb] at h; omega
theorem nm_ne {a b : Nat} (ha : a < 2 ^ 31) (hb : b < 2 ^ 31) (h : ¬ nI a = nI b) : ¬ a = b := fun q => h (by rw [q])
def isLet (u : Int32) : Prop := 97 ≤ u.toInt ∧ u.toInt ≤ 122
def isDig (u : Int32) : Prop := 48 ≤ u.toInt ∧ u.toInt ≤ 57
def isWS (u : Int32) : Prop := isLet u ∨ isDig u ∨ u.toInt = 46
theorem d_Mo_isLetter_0 : decode M_Mo_isLetter.2.1 0 = .ok (.iload_n 0, 1) := by decide +kernel
theorem d_Mo_isLetter_1 : decode M_Mo_isLetter.2.1 1 = .ok (.bipush 97, 2) := by decide +kernel
theorem d_Mo_isLetter_3 : decode M_Mo_isLetter.2.1 3 = .ok (.if_icmp .lt 13, 3) := by decide +kernel
theorem d_Mo_isLetter_6 : decode M_Mo_isLetter.2.1 6 = .ok (.iload_n 0, 1) := by decide +kernel
theorem d_Mo_isLetter_7 : decode M_Mo_isLetter.2.1 7 = .ok (.bipush 122, 2) := by decide +kernel
theorem d_Mo_isLetter_9 : decode M_Mo_isLetter.2.1 9 = .ok (.if_icmp .gt 7, 3) := by decide +kernel
theorem d_Mo_isLetter_12 : decode M_Mo_isLetter.2.1 12 = .ok (.iconst 1, 1) := by decide +kernel
theorem d_Mo_isLetter_13 : decode M_Mo_isLetter.2.1 13 = .ok (.goto 4, 3) := by decide +kernel
theorem d_Mo_isLetter_16 : decode M_Mo_isLetter.2.1 16 = .ok (.iconst 0, 1) := by decide +kernel
theorem d_Mo_isLetter_17 : decode M_Mo_isLetter.2.1 17 = .ok (.ireturn, 1) := by decide +kernel
theorem d_Mo_isDigit_0 : decode M_Mo_isDigit.2.1 0 = .ok (.iload_n 0, 1) := by decide +kernel
theorem d_Mo_isDigit_1 : decode M_Mo_isDigit.2.1 1 = .ok (.bipush 48, 2) := by decide +kernel
theorem d_Mo_isDigit_3 : decode M_Mo_isDigit.2.1 3 = .ok (.if_icmp .lt 13, 3) := by decide +kernel
theorem d_Mo_isDigit_6 : decode M_Mo_isDigit.2.1 6 = .ok (.iload_n 0, 1) := by decide +kernel
theorem d_Mo_isDigit_7 : decode M_Mo_isDigit.2.1 7 = .ok (.bipush 57, 2) := by decide +kernel
theorem d_Mo_isDigit_9 : decode M_Mo_isDigit.2.1 9 = .ok (.if_icmp .gt 7, 3) := by decide +kernel
theorem d_Mo_isDigit_12 : decode M_Mo_isDigit.2.1 12 = .ok (.iconst 1, 1) := by decide +kernel
theorem d_Mo_isDigit_13 : decode M_Mo_isDigit.2.1 13 = .ok (.goto 4, 3) := by decide +kernel
theorem d_Mo_isDigit_16 : decode M_Mo_isDigit.2.1 16 = .ok (.iconst 0, 1) := by decide +kernel
theorem d_Mo_isDigit_17 : decode M_Mo_isDigit.2.1 17 = .ok (.ireturn, 1) := by decide +kernel
theorem d_Mo_isWordSign_0 : decode M_Mo_isWordSign.2.1 0 = .ok (.iload_n 0, 1) := by decide +kernel
theorem d_Mo_isWordSign_1 : decode M_Mo_isWordSign.2.1 1 = .ok (.invokestatic 43, 3) := by decide +kernel
theorem d_Mo_isWordSign_4 : decode M_Mo_isWordSign.2.1 4 = .ok (.ifCond .ne 16, 3) := by decide +kernel
theorem d_Mo_isWordSign_7 : decode M_Mo_isWordSign.2.1 7 = .ok (.iload_n 0, 1) := by decide +kernel
theorem d_Mo_isWordSign_8 : decode M_Mo_isWordSign.2.1 8 = .ok (.invokestatic 47, 3) := by decide +kernel
theorem d_Mo_isWordSign_11 : decode M_Mo_isWordSign.2.1 11 = .ok (.ifCond .ne 9, 3) := by decide +kernel
theorem d_Mo_isWordSign_14 : decode M_Mo_isWordSign.2.1 14 = .ok (.iload_n 0, 1) := by decide +kernel
theorem d_Mo_isWordSign_15 : decode M_Mo_isWordSign.2.1 15 = .ok (.bipush 46, 2) := by decide +kernel
theorem d_Mo_isWordSign_17 : decode M_Mo_isWordSign.2.1 17 = .ok (.if_icmp .ne 7, 3) := by decide +kernel
theorem d_Mo_isWordSign_20 : decode M_Mo_isWordSign.2.1 20 = .ok (.iconst 1, 1) := by decide +kernel
theorem d_Mo_isWordSign_21 : decode M_Mo_isWordSign.2.1 21 = .ok (.goto 4, 3) := by decide +kernel
theorem d_Mo_isWordSign_24 : decode M_Mo_isWordSign.2.1 24 = .ok (.iconst 0, 1) := by decide +kernel
theorem d_Mo_isWordSign_25 : decode M_Mo_isWordSign.2.1 25 = .ok (.ireturn, 1) := by decide +kernel
theorem d_Mo_good_0 : decode M_Mo_good.2.1 0 = .ok (.aload_n 0, 1) := by decide +kernel
theorem d_Mo_good_1 : decode M_Mo_good.2.1 1 = .ok (.getfield 72, 3) := by decide +kernel
theorem d_Mo_good_4 : decode M_Mo_good.2.1 4 = .ok (.iconst (-1), 1) := by decide +kernel
theorem d_Mo_good_5 : decode M_Mo_good.2.1 5 = .ok (.if_icmp .ne 7, 3) := by decide +kernel
theorem d_Mo_good_8 : decode M_Mo_good.2.1 8 = .ok (.iconst 1, 1) := by decide +kernel
theorem d_Mo_good_9 : decode M_Mo_good.2.1 9 = .ok (.goto 4, 3) := by decide +kernel
theorem d_Mo_good_12 : decode M_Mo_good.2.1 12 = .ok (.iconst 0, 1) := by decide +kernel
theorem d_Mo_good_13 : decode M_Mo_good.2.1 13 = .ok (.ireturn, 1) := by decide +kernel
theorem d_Mo_fail_0 : decode M_Mo_fail.2.1 0 = .ok (.aload_n 0, 1) := by decide +kernel
theorem d_Mo_fail_1 : decode M_Mo_fail.2.1 1 = .ok (.getfield 72, 3) := by decide +kernel
theorem d_Mo_fail_4 : decode M_Mo_fail.2.1 4 = .ok (.iconst (-1), 1) := by decide +kernel
theorem d_Mo_fail_5 : decode M_Mo_fail.2.1 5 = .ok (.if_icmp .ne 8, 3) := by decide +kernel
theorem d_Mo_fail_8 : decode M_Mo_fail.2.1 8 = .ok (.aload_n 0, 1) := by decide +kernel
theorem d_Mo_fail_9 : decode M_Mo_fail.2.1 9 = .ok (.iload_n 1, 1) := by decide +kernel
theorem d_Mo_fail_10 : decode M_Mo_fail.2.1 10 = .ok (.putfield 72, 3) := by decide +kernel
theorem d_Mo_fail_13 : decode M_Mo_fail.2.1 13 = .ok (.return_, 1) := by decide +kernel
theorem d_Mo_length_0 : decode M_Mo_length.2.1 0 = .ok (.aload_n 0, 1) := by decide +kernel
theorem d_Mo_length_1 : decode M_Mo_length.2.1 1 = .ok (.getfield 59, 3) := by decide +kernel
theorem d_Mo_length_4 : decode M_Mo_length.2.1 4 = .ok (.aload_n 0, 1) := by decide +kernel
theorem d_Mo_length_5 : decode M_Mo_length.2.1 5 = .ok (.getfield 53, 3) := by decide +kernel
theorem d_Mo_length_8 : decode M_Mo_length.2.1 8 = .ok (.if_icmp .ge 25, 3) := by decide +kernel
theorem d_Mo_length_11 : decode M_Mo_length.2.1 11 = .ok (.aload_n 0, 1) := by decide +kernel
theorem d_Mo_length_12 : decode M_Mo_length.2.1 12 = .ok (.getfield 33, 3) := by decide +kernel
theorem d_Mo_length_15 : decode M_Mo_length.2.1 15 = .ok (.aload_n 0, 1) := by decide +kernel
theorem d_Mo_length_16 : decode M_Mo_length.2.1 16 = .ok (.getfield 59, 3) := by decide +kernel
theorem d_Mo_length_19 : decode M_Mo_length.2.1 19 = .ok (.iaload, 1) := by decide +kernel
theorem d_Mo_length_20 : decode M_Mo_length.2.1 20 = .ok (.aload_n 0, 1) := by decide +kernel
theorem d_Mo_length_21 : decode M_Mo_length.2.1 21 = .ok (.getfield 30, 3) := by decide +kernel
theorem d_Mo_length_24 : decode M_Mo_length.2.1 24 = .ok (.aload_n 0, 1) := by decide +kernel
theorem d_Mo_length_25 : decode M_Mo_length.2.1 25 = .ok (.getfield 59, 3) := by decide +kernel
theorem d_Mo_length_28 : decode M_Mo_length.2.1 28 = .ok (.iaload, 1) := by decide +kernel
theorem d_Mo_length_29 : decode M_Mo_length.2.1 29 = .ok (.isub, 1) := by decide +kernel
theorem d_Mo_length_30 : decode M_Mo_length.2.1 30 = .ok (.goto 4, 3) := by decide +kernel
theorem d_Mo_length_33 : decode M_Mo_length.2.1 33 = .ok (.iconst 0, 1) := by decide +kernel
theorem d_Mo_length_34 : decode M_Mo_length.2.1 34 = .ok (.ireturn, 1) := by decide +kernel
theorem d_Mo_isRule_0 : decode M_Mo_isRule.2.1 0 = .ok (.iload_n 1, 1) := by decide +kernel
theorem d_Mo_isRule_1 : decode M_Mo_isRule.2.1 1 = .ok (.ifCond .lt 15, 3) := by decide +kernel
theorem d_Mo_isRule_4 : decode M_Mo_isRule.2.1 4 = .ok (.iload_n 1, 1) := by decide +kernel
theorem d_Mo_isRule_5 : decode M_Mo_isRule.2.1 5 = .ok (.aload_n 0, 1) := by decide +kernel
theorem d_Mo_isRule_6 : decode M_Mo_isRule.2.1 6 = .ok (.getfield 189, 3) := by decide +kernel
theorem d_Mo_isRule_9 : decode M_Mo_isRule.2.1 9 = .ok (.if_icmp .ge 7, 3) := by decide +kernel
theorem d_Mo_isRule_12 : decode M_Mo_isRule.2.1 12 = .ok (.iconst 1, 1) := by decide +kernel
theorem d_Mo_isRule_13 : decode M_Mo_isRule.2.1 13 = .ok (.goto 4, 3) := by decide +kernel
theorem d_Mo_isRule_16 : decode M_Mo_isRule.2.1 16 = .ok (.iconst 0, 1) := by decide +kernel
theorem d_Mo_isRule_17 : decode M_Mo_isRule.2.1 17 = .ok (.ireturn, 1) := by decide +kernel
theorem d_Mo_isBare_0 : decode M_Mo_isBare.2.1 0 = .ok (.aload_n 0, 1) := by decide +kernel
theorem d_Mo_isBare_1 : decode M_Mo_isBare.2.1 1 = .ok (.getfield 27, 3) := by decide +kernel
theorem d_Mo_isBare_4 : decode M_Mo_isBare.2.1 4 = .ok (.aload_n 0, 1) := by decide +kernel
theorem d_Mo_isBare_5 : decode M_Mo_isBare.2.1 5 = .ok (.getfield 101, 3) := by decide +kernel
theorem d_Mo_isBare_8 : decode M_Mo_isBare.2.1 8 = .ok (.laload, 1) := by decide +kernel
theorem d_Mo_isBare_9 : decode M_Mo_isBare.2.1 9 = .ok (.ldc2_w 135, 3) := by decide +kernel
theorem d_Mo_isBare_12 : decode M_Mo_isBare.2.1 12 = .ok (.lcmp, 1) := by decide +kernel
theorem d_Mo_isBare_13 : decode M_Mo_isBare.2.1 13 = .ok (.ifCond .eq 19, 3) := by decide +kernel
theorem d_Mo_isBare_16 : decode M_Mo_isBare.2.1 16 = .ok (.aload_n 0, 1) := by decide +kernel
theorem d_Mo_isBare_17 : decode M_Mo_isBare.2.1 17 = .ok (.getfield 27, 3) := by decide +kernel
theorem d_Mo_isBare_20 : decode M_Mo_isBare.2.1 20 = .ok (.aload_n 0, 1) := by decide +kernel
theorem d_Mo_isBare_21 : decode M_Mo_isBare.2.1 21 = .ok (.getfield 101, 3) := by decide +kernel
theorem d_Mo_isBare_24 : decode M_Mo_isBare.2.1 24 = .ok (.laload, 1) := by decide +kernel
theorem d_Mo_isBare_25 : decode M_Mo_isBare.2.1 25 = .ok (.ldc2_w 137, 3) := by decide +kernel
theorem d_Mo_isBare_28 : decode M_Mo_isBare.2.1 28 = .ok (.lcmp, 1) := by decide +kernel
theorem d_Mo_isBare_29 : decode M_Mo_isBare.2.1 29 = .ok (.ifCond .ne 7, 3) := by decide +kernel
theorem d_Mo_isBare_32 : decode M_Mo_isBare.2.1 32 = .ok (.iconst 1, 1) := by decide +kernel
theorem d_Mo_isBare_33 : decode M_Mo_isBare.2.1 33 = .ok (.goto 4, 3) := by decide +kernel
theorem d_Mo_isBare_36 : decode M_Mo_isBare.2.1 36 = .ok (.iconst 0, 1) := by decide +kernel
theorem d_Mo_isBare_37 : decode M_Mo_isBare.2.1 37 = .ok (.ireturn, 1) := by decide +kernel
theorem d_Mo_say_0 : decode M_Mo_say.2.1 0 = .ok (.aload_n 0, 1) := by decide +kernel
theorem d_Mo_say_1 : decode M_Mo_say.2.1 1 = .ok (.getfield 36, 3) := by decide +kernel
theorem d_Mo_say_4 : decode M_Mo_say.2.1 4 = .ok (.aload_n 0, 1) := by decide +kernel
theorem d_Mo_say_5 : decode M_Mo_say.2.1 5 = .ok (.getfield 215, 3) := by decide +kernel
theorem d_Mo_say_8 : decode M_Mo_say.2.1 8 = .ok (.iload_n 1, 1) := by decide +kernel
theorem d_Mo_say_9 : decode M_Mo_say.2.1 9 = .ok (.iastore, 1) := by decide +kernel
theorem d_Mo_say_10 : decode M_Mo_say.2.1 10 = .ok (.aload_n 0, 1) := by decide +kernel
theorem d_Mo_say_11 : decode M_Mo_say.2.1 11 = .ok (.dup, 1) := by decide +kernel
theorem d_Mo_say_12 : decode M_Mo_say.2.1 12 = .ok (.getfield 215, 3) := by decide +kernel
theorem d_Mo_say_15 : decode M_Mo_say.2.1 15 = .ok (.iconst 1, 1) := by decide +kernel
theorem d_Mo_say_16 : decode M_Mo_say.2.1 16 = .ok (.iadd, 1) := by decide +kernel
theorem d_Mo_say_17 : decode M_Mo_say.2.1 17 = .ok (.putfield 215, 3) := by decide +kernel
theorem d_Mo_say_20 : decode M_Mo_say.2.1 20 = .ok (.return_, 1) := by decide +kernel
theorem d_Mo_thrown_0 : decode M_Mo_thrown.2.1 0 = .ok (.aload_n 0, 1) := by decide +kernel
theorem d_Mo_thrown_1 : decode M_Mo_thrown.2.1 1 = .ok (.getfield 39, 3) := by decide +kernel
theorem d_Mo_thrown_4 : decode M_Mo_thrown.2.1 4 = .ok (.ireturn, 1) := by decide +kernel
theorem d_Mo_clear_0 : decode M_Mo_clear.2.1 0 = .ok (.aload_n 0, 1) := by decide +kernel
theorem d_Mo_clear_1 : decode M_Mo_clear.2.1 1 = .ok (.iconst 0, 1) := by decide +kernel
theorem d_Mo_clear_2 : decode M_Mo_clear.2.1 2 = .ok (.putfield 39, 3) := by decide +kernel
theorem d_Mo_clear_5 : decode M_Mo_clear.2.1 5 = .ok (.aload_n 0, 1) := by decide +kernel
theorem d_Mo_clear_6 : decode M_Mo_clear.2.1 6 = .ok (.iconst 0, 1) := by decide +kernel
theorem d_Mo_clear_7 : decode M_Mo_clear.2.1 7 = .ok (.putfield 50, 3) := by decide +kernel
theorem d_Mo_clear_10 : decode M_Mo_clear.2.1 10 = .ok (.return_, 1) := by decide +kernel
theorem d_Mo_unit_0 : decode M_Mo_unit.2.1 0 = .ok (.aload_n 0, 1) := by decide +kernel
theorem d_Mo_unit_1 : decode M_Mo_unit.2.1 1 = .ok (.iconst 0, 1) := by decide +kernel
theorem d_Mo_unit_2 : decode M_Mo_unit.2.1 2 = .ok (.putfield 39, 3) := by decide +kernel
theorem d_Mo_unit_5 : decode M_Mo_unit.2.1 5 = .ok (.iload_n 1, 1) := by decide +kernel
theorem d_Mo_unit_6 : decode M_Mo_unit.2.1 6 = .ok (.invokestatic 43, 3) := by decide +kernel
theorem d_Mo_unit_9 : decode M_Mo_unit.2.1 9 = .ok (.ifCond .ne 34, 3) := by decide +kernel
theorem d_Mo_unit_12 : decode M_Mo_unit.2.1 12 = .ok (.iload_n 1, 1) := by decide +kernel
theorem d_Mo_unit_13 : decode M_Mo_unit.2.1 13 = .ok (.invokestatic 47, 3) := by decide +kernel
theorem d_Mo_unit_16 : decode M_Mo_unit.2.1 16 = .ok (.ifCond .ne 27, 3) := by decide +kernel
theorem d_Mo_unit_19 : decode M_Mo_unit.2.1 19 = .ok (.iload_n 1, 1) := by decide +kernel
theorem d_Mo_unit_20 : decode M_Mo_unit.2.1 20 = .ok (.bipush 10, 2) := by decide +kernel
theorem d_Mo_unit_22 : decode M_Mo_unit.2.1 22 = .ok (.if_icmp .eq 21, 3) := by decide +kernel
theorem d_Mo_unit_25 : decode M_Mo_unit.2.1 25 = .ok (.iload_n 1, 1) := by decide +kernel
theorem d_Mo_unit_26 : decode M_Mo_unit.2.1 26 = .ok (.bipush 32, 2) := by decide +kernel
theorem d_Mo_unit_28 : decode M_Mo_unit.2.1 28 = .ok (.if_icmp .eq 15, 3) := by decide +kernel
theorem d_Mo_unit_31 : decode M_Mo_unit.2.1 31 = .ok (.iload_n 1, 1) := by decide +kernel
theorem d_Mo_unit_32 : decode M_Mo_unit.2.1 32 = .ok (.bipush 46, 2) := by decide +kernel
theorem d_Mo_unit_34 : decode M_Mo_unit.2.1 34 = .ok (.if_icmp .eq 9, 3) := by decide +kernel
theorem d_Mo_unit_37 : decode M_Mo_unit.2.1 37 = .ok (.iload_n 1, 1) := by decide +kernel
theorem d_Mo_unit_38 : decode M_Mo_unit.2.1 38 = .ok (.bipush 59, 2) := by decide +kernel
theorem d_Mo_unit_40 : decode M_Mo_unit.2.1 40 = .ok (.if_icmp .ne 7, 3) := by decide +kernel
theorem d_Mo_unit_43 : decode M_Mo_unit.2.1 43 = .ok (.iconst 1, 1) := by decide +kernel
theorem d_Mo_unit_44 : decode M_Mo_unit.2.1 44 = .ok (.goto 4, 3) := by decide +kernel
theorem d_Mo_unit_47 : decode M_Mo_unit.2.1 47 = .ok (.iconst 0, 1) := by decide +kernel
theorem d_Mo_unit_48 : decode M_Mo_unit.2.1 48 = .ok (.istore_n 2, 1) := by decide +kernel
theorem d_Mo_unit_49 : decode M_Mo_unit.2.1 49 = .ok (.iload_n 2, 1) := by decide +kernel
theorem d_Mo_unit_50 : decode M_Mo_unit.2.1 50 = .ok (.ifCond .eq 13, 3) := by decide +kernel
theorem d_Mo_unit_53 : decode M_Mo_unit.2.1 53 = .ok (.aload_n 0, 1) := by decide +kernel
theorem d_Mo_unit_54 : decode M_Mo_unit.2.1 54 = .ok (.getfield 50, 3) := by decide +kernel
theorem d_Mo_unit_57 : decode M_Mo_unit.2.1 57 = .ok (.sipush 3000, 3) := by decide +kernel
theorem d_Mo_unit_60 : decode M_Mo_unit.2.1 60 = .ok (.if_icmp .ne 5, 3) := by decide +kernel
theorem d_Mo_unit_63 : decode M_Mo_unit.2.1 63 = .ok (.iconst 0, 1) := by decide +kernel
theorem d_Mo_unit_64 : decode M_Mo_unit.2.1 64 = .ok (.ireturn, 1) := by decide +kernel
theorem d_Mo_unit_65 : decode M_Mo_unit.2.1 65 = .ok (.aload_n 0, 1) := by decide +kernel
theorem d_Mo_unit_66 : decode M_Mo_unit.2.1 66 = .ok (.getfield 7, 3) := by decide +kernel
theorem d_Mo_unit_69 : decode M_Mo_unit.2.1 69 = .ok (.aload_n 0, 1) := by decide +kernel
theorem d_Mo_unit_70 : decode M_Mo_unit.2.1 70 = .ok (.getfield 50, 3) := by decide +kernel
theorem d_Mo_unit_73 : decode M_Mo_unit.2.1 73 = .ok (.iload_n 1, 1) := by decide +kernel
theorem d_Mo_unit_74 : decode M_Mo_unit.2.1 74 = .ok (.iastore, 1) := by decide +kernel
theorem d_Mo_unit_75 : decode M_Mo_unit.2.1 75 = .ok (.aload_n 0, 1) := by decide +kernel
theorem d_Mo_unit_76 : decode M_Mo_unit.2.1 76 = .ok (.dup, 1) := by decide +kernel
theorem d_Mo_unit_77 : decode M_Mo_unit.2.1 77 = .ok (.getfield 50, 3) := by decide +kernel
theorem d_Mo_unit_80 : decode M_Mo_unit.2.1 80 = .ok (.iconst 1, 1) := by decide +kernel
theorem d_Mo_unit_81 : decode M_Mo_unit.2.1 81 = .ok (.iadd, 1) := by decide +kernel
theorem d_Mo_unit_82 : decode M_Mo_unit.2.1 82 = .ok (.putfield 50, 3) := by decide +kernel
theorem d_Mo_unit_85 : decode M_Mo_unit.2.1 85 = .ok (.iconst 1, 1) := by decide +kernel
theorem d_Mo_unit_86 : decode M_Mo_unit.2.1 86 = .ok (.ireturn, 1) := by decide +kernel
theorem d_Mo_isAhead_0 : decode M_Mo_isAhead.2.1 0 = .ok (.aload_n 0, 1) := by decide +kernel
theorem d_Mo_isAhead_1 : decode M_Mo_isAhead.2.1 1 = .ok (.getfield 27, 3) := by decide +kernel
theorem d_Mo_isAhead_4 : decode M_Mo_isAhead.2.1 4 = .ok (.bipush 12, 2) := by decide +kernel
theorem d_Mo_isAhead_6 : decode M_Mo_isAhead.2.1 6 = .ok (.iload_n 1, 1) := by decide +kernel
theorem d_Mo_isAhead_7 : decode M_Mo_isAhead.2.1 7 = .ok (.imul, 1) := by decide +kernel
theorem d_Mo_isAhead_8 : decode M_Mo_isAhead.2.1 8 = .ok (.laload, 1) := by decide +kernel
theorem d_Mo_isAhead_9 : decode M_Mo_isAhead.2.1 9 = .ok (.ldc2_w 195, 3) := by decide +kernel
theorem d_Mo_isAhead_12 : decode M_Mo_isAhead.2.1 12 = .ok (.lcmp, 1) := by decide +kernel
theorem d_Mo_isAhead_13 : decode M_Mo_isAhead.2.1 13 = .ok (.ifCond .ne 7, 3) := by decide +kernel
theorem d_Mo_isAhead_16 : decode M_Mo_isAhead.2.1 16 = .ok (.iconst 1, 1) := by decide +kernel
theorem d_Mo_isAhead_17 : decode M_Mo_isAhead.2.1 17 = .ok (.goto 4, 3) := by decide +kernel
theorem d_Mo_isAhead_20 : decode M_Mo_isAhead.2.1 20 = .ok (.iconst 0, 1) := by decide +kernel
theorem d_Mo_isAhead_21 : decode M_Mo_isAhead.2.1 21 = .ok (.istore_n 3, 1) := by decide +kernel
theorem d_Mo_isAhead_22 : decode M_Mo_isAhead.2.1 22 = .ok (.aload_n 0, 1) := by decide +kernel
theorem d_Mo_isAhead_23 : decode M_Mo_isAhead.2.1 23 = .ok (.getfield 27, 3) := by decide +kernel
theorem d_Mo_isAhead_26 : decode M_Mo_isAhead.2.1 26 = .ok (.bipush 12, 2) := by decide +kernel
theorem d_Mo_isAhead_28 : decode M_Mo_isAhead.2.1 28 = .ok (.iload_n 2, 1) := by decide +kernel
theorem d_Mo_isAhead_29 : decode M_Mo_isAhead.2.1 29 = .ok (.imul, 1) := by decide +kernel
theorem d_Mo_isAhead_30 : decode M_Mo_isAhead.2.1 30 = .ok (.laload, 1) := by decide +kernel
theorem d_Mo_isAhead_31 : decode M_Mo_isAhead.2.1 31 = .ok (.ldc2_w 195, 3) := by decide +kernel
theorem d_Mo_isAhead_34 : decode M_Mo_isAhead.2.1 34 = .ok (.lcmp, 1) := by decide +kernel
theorem d_Mo_isAhead_35 : decode M_Mo_isAhead.2.1 35 = .ok (.ifCond .ne 7, 3) := by decide +kernel
theorem d_Mo_isAhead_38 : decode M_Mo_isAhead.2.1 38 = .ok (.iconst 1, 1) := by decide +kernel
theorem d_Mo_isAhead_39 : decode M_Mo_isAhead.2.1 39 = .ok (.goto 4, 3) := by decide +kernel
theorem d_Mo_isAhead_42 : decode M_Mo_isAhead.2.1 42 = .ok (.iconst 0, 1) := by decide +kernel
theorem d_Mo_isAhead_43 : decode M_Mo_isAhead.2.1 43 = .ok (.istore 4, 2) := by decide +kernel
theorem d_Mo_isAhead_45 : decode M_Mo_isAhead.2.1 45 = .ok (.iload_n 3, 1) := by decide +kernel
theorem d_Mo_isAhead_46 : decode M_Mo_isAhead.2.1 46 = .ok (.iload 4, 2) := by decide +kernel
theorem d_Mo_isAhead_48 : decode M_Mo_isAhead.2.1 48 = .ok (.if_icmp .eq 5, 3) := by decide +kernel
theorem d_Mo_isAhead_51 : decode M_Mo_isAhead.2.1 51 = .ok (.iload_n 3, 1) := by decide +kernel
theorem d_Mo_isAhead_52 : decode M_Mo_isAhead.2.1 52 = .ok (.ireturn, 1) := by decide +kernel
theorem d_Mo_isAhead_53 : decode M_Mo_isAhead.2.1 53 = .ok (.aload_n 0, 1) := by decide +kernel
theorem d_Mo_isAhead_54 : decode M_Mo_isAhead.2.1 54 = .ok (.getfield 27, 3) := by decide +kernel
theorem d_Mo_isAhead_57 : decode M_Mo_isAhead.2.1 57 = .ok (.bipush 12, 2) := by decide +kernel
theorem d_Mo_isAhead_59 : decode M_Mo_isAhead.2.1 59 = .ok (.iload_n 1, 1) := by decide +kernel
theorem d_Mo_isAhead_60 : decode M_Mo_isAhead.2.1 60 = .ok (.imul, 1) := by decide +kernel
theorem d_Mo_isAhead_61 : decode M_Mo_isAhead.2.1 61 = .ok (.bipush 7, 2) := by decide +kernel
theorem d_Mo_isAhead_63 : decode M_Mo_isAhead.2.1 63 = .ok (.iadd, 1) := by decide +kernel
theorem d_Mo_isAhead_64 : decode M_Mo_isAhead.2.1 64 = .ok (.laload, 1) := by decide +kernel
theorem d_Mo_isAhead_65 : decode M_Mo_isAhead.2.1 65 = .ok (.aload_n 0, 1) := by decide +kernel
theorem d_Mo_isAhead_66 : decode M_Mo_isAhead.2.1 66 = .ok (.getfield 27, 3) := by decide +kernel
theorem d_Mo_isAhead_69 : decode M_Mo_isAhead.2.1 69 = .ok (.bipush 12, 2) := by decide +kernel
theorem d_Mo_isAhead_71 : decode M_Mo_isAhead.2.1 71 = .ok (.iload_n 2, 1) := by decide +kernel
theorem d_Mo_isAhead_72 : decode M_Mo_isAhead.2.1 72 = .ok (.imul, 1) := by decide +kernel
theorem d_Mo_isAhead_73 : decode M_Mo_isAhead.2.1 73 = .ok (.bipush 7, 2) := by decide +kernel
theorem d_Mo_isAhead_75 : decode M_Mo_isAhead.2.1 75 = .ok (.iadd, 1) := by decide +kernel
theorem d_Mo_isAhead_76 : decode M_Mo_isAhead.2.1 76 = .ok (.laload, 1) := by decide +kernel
theorem d_Mo_isAhead_77 : decode M_Mo_isAhead.2.1 77 = .ok (.lsub, 1) := by decide +kernel
theorem d_Mo_isAhead_78 : decode M_Mo_isAhead.2.1 78 = .ok (.lstore 5, 2) := by decide +kernel
theorem d_Mo_isAhead_80 : decode M_Mo_isAhead.2.1 80 = .ok (.lload 5, 2) := by decide +kernel
theorem d_Mo_isAhead_82 : decode M_Mo_isAhead.2.1 82 = .ok (.lconst 0, 1) := by decide +kernel
theorem d_Mo_isAhead_83 : decode M_Mo_isAhead.2.1 83 = .ok (.lcmp, 1) := by decide +kernel
theorem d_Mo_isAhead_84 : decode M_Mo_isAhead.2.1 84 = .ok (.ifCond .eq 18, 3) := by decide +kernel
theorem d_Mo_isAhead_87 : decode M_Mo_isAhead.2.1 87 = .ok (.lload 5, 2) := by decide +kernel
theorem d_Mo_isAhead_89 : decode M_Mo_isAhead.2.1 89 = .ok (.lconst 0, 1) := by decide +kernel
theorem d_Mo_isAhead_90 : decode M_Mo_isAhead.2.1 90 = .ok (.lcmp, 1) := by decide +kernel
theorem d_Mo_isAhead_91 : decode M_Mo_isAhead.2.1 91 = .ok (.ifCond .le 7, 3) := by decide +kernel
theorem d_Mo_isAhead_94 : decode M_Mo_isAhead.2.1 94 = .ok (.iconst 1, 1) := by decide +kernel
theorem d_Mo_isAhead_95 : decode M_Mo_isAhead.2.1 95 = .ok (.goto 17, 3) := by decide +kernel
theorem d_Mo_isAhead_98 : decode M_Mo_isAhead.2.1 98 = .ok (.iconst 0, 1) := by decide +kernel
theorem d_Mo_isAhead_99 : decode M_Mo_isAhead.2.1 99 = .ok (.goto 13, 3) := by decide +kernel
theorem d_Mo_isAhead_102 : decode M_Mo_isAhead.2.1 102 = .ok (.iload_n 1, 1) := by decide +kernel
theorem d_Mo_isAhead_103 : decode M_Mo_isAhead.2.1 103 = .ok (.iload_n 2, 1) := by decide +kernel
theorem d_Mo_isAhead_104 : decode M_Mo_isAhead.2.1 104 = .ok (.if_icmp .le 7, 3) := by decide +kernel
theorem d_Mo_isAhead_107 : decode M_Mo_isAhead.2.1 107 = .ok (.iconst 1, 1) := by decide +kernel
theorem d_Mo_isAhead_108 : decode M_Mo_isAhead.2.1 108 = .ok (.goto 4, 3) := by decide +kernel
theorem d_Mo_isAhead_111 : decode M_Mo_isAhead.2.1 111 = .ok (.iconst 0, 1) := by decide +kernel
theorem d_Mo_isAhead_112 : decode M_Mo_isAhead.2.1 112 = .ok (.ireturn, 1) := by decide +kernel
section
variable {nx : Nat} {ct : Nat → Nat × Nat} {mi : Nat → Nat → Int32} {ml : Nat → Nat → Int64} {mr : Nat → Nat → Option Nat}
theorem sp_Mo_isLetter (u : Int32) (σ : rx_S) : rx_Calls y_Mo_isLetter M_Mo_isLetter 0 0 0 [.int u] σ (fun v τ => v = some (.int (bI (isLet u))) ∧ τ = σ) := by
  refine rx_enter (by decide) rfl rfl (Nat.le_of_ble_eq_true rfl) ?_
  unfold isLet
  refine ru_iload_n d_Mo_isLetter_0 rfl rfl ?_
  refine ru_bipush (v := 97) d_Mo_isLetter_1 (by decide) ?_
  refine ru_icmp_lt (tgt := 16) d_Mo_isLetter_3 (by decide) (fun h3 => ?_) (fun h3 => ?_)
  · skip
    refine ru_iconst (v := 0) d_Mo_isLetter_16 (by decide) ?_
    refine ru_zret (ty := .boolean) d_Mo_isLetter_17 rfl rfl ?_
    first | (exfalso; ((try simp only [isLet, isDig, isLD, isTC, il, ie, iq, i_m1, i_0, i_1, i_2, i_7, i_8, i_10, i_15, i_32, i_46, i_48, i_57, i_59, i_97, i_122] at *); omega)) | exact ⟨by rw [bI_t (by ((try simp only [isLet, isDig, isLD, isTC, il, ie, iq, i_m1, i_0, i_1, i_2, i_7, i_8, i_10, i_15, i_32, i_46, i_48, i_57, i_59, i_97, i_122] at *); omega))], rfl⟩ | exact ⟨by rw [bI_f (by ((try simp only [isLet, isDig, isLD, isTC, il, ie, iq, i_m1, i_0, i_1, i_2, i_7, i_8, i_10, i_15, i_32, i_46, i_48, i_57, i_59, i_97, i_122] at *); omega))], rfl⟩
  · skip
    refine ru_iload_n d_Mo_isLetter_6 rfl rfl ?_
    refine ru_bipush (v := 122) d_Mo_isLetter_7 (by decide) ?_
    refine ru_icmp_gt (tgt := 16) d_Mo_isLetter_9 (by decide) (fun h9 => ?_) (fun h9 => ?_)
    · skip
      refine ru_iconst (v := 0) d_Mo_isLetter_16 (by decide) ?_
      refine ru_zret (ty := .boolean) d_Mo_isLetter_17 rfl rfl ?_
      first | (exfalso; ((try simp only [isLet, isDig, isLD, isTC, il, ie, iq, i_m1, i_0, i_1, i_2, i_7, i_8, i_10, i_15, i_32, i_46, i_48, i_57, i_59, i_97, i_122] at *); omega)) | exact ⟨by rw [bI_t (by ((try simp only [isLet, isDig, isLD, isTC, il, ie, iq, i_m1, i_0, i_1, i_2, i_7, i_8, i_10, i_15, i_32, i_46, i_48, i_57, i_59, i_97, i_122] at *); omega))], rfl⟩ | exact ⟨by rw [bI_f (by ((try simp only [isLet, isDig, isLD, isTC, il, ie, iq, i_m1, i_0, i_1, i_2, i_7, i_8, i_10, i_15, i_32, i_46, i_48, i_57, i_59, i_97, i_122] at *); omega))], rfl⟩
    · skip
      refine ru_iconst (v := 1) d_Mo_isLetter_12 (by decide) ?_
      refine ru_goto (tgt := 17) d_Mo_isLetter_13 (by decide) ?_
      refine ru_zret (ty := .boolean) d_Mo_isLetter_17 rfl rfl ?_
      first | (exfalso; ((try simp only [isLet, isDig, isLD, isTC, il, ie, iq, i_m1, i_0, i_1, i_2, i_7, i_8, i_10, i_15, i_32, i_46, i_48, i_57, i_59, i_97, i_122] at *); omega)) | exact ⟨by rw [bI_t (by ((try simp only [isLet, isDig, isLD, isTC, il, ie, iq, i_m1, i_0, i_1, i_2, i_7, i_8, i_10, i_15, i_32, i_46, i_48, i_57, i_59, i_97, i_122] at *); omega))], rfl⟩ | exact ⟨by rw [bI_f (by ((try simp only [isLet, isDig, isLD, isTC, il, ie, iq, i_m1, i_0, i_1, i_2, i_7, i_8, i_10, i_15, i_32, i_46, i_48, i_57, i_59, i_97, i_122] at *); omega))], rfl⟩
theorem sp_Mo_isDigit (u : Int32) (σ : rx_S) : rx_Calls y_Mo_isDigit M_Mo_isDigit 0 0 0 [.int u] σ (fun v τ => v = some (.int (bI (isDig u))) ∧ τ = σ) := by
  refine rx_enter (by decide) rfl rfl (Nat.le_of_ble_eq_true rfl) ?_
  unfold isDig
  refine ru_iload_n d_Mo_isDigit_0 rfl rfl ?_
  refine ru_bipush (v := 48) d_Mo_isDigit_1 (by decide) ?_
  refine ru_icmp_lt (tgt := 16) d_Mo_isDigit_3 (by decide) (fun h3 => ?_) (fun h3 => ?_)
  · skip
    refine ru_iconst (v := 0) d_Mo_isDigit_16 (by decide) ?_
    refine ru_zret (ty := .boolean) d_Mo_isDigit_17 rfl rfl ?_
    first | (exfalso; ((try simp only [isLet, isDig, isLD, isTC, il, ie, iq, i_m1, i_0, i_1, i_2, i_7, i_8, i_10, i_15, i_32, i_46, i_48, i_57, i_59, i_97, i_122] at *); omega)) | exact ⟨by rw [bI_t (by ((try simp only [isLet, isDig, isLD, isTC, il, ie, iq, i_m1, i_0, i_1, i_2, i_7, i_8, i_10, i_15, i_32, i_46, i_48, i_57, i_59, i_97, i_122] at *); omega))], rfl⟩ | exact ⟨by rw [bI_f (by ((try simp only [isLet, isDig, isLD, isTC, il, ie, iq, i_m1, i_0, i_1, i_2, i_7, i_8, i_10, i_15, i_32, i_46, i_48, i_57, i_59, i_97, i_122] at *); omega))], rfl⟩
  · skip
    refine ru_iload_n d_Mo_isDigit_6 rfl rfl ?_
    refine ru_bipush (v := 57) d_Mo_isDigit_7 (by decide) ?_
    refine ru_icmp_gt (tgt := 16) d_Mo_isDigit_9 (by decide) (fun h9 => ?_) (fun h9 => ?_)
    · skip
      refine ru_iconst (v := 0) d_Mo_isDigit_16 (by decide) ?_
      refine ru_zret (ty := .boolean) d_Mo_isDigit_17 rfl rfl ?_
      first | (exfalso; ((try simp only [isLet, isDig, isLD, isTC, il, ie, iq, i_m1, i_0, i_1, i_2, i_7, i_8, i_10, i_15, i_32, i_46, i_48, i_57, i_59, i_97, i_122] at *); omega)) | exact ⟨by rw [bI_t (by ((try simp only [isLet, isDig, isLD, isTC, il, ie, iq, i_m1, i_0, i_1, i_2, i_7, i_8, i_10, i_15, i_32, i_46, i_48, i_57, i_59, i_97, i_122] at *); omega))], rfl⟩ | exact ⟨by rw [bI_f (by ((try simp only [isLet, isDig, isLD, isTC, il, ie, iq, i_m1, i_0, i_1, i_2, i_7, i_8, i_10, i_15, i_32, i_46, i_48, i_57, i_59, i_97, i_122] at *); omega))], rfl⟩
    · skip
      refine ru_iconst (v := 1) d_Mo_isDigit_12 (by decide) ?_
      refine ru_goto (tgt := 17) d_Mo_isDigit_13 (by decide) ?_
      refine ru_zret (ty := .boolean) d_Mo_isDigit_17 rfl rfl ?_
      first | (exfalso; ((try simp only [isLet, isDig, isLD, isTC, il, ie, iq, i_m1, i_0, i_1, i_2, i_7, i_8, i_10, i_15, i_32, i_46, i_48, i_57, i_59, i_97, i_122] at *); omega)) | exact ⟨by rw [bI_t (by ((try simp only [isLet, isDig, isLD, isTC, il, ie, iq, i_m1, i_0, i_1, i_2, i_7, i_8, i_10, i_15, i_32, i_46, i_48, i_57, i_59, i_97, i_122] at *); omega))], rfl⟩ | exact ⟨by rw [bI_f (by ((try simp only [isLet, isDig, isLD, isTC, il, ie, iq, i_m1, i_0, i_1, i_2, i_7, i_8, i_10, i_15, i_32, i_46, i_48, i_57, i_59, i_97, i_122] at *); omega))], rfl⟩
theorem sp_Mo_isWordSign (u : Int32) (σ : rx_S) : rx_Calls y_Mo_isWordSign M_Mo_isWordSign 1 0 0 [.int u] σ (fun v τ => v = some (.int (bI (isWS u))) ∧ τ = σ) := by
  refine rx_enter (by decide) rfl rfl (Nat.le_of_ble_eq_true rfl) ?_
  unfold isWS
  refine ru_iload_n d_Mo_isWordSign_0 rfl rfl ?_
  refine ru_callS (mc := 0) (ms := 0) d_Mo_isWordSign_1 lm_Mo_43 (sp_Mo_isLetter u _) (by decide) rfl (by decide) ?_
  intro v τ h
  obtain ⟨rfl, rfl⟩ := h
  refine ru_if_ne (tgt := 20) d_Mo_isWordSign_4 (by decide) (fun h4 => ?_) (fun h4 => ?_)
  · skip
    replace h4 := bI_ne0.mp h4
    refine ru_iconst (v := 1) d_Mo_isWordSign_20 (by decide) ?_
    refine ru_goto (tgt := 25) d_Mo_isWordSign_21 (by decide) ?_
    refine ru_zret (ty := .boolean) d_Mo_isWordSign_25 rfl rfl ?_
    first | (exfalso; ((try simp only [isLet, isDig, isLD, isTC, il, ie, iq, i_m1, i_0, i_1, i_2, i_7, i_8, i_10, i_15, i_32, i_46, i_48, i_57, i_59, i_97, i_122] at *); omega)) | exact ⟨by rw [bI_t (by ((try simp only [isLet, isDig, isLD, isTC, il, ie, iq, i_m1, i_0, i_1, i_2, i_7, i_8, i_10, i_15, i_32, i_46, i_48, i_57, i_59, i_97, i_122] at *); omega))], rfl⟩ | exact ⟨by rw [bI_f (by ((try simp only [isLet, isDig, isLD, isTC, il, ie, iq, i_m1, i_0, i_1, i_2, i_7, i_8, i_10, i_15, i_32, i_46, i_48, i_57, i_59, i_97, i_122] at *); omega))], rfl⟩
  · skip
    replace h4 := bI_eq0.mp h4
    refine ru_iload_n d_Mo_isWordSign_7 rfl rfl ?_
    refine ru_callS (mc := 0) (ms := 0) d_Mo_isWordSign_8 lm_Mo_47 (sp_Mo_isDigit u _) (by decide) rfl (by decide) ?_
    intro v τ h
    obtain ⟨rfl, rfl⟩ := h
    refine ru_if_ne (tgt := 20) d_Mo_isWordSign_11 (by decide) (fun h11 => ?_) (fun h11 => ?_)
    · skip
      replace h11 := bI_ne0.mp h11
      refine ru_iconst (v := 1) d_Mo_isWordSign_20 (by decide) ?_
      refine ru_goto (tgt := 25) d_Mo_isWordSign_21 (by decide) ?_
      refine ru_zret (ty := .boolean) d_Mo_isWordSign_25 rfl rfl ?_
      first | (exfalso; ((try simp only [isLet, isDig, isLD, isTC, il, ie, iq, i_m1, i_0, i_1, i_2, i_7, i_8, i_10, i_15, i_32, i_46, i_48, i_57, i_59, i_97, i_122] at *); omega)) | exact ⟨by rw [bI_t (by ((try simp only [isLet, isDig, isLD, isTC, il, ie, iq, i_m1, i_0, i_1, i_2, i_7, i_8, i_10, i_15, i_32, i_46, i_48, i_57, i_59, i_97, i_122] at *); omega))], rfl⟩ | exact ⟨by rw [bI_f (by ((try simp only [isLet, isDig, isLD, isTC, il, ie, iq, i_m1, i_0, i_1, i_2, i_7, i_8, i_10, i_15, i_32, i_46, i_48, i_57, i_59, i_97, i_122] at *); omega))], rfl⟩
    · skip
      replace h11 := bI_eq0.mp h11
      refine ru_iload_n d_Mo_isWordSign_14 rfl rfl ?_
      refine ru_bipush (v := 46) d_Mo_isWordSign_15 (by decide) ?_
      refine ru_icmp_ne (tgt := 24) d_Mo_isWordSign_17 (by decide) (fun h17 => ?_) (fun h17 => ?_)
      · skip
        refine ru_iconst (v := 0) d_Mo_isWordSign_24 (by decide) ?_
        refine ru_zret (ty := .boolean) d_Mo_isWordSign_25 rfl rfl ?_
        first | (exfalso; ((try simp only [isLet, isDig, isLD, isTC, il, ie, iq, i_m1, i_0, i_1, i_2, i_7, i_8, i_10, i_15, i_32, i_46, i_48, i_57, i_59, i_97, i_122] at *); omega)) | exact ⟨by rw [bI_t (by ((try simp only [isLet, isDig, isLD, isTC, il, ie, iq, i_m1, i_0, i_1, i_2, i_7, i_8, i_10, i_15, i_32, i_46, i_48, i_57, i_59, i_97, i_122] at *); omega))], rfl⟩ | exact ⟨by rw [bI_f (by ((try simp only [isLet, isDig, isLD, isTC, il, ie, iq, i_m1, i_0, i_1, i_2, i_7, i_8, i_10, i_15, i_32, i_46, i_48, i_57, i_59, i_97, i_122] at *); omega))], rfl⟩
      · skip
        refine ru_iconst (v := 1) d_Mo_isWordSign_20 (by decide) ?_
        refine ru_goto (tgt := 25) d_Mo_isWordSign_21 (by decide) ?_
        refine ru_zret (ty := .boolean) d_Mo_isWordSign_25 rfl rfl ?_
        first | (exfalso; ((try simp only [isLet, isDig, isLD, isTC, il, ie, iq, i_m1, i_0, i_1, i_2, i_7, i_8, i_10, i_15, i_32, i_46, i_48, i_57, i_59, i_97, i_122] at *); omega)) | exact ⟨by rw [bI_t (by ((try simp only [isLet, isDig, isLD, isTC, il, ie, iq, i_m1, i_0, i_1, i_2, i_7, i_8, i_10, i_15, i_32, i_46, i_48, i_57, i_59, i_97, i_122] at *); omega))], rfl⟩ | exact ⟨by rw [bI_f (by ((try simp only [isLet, isDig, isLD, isTC, il, ie, iq, i_m1, i_0, i_1, i_2, i_7, i_8, i_10, i_15, i_32, i_46, i_48, i_57, i_59, i_97, i_122] at *); omega))], rfl⟩
theorem sp_Mo_thrown (hL : LAY nx ct mr) : rx_Calls y_Mo_thrown M_Mo_thrown 0 0 0 [.ref 398] (nx, ct, mi, ml, mr) (fun v τ => v = some (.int (mi 398 0)) ∧ τ = (nx, ct, mi, ml, mr)) := by
  refine rx_enter (by decide) rfl rfl (Nat.le_of_ble_eq_true rfl) ?_
  refine ru_aload_n d_Mo_thrown_0 rfl rfl ?_
  refine ru_getI d_Mo_thrown_1 lf_Mo_39 (ly hL 398 9 0) rfl ?_
  refine ru_iret d_Mo_thrown_4 rfl ?_
  exact ⟨rfl, rfl⟩
theorem sp_Mo_clear (hL : LAY nx ct mr) : rx_Calls y_Mo_clear M_Mo_clear 0 0 0 [.ref 398] (nx, ct, mi, ml, mr) (fun v τ => v = none ∧ τ = (nx, ct, rx_u (rx_u mi 398 0 0) 398 2 0, ml, mr)) := by
  refine rx_enter (by decide) rfl rfl (Nat.le_of_ble_eq_true rfl) ?_
  refine ru_aload_n d_Mo_clear_0 rfl rfl ?_
  refine ru_iconst (v := 0) d_Mo_clear_1 (by decide) ?_
  refine ru_putI d_Mo_clear_2 lf_Mo_39 (ly hL 398 9 0) rfl (fun q hq => by cases hq; exact Or.inl rfl) ⟨rfl, rfl⟩ ?_
  refine ru_aload_n d_Mo_clear_5 rfl rfl ?_
  refine ru_iconst (v := 0) d_Mo_clear_6 (by decide) ?_
  refine ru_putI d_Mo_clear_7 lf_Mo_50 (ly hL 398 9 0) rfl (fun q hq => by cases hq; exact Or.inl rfl) ⟨rfl, rfl⟩ ?_
  refine ru_vret d_Mo_clear_10 rfl ?_
  exact ⟨rfl, rfl⟩
theorem sp_Mo_good (hL : LAY nx ct mr) : rx_Calls y_Mo_good M_Mo_good 0 0 0 [.ref 398] (nx, ct, mi, ml, mr) (fun v τ => v = some (.int (bI (mi 398 13 = -1))) ∧ τ = (nx, ct, mi, ml, mr)) := by
  refine rx_enter (by decide) rfl rfl (Nat.le_of_ble_eq_true rfl) ?_
  refine ru_aload_n d_Mo_good_0 rfl rfl ?_
  refine ru_getI d_Mo_good_1 lf_Mo_72 (ly hL 398 9 0) rfl ?_
  refine ru_iconst (v := (-1)) d_Mo_good_4 (by decide) ?_
  refine ru_icmp_ne (tgt := 12) d_Mo_good_5 (by decide) (fun h5 => ?_) (fun h5 => ?_)
  · skip
    refine ru_iconst (v := 0) d_Mo_good_12 (by decide) ?_
    refine ru_zret (ty := .boolean) d_Mo_good_13 rfl rfl ?_
    first | (exfalso; ((try simp only [isLet, isDig, isLD, isTC, il, ie, iq, i_m1, i_0, i_1, i_2, i_7, i_8, i_10, i_15, i_32, i_46, i_48, i_57, i_59, i_97, i_122] at *); omega)) | exact ⟨by rw [bI_t (by ((try simp only [isLet, isDig, isLD, isTC, il, ie, iq, i_m1, i_0, i_1, i_2, i_7, i_8, i_10, i_15, i_32, i_46, i_48, i_57, i_59, i_97, i_122] at *); omega))], rfl⟩ | exact ⟨by rw [bI_f (by ((try simp only [isLet, isDig, isLD, isTC, il, ie, iq, i_m1, i_0, i_1, i_2, i_7, i_8, i_10, i_15, i_32, i_46, i_48, i_57, i_59, i_97, i_122] at *); omega))], rfl⟩
  · skip
    refine ru_iconst (v := 1) d_Mo_good_8 (by decide) ?_
    refine ru_goto (tgt := 13) d_Mo_good_9 (by decide) ?_
    refine ru_zret (ty := .boolean) d_Mo_good_13 rfl rfl ?_
    first | (exfalso; ((try simp only [isLet, isDig, isLD, isTC, il, ie, iq, i_m1, i_0, i_1, i_2, i_7, i_8, i_10, i_15, i_32, i_46, i_48, i_57, i_59, i_97, i_122] at *); omega)) | exact ⟨by rw [bI_t (by ((try simp only [isLet, isDig, isLD, isTC, il, ie, iq, i_m1, i_0, i_1, i_2, i_7, i_8, i_10, i_15, i_32, i_46, i_48, i_57, i_59, i_97, i_122] at *); omega))], rfl⟩ | exact ⟨by rw [bI_f (by ((try simp only [isLet, isDig, isLD, isTC, il, ie, iq, i_m1, i_0, i_1, i_2, i_7, i_8, i_10, i_15, i_32, i_46, i_48, i_57, i_59, i_97, i_122] at *); omega))], rfl⟩
theorem sp_Mo_fail (hL : LAY nx ct mr) (k : Int32) : rx_Calls y_Mo_fail M_Mo_fail 0 0 0 [.ref 398, .int k] (nx, ct, mi, ml, mr) (fun v τ => v = none ∧ τ = (nx, ct, rx_u mi 398 13 (if mi 398 13 = -1 then k else mi 398 13), ml, mr)) := by
  refine rx_enter (by decide) rfl rfl (Nat.le_of_ble_eq_true rfl) ?_
  refine ru_aload_n d_Mo_fail_0 rfl rfl ?_
  refine ru_getI d_Mo_fail_1 lf_Mo_72 (ly hL 398 9 0) rfl ?_
  refine ru_iconst (v := (-1)) d_Mo_fail_4 (by decide) ?_
  refine ru_icmp_ne (tgt := 13) d_Mo_fail_5 (by decide) (fun h5 => ?_) (fun h5 => ?_)
  · skip
    refine ru_vret d_Mo_fail_13 rfl ?_
    first | exact ⟨rfl, by rw [if_pos h5]⟩ | exact ⟨rfl, by rw [if_neg h5, rx_u_id]⟩
  · skip
    refine ru_aload_n d_Mo_fail_8 rfl rfl ?_
    refine ru_iload_n d_Mo_fail_9 rfl rfl ?_
    refine ru_putI d_Mo_fail_10 lf_Mo_72 (ly hL 398 9 0) rfl (fun q hq => by cases hq; exact Or.inl rfl) ⟨rfl, rfl⟩ ?_
    refine ru_vret d_Mo_fail_13 rfl ?_
    first | exact ⟨rfl, by rw [if_pos h5]⟩ | exact ⟨rfl, by rw [if_neg h5, rx_u_id]⟩
theorem sp_Mo_isRule {n : Nat} (hL : LAY nx ct mr) (k : Int32) (hn : mi 398 7 = nI n) (hn2 : n ≤ 60) : rx_Calls y_Mo_isRule M_Mo_isRule 0 0 0 [.ref 398, .int k] (nx, ct, mi, ml, mr) (fun v τ => v = some (.int (bI (0 ≤ k.toInt ∧ k.toInt < n))) ∧ τ = (nx, ct, mi, ml, mr)) := by
  refine rx_enter (by decide) rfl rfl (Nat.le_of_ble_eq_true rfl) ?_
  have hz : (nI n).toInt = n := nI_toInt (by omega)
  refine ru_iload_n d_Mo_isRule_0 rfl rfl ?_
  refine ru_if_lt (tgt := 16) d_Mo_isRule_1 (by decide) (fun h1 => ?_) (fun h1 => ?_)
  · skip
    refine ru_iconst (v := 0) d_Mo_isRule_16 (by decide) ?_
    refine ru_zret (ty := .boolean) d_Mo_isRule_17 rfl rfl ?_
    first | exact ⟨by rw [bI_t (by simp only [il, ie, hz, i_0] at *; omega)], rfl⟩ | exact ⟨by rw [bI_f (by simp only [il, ie, hz, i_0] at *; omega)], rfl⟩
  · skip
    refine ru_iload_n d_Mo_isRule_4 rfl rfl ?_
    refine ru_aload_n d_Mo_isRule_5 rfl rfl ?_
    refine ru_getI d_Mo_isRule_6 lf_Mo_189 (ly hL 398 9 0) rfl ?_
    refine ru_eqi hn ?_
    refine ru_icmp_ge (tgt := 16) d_Mo_isRule_9 (by decide) (fun h9 => ?_) (fun h9 => ?_)
    · skip
      refine ru_iconst (v := 0) d_Mo_isRule_16 (by decide) ?_
      refine ru_zret (ty := .boolean) d_Mo_isRule_17 rfl rfl ?_
      first | exact ⟨by rw [bI_t (by simp only [il, ie, hz, i_0] at *; omega)], rfl⟩ | exact ⟨by rw [bI_f (by simp only [il, ie, hz, i_0] at *; omega)], rfl⟩
    · skip
      refine ru_iconst (v := 1) d_Mo_isRule_12 (by decide) ?_
      refine ru_goto (tgt := 17) d_Mo_isRule_13 (by decide) ?_
      refine ru_zret (ty := .boolean) d_Mo_isRule_17 rfl rfl ?_
      first | exact ⟨by rw [bI_t (by simp only [il, ie, hz, i_0] at *; omega)], rfl⟩ | exact ⟨by rw [bI_f (by simp only [il, ie, hz, i_0] at *; omega)], rfl⟩
theorem sp_Mo_say {p : Nat} (hL : LAY nx ct mr) (u : Int32) (hp : mi 398 16 = nI p) (hp2 : p < 9000) : rx_Calls y_Mo_say M_Mo_say 0 0 0 [.ref 398, .int u] (nx, ct, mi, ml, mr) (fun v τ => v = none ∧ τ = (nx, ct, rx_u (rx_u mi 407 p u) 398 16 (nI (p + 1)), ml, mr)) := by
  refine rx_enter (by decide) rfl rfl (Nat.le_of_ble_eq_true rfl) ?_
  refine ru_aload_n d_Mo_say_0 rfl rfl ?_
  refine ru_getR d_Mo_say_1 lf_Mo_36 (ly hL 398 9 0) rfl (lr hL 398 15 407) ?_
  refine ru_aload_n d_Mo_say_4 rfl rfl ?_
  refine ru_getI d_Mo_say_5 lf_Mo_215 (ly hL 398 9 0) rfl ?_
  refine ru_eqi hp ?_
  refine ru_iload_n d_Mo_say_8 rfl rfl ?_
  refine ru_iastN (j := p) d_Mo_say_9 (ly hL 407 100 9000) (by omega) (by decide) ?_
  refine ru_aload_n d_Mo_say_10 rfl rfl ?_
  refine ru_dup d_Mo_say_11 rfl ?_
  refine ru_getI d_Mo_say_12 lf_Mo_215 (ly hL 398 9 0) rfl ?_
  rw [rx_u_r _ _ (by decide)]
  refine ru_eqi hp ?_
  refine ru_iconst (v := 1) d_Mo_say_15 (by decide) ?_
  refine ru_iadd d_Mo_say_16 ?_
  refine ru_eqi (nm_add p 1 : _ = nI (p + 1)) ?_
  refine ru_putI d_Mo_say_17 lf_Mo_215 (ly hL 398 9 0) rfl (fun q hq => by cases hq; exact Or.inl rfl) ⟨rfl, rfl⟩ ?_
  refine ru_vret d_Mo_say_20 rfl ?_
  exact ⟨rfl, rfl⟩
theorem sp_Mo_unit {n : Nat} (u : Int32) (hL : LAY nx ct mr) (hn : mi 398 2 = nI n) (hn2 : n ≤ 3000) : rx_Calls y_Mo_unit M_Mo_unit 1 0 0 [.ref 398, .int u] (nx, ct, mi, ml, mr) (fun v τ => v = some (.int (bI (isTC u ∧ n < 3000))) ∧ τ = (nx, ct, @ite _ (isTC u ∧ n < 3000) (Classical.propDecidable _) (rx_u (rx_u (rx_u mi 398 0 0) 399 n u) 398 2 (nI (n + 1))) (rx_u mi 398 0 0), ml, mr)) := by
  refine rx_enter (by decide) rfl rfl (Nat.le_of_ble_eq_true rfl) ?_
  have fin : ∀ g : Int32, g = bI (isTC u) → rx_W M_Mo_unit 1 0 0 49 [(0, .ref 398), (1, .int u), (2, .int g)] [] (nx, ct, rx_u mi 398 0 0, ml, mr) (pR (fun v τ => v = some (.int (bI (isTC u ∧ n < 3000))) ∧ τ = (nx, ct, @ite _ (isTC u ∧ n < 3000) (Classical.propDecidable _) (rx_u (rx_u (rx_u mi 398 0 0) 399 n u) 398 2 (nI (n + 1))) (rx_u mi 398 0 0), ml, mr))) := by
    intro g hg
    subst hg
    refine ru_iload_n d_Mo_unit_49 rfl rfl ?_
    refine ru_if_eq (tgt := 63) d_Mo_unit_50 (by decide) (fun h50 => ?_) (fun h50 => ?_)
    · skip
      replace h50 := bI_eq0.mp h50
      refine ru_iconst (v := 0) d_Mo_unit_63 (by decide) ?_
      refine ru_zret (ty := .boolean) d_Mo_unit_64 rfl rfl ?_
      first | (have q : isTC u ∧ n < 3000 := ⟨h50, by omega⟩; rw [bI_t q, if_pos q]; exact ⟨rfl, rfl⟩) | (have q : ¬ (isTC u ∧ n < 3000) := fun q => h50 q.1; rw [bI_f q, if_neg q]; exact ⟨rfl, rfl⟩) | (have q : ¬ (isTC u ∧ n < 3000) := (fun q => by omega); rw [bI_f q, if_neg q]; exact ⟨rfl, rfl⟩)
    · skip
      replace h50 := bI_ne0.mp h50
      refine ru_aload_n d_Mo_unit_53 rfl rfl ?_
      refine ru_getI d_Mo_unit_54 lf_Mo_50 (ly hL 398 9 0) rfl ?_
      rw [rx_u_k _ _ (by decide)]
      refine ru_eqi hn ?_
      refine ru_sipush (v := 3000) d_Mo_unit_57 (by decide) ?_
      refine ru_icmp_ne (tgt := 65) d_Mo_unit_60 (by decide) (fun h60 => ?_) (fun h60 => ?_)
      · skip
        replace h60 := nm_ne (a := n) (b := 3000) (by omega) (by omega) h60
        refine ru_aload_n d_Mo_unit_65 rfl rfl ?_
        refine ru_getR d_Mo_unit_66 lf_Mo_7 (ly hL 398 9 0) rfl (lr hL 398 1 399) ?_
        refine ru_aload_n d_Mo_unit_69 rfl rfl ?_
        refine ru_getI d_Mo_unit_70 lf_Mo_50 (ly hL 398 9 0) rfl ?_
        rw [rx_u_k _ _ (by decide)]
        refine ru_eqi hn ?_
        refine ru_iload_n d_Mo_unit_73 rfl rfl ?_
        refine ru_iastN (j := n) d_Mo_unit_74 (ly hL 399 100 3000) (by omega) (by decide) ?_
        refine ru_aload_n d_Mo_unit_75 rfl rfl ?_
        refine ru_dup d_Mo_unit_76 rfl ?_
        refine ru_getI d_Mo_unit_77 lf_Mo_50 (ly hL 398 9 0) rfl ?_
        rw [rx_u_r _ _ (by decide), rx_u_k _ _ (by decide)]
        refine ru_eqi hn ?_
        refine ru_iconst (v := 1) d_Mo_unit_80 (by decide) ?_
        refine ru_iadd d_Mo_unit_81 ?_
        refine ru_eqi (nm_add n 1 : _ = nI (n + 1)) ?_
        refine ru_putI d_Mo_unit_82 lf_Mo_50 (ly hL 398 9 0) rfl (fun q hq => by cases hq; exact Or.inl rfl) ⟨rfl, rfl⟩ ?_
        refine ru_iconst (v := 1) d_Mo_unit_85 (by decide) ?_
        refine ru_zret (ty := .boolean) d_Mo_unit_86 rfl rfl ?_
        first | (have q : isTC u ∧ n < 3000 := ⟨h50, by omega⟩; rw [bI_t q, if_pos q]; exact ⟨rfl, rfl⟩) | (have q : ¬ (isTC u ∧ n < 3000) := fun q => h50 q.1; rw [bI_f q, if_neg q]; exact ⟨rfl, rfl⟩) | (have q : ¬ (isTC u ∧ n < 3000) := (fun q => by omega); rw [bI_f q, if_neg q]; exact ⟨rfl, rfl⟩)
      · skip
        replace h60 := nm_eq (a := n) (b := 3000) (by omega) (by omega) h60
        refine ru_iconst (v := 0) d_Mo_unit_63 (by decide) ?_
        refine ru_zret (ty := .boolean) d_Mo_unit_64 rfl rfl ?_
        first | (have q : isTC u ∧ n < 3000 := ⟨h50, by omega⟩; rw [bI_t q, if_pos q]; exact ⟨rfl, rfl⟩) | (have q : ¬ (isTC u ∧ n < 3000) := fun q => h50 q.1; rw [bI_f q, if_neg q]; exact ⟨rfl, rfl⟩) | (have q : ¬ (isTC u ∧ n < 3000) := (fun q => by omega); rw [bI_f q, if_neg q]; exact ⟨rfl, rfl⟩)
  refine ru_aload_n d_Mo_unit_0 rfl rfl ?_
  refine ru_iconst (v := 0) d_Mo_unit_1 (by decide) ?_
  refine ru_putI d_Mo_unit_2 lf_Mo_39 (ly hL 398 9 0) rfl (fun q hq => by cases hq; exact Or.inl rfl) ⟨rfl, rfl⟩ ?_
  refine ru_iload_n d_Mo_unit_5 rfl rfl ?_
  refine ru_callS (mc := 0) (ms := 0) d_Mo_unit_6 lm_Mo_43 (sp_Mo_isLetter u _) (by decide) rfl (by decide) ?_
  intro v τ h
  obtain ⟨rfl, rfl⟩ := h
  refine ru_if_ne (tgt := 43) d_Mo_unit_9 (by decide) (fun h9 => ?_) (fun h9 => ?_)
  · skip
    replace h9 := bI_ne0.mp h9
    refine ru_iconst (v := 1) d_Mo_unit_43 (by decide) ?_
    refine ru_goto (tgt := 48) d_Mo_unit_44 (by decide) ?_
    refine ru_istore_n d_Mo_unit_48 rfl (by decide) ?_
    refine ru_to (fin _ ?_) ⟨rfl, rfl, rfl, trivial⟩
    first | (rw [bI_t (p := isTC u) (by ((try simp only [isLet, isDig, isLD, isTC, il, ie, iq, i_m1, i_0, i_1, i_2, i_7, i_8, i_10, i_15, i_32, i_46, i_48, i_57, i_59, i_97, i_122] at *); omega))]) | (rw [bI_f (p := isTC u) (by ((try simp only [isLet, isDig, isLD, isTC, il, ie, iq, i_m1, i_0, i_1, i_2, i_7, i_8, i_10, i_15, i_32, i_46, i_48, i_57, i_59, i_97, i_122] at *); omega))])
  · skip
    replace h9 := bI_eq0.mp h9
    refine ru_iload_n d_Mo_unit_12 rfl rfl ?_
    refine ru_callS (mc := 0) (ms := 0) d_Mo_unit_13 lm_Mo_47 (sp_Mo_isDigit u _) (by decide) rfl (by decide) ?_
    intro v τ h
    obtain ⟨rfl, rfl⟩ := h
    refine ru_if_ne (tgt := 43) d_Mo_unit_16 (by decide) (fun h16 => ?_) (fun h16 => ?_)
    · skip
      replace h16 := bI_ne0.mp h16
      refine ru_iconst (v := 1) d_Mo_unit_43 (by decide) ?_
      refine ru_goto (tgt := 48) d_Mo_unit_44 (by decide) ?_
      refine ru_istore_n d_Mo_unit_48 rfl (by decide) ?_
      refine ru_to (fin _ ?_) ⟨rfl, rfl, rfl, trivial⟩
      first | (rw [bI_t (p := isTC u) (by ((try simp only [isLet, isDig, isLD, isTC, il, ie, iq, i_m1, i_0, i_1, i_2, i_7, i_8, i_10, i_15, i_32, i_46, i_48, i_57, i_59, i_97, i_122] at *); omega))]) | (rw [bI_f (p := isTC u) (by ((try simp only [isLet, isDig, isLD, isTC, il, ie, iq, i_m1, i_0, i_1, i_2, i_7, i_8, i_10, i_15, i_32, i_46, i_48, i_57, i_59, i_97, i_122] at *); omega))])
    · skip
      replace h16 := bI_eq0.mp h16
      refine ru_iload_n d_Mo_unit_19 rfl rfl ?_
      refine ru_bipush (v := 10) d_Mo_unit_20 (by decide) ?_
      refine ru_icmp_eq (tgt := 43) d_Mo_unit_22 (by decide) (fun h22 => ?_) (fun h22 => ?_)
      · skip
        refine ru_iconst (v := 1) d_Mo_unit_43 (by decide) ?_
        refine ru_goto (tgt := 48) d_Mo_unit_44 (by decide) ?_
        refine ru_istore_n d_Mo_unit_48 rfl (by decide) ?_
        refine ru_to (fin _ ?_) ⟨rfl, rfl, rfl, trivial⟩
        first | (rw [bI_t (p := isTC u) (by ((try simp only [isLet, isDig, isLD, isTC, il, ie, iq, i_m1, i_0, i_1, i_2, i_7, i_8, i_10, i_15, i_32, i_46, i_48, i_57, i_59, i_97, i_122] at *); omega))]) | (rw [bI_f (p := isTC u) (by ((try simp only [isLet, isDig, isLD, isTC, il, ie, iq, i_m1, i_0, i_1, i_2, i_7, i_8, i_10, i_15, i_32, i_46, i_48, i_57, i_59, i_97, i_122] at *); omega))])
      · skip
        refine ru_iload_n d_Mo_unit_25 rfl rfl ?_
        refine ru_bipush (v := 32) d_Mo_unit_26 (by decide) ?_
        refine ru_icmp_eq (tgt := 43) d_Mo_unit_28 (by decide) (fun h28 => ?_) (fun h28 => ?_)
        · skip
          refine ru_iconst (v := 1) d_Mo_unit_43 (by decide) ?_
          refine ru_goto (tgt := 48) d_Mo_unit_44 (by decide) ?_
          refine ru_istore_n d_Mo_unit_48 rfl (by decide) ?_
          refine ru_to (fin _ ?_) ⟨rfl, rfl, rfl, trivial⟩
          first | (rw [bI_t (p := isTC u) (by ((try simp only [isLet, isDig, isLD, isTC, il, ie, iq, i_m1, i_0, i_1, i_2, i_7, i_8, i_10, i_15, i_32, i_46, i_48, i_57, i_59, i_97, i_122] at *); omega))]) | (rw [bI_f (p := isTC u) (by ((try simp only [isLet, isDig, isLD, isTC, il, ie, iq, i_m1, i_0, i_1, i_2, i_7, i_8, i_10, i_15, i_32, i_46, i_48, i_57, i_59, i_97, i_122] at *); omega))])
        · skip
          refine ru_iload_n d_Mo_unit_31 rfl rfl ?_
          refine ru_bipush (v := 46) d_Mo_unit_32 (by decide) ?_
          refine ru_icmp_eq (tgt := 43) d_Mo_unit_34 (by decide) (fun h34 => ?_) (fun h34 => ?_)
          · skip
            refine ru_iconst (v := 1) d_Mo_unit_43 (by decide) ?_
            refine ru_goto (tgt := 48) d_Mo_unit_44 (by decide) ?_
            refine ru_istore_n d_Mo_unit_48 rfl (by decide) ?_
            refine ru_to (fin _ ?_) ⟨rfl, rfl, rfl, trivial⟩
            first | (rw [bI_t (p := isTC u) (by ((try simp only [isLet, isDig, isLD, isTC, il, ie, iq, i_m1, i_0, i_1, i_2, i_7, i_8, i_10, i_15, i_32, i_46, i_48, i_57, i_59, i_97, i_122] at *); omega))]) | (rw [bI_f (p := isTC u) (by ((try simp only [isLet, isDig, isLD, isTC, il, ie, iq, i_m1, i_0, i_1, i_2, i_7, i_8, i_10, i_15, i_32, i_46, i_48, i_57, i_59, i_97, i_122] at *); omega))])
          · skip
            refine ru_iload_n d_Mo_unit_37 rfl rfl ?_
            refine ru_bipush (v := 59) d_Mo_unit_38 (by decide) ?_
            refine ru_icmp_ne (tgt := 47) d_Mo_unit_40 (by decide) (fun h40 => ?_) (fun h40 => ?_)
            · skip
              refine ru_iconst (v := 0) d_Mo_unit_47 (by decide) ?_
              refine ru_istore_n d_Mo_unit_48 rfl (by decide) ?_
              refine ru_to (fin _ ?_) ⟨rfl, rfl, rfl, trivial⟩
              first | (rw [bI_t (p := isTC u) (by ((try simp only [isLet, isDig, isLD, isTC, il, ie, iq, i_m1, i_0, i_1, i_2, i_7, i_8, i_10, i_15, i_32, i_46, i_48, i_57, i_59, i_97, i_122] at *); omega))]) | (rw [bI_f (p := isTC u) (by ((try simp only [isLet, isDig, isLD, isTC, il, ie, iq, i_m1, i_0, i_1, i_2, i_7, i_8, i_10, i_15, i_32, i_46, i_48, i_57, i_59, i_97, i_122] at *); omega))])
            · skip
              refine ru_iconst (v := 1) d_Mo_unit_43 (by decide) ?_
              refine ru_goto (tgt := 48) d_Mo_unit_44 (by decide) ?_
              refine ru_istore_n d_Mo_unit_48 rfl (by decide) ?_
              refine ru_to (fin _ ?_) ⟨rfl, rfl, rfl, trivial⟩
              first | (rw [bI_t (p := isTC u) (by ((try simp only [isLet, isDig, isLD, isTC, il, ie, iq, i_m1, i_0, i_1, i_2, i_7, i_8, i_10, i_15, i_32, i_46, i_48, i_57, i_59, i_97, i_122] at *); omega))]) | (rw [bI_f (p := isTC u) (by ((try simp only [isLet, isDig, isLD, isTC, il, ie, iq, i_m1, i_0, i_1, i_2, i_7, i_8, i_10, i_15, i_32, i_46, i_48, i_57, i_59, i_97, i_122] at *); omega))])
end
end
section
/-! The reference: rules weighed against one another -/
theorem d_Mo_isLike_0 : decode M_Mo_isLike.2.1 0 = .ok (.aload_n 0, 1) := by decide +kernel
theorem d_Mo_isLike_1 : decode M_Mo_isLike.2.1 1 = .ok (.getfield 27, 3) := by decide +kernel
theorem d_Mo_isLike_4 : decode M_Mo_isLike.2.1 4 = .ok (.bipush 12, 2) := by decide +kernel
theorem d_Mo_isLike_6 : decode M_Mo_isLike.2.1 6 = .ok (.iload_n 1, 1) := by decide +kernel
theorem d_Mo_isLike_7 : decode M_Mo_isLike.2.1 7 = .ok (.imul, 1) := by decide +kernel
theorem d_Mo_isLike_8 : decode M_Mo_isLike.2.1 8 = .ok (.iload_n 2, 1) := by decide +kernel
theorem d_Mo_isLike_9 : decode M_Mo_isLike.2.1 9 = .ok (.iadd, 1) := by decide +kernel
theorem d_Mo_isLike_10 : decode M_Mo_isLike.2.1 10 = .ok (.laload, 1) := by decide +kernel
theorem d_Mo_isLike_11 : decode M_Mo_isLike.2.1 11 = .ok (.lconst 0, 1) := by decide +kernel
theorem d_Mo_isLike_12 : decode M_Mo_isLike.2.1 12 = .ok (.lcmp, 1) := by decide +kernel
theorem d_Mo_isLike_13 : decode M_Mo_isLike.2.1 13 = .ok (.ifCond .lt 61, 3) := by decide +kernel
theorem d_Mo_isLike_16 : decode M_Mo_isLike.2.1 16 = .ok (.aload_n 0, 1) := by decide +kernel
theorem d_Mo_isLike_17 : decode M_Mo_isLike.2.1 17 = .ok (.getfield 27, 3) := by decide +kernel
theorem d_Mo_isLike_20 : decode M_Mo_isLike.2.1 20 = .ok (.bipush 12, 2) := by decide +kernel
theorem d_Mo_isLike_22 : decode M_Mo_isLike.2.1 22 = .ok (.iload_n 1, 1) := by decide +kernel
theorem d_Mo_isLike_23 : decode M_Mo_isLike.2.1 23 = .ok (.imul, 1) := by decide +kernel
theorem d_Mo_isLike_24 : decode M_Mo_isLike.2.1 24 = .ok (.iload_n 2, 1) := by decide +kernel
theorem d_Mo_isLike_25 : decode M_Mo_isLike.2.1 25 = .ok (.iadd, 1) := by decide +kernel
theorem d_Mo_isLike_26 : decode M_Mo_isLike.2.1 26 = .ok (.laload, 1) := by decide +kernel
theorem d_Mo_isLike_27 : decode M_Mo_isLike.2.1 27 = .ok (.aload_n 0, 1) := by decide +kernel
theorem d_Mo_isLike_28 : decode M_Mo_isLike.2.1 28 = .ok (.getfield 27, 3) := by decide +kernel
theorem d_Mo_isLike_31 : decode M_Mo_isLike.2.1 31 = .ok (.bipush 12, 2) := by decide +kernel
theorem d_Mo_isLike_33 : decode M_Mo_isLike.2.1 33 = .ok (.iload_n 3, 1) := by decide +kernel
theorem d_Mo_isLike_34 : decode M_Mo_isLike.2.1 34 = .ok (.imul, 1) := by decide +kernel
theorem d_Mo_isLike_35 : decode M_Mo_isLike.2.1 35 = .ok (.iload 4, 2) := by decide +kernel
theorem d_Mo_isLike_37 : decode M_Mo_isLike.2.1 37 = .ok (.iadd, 1) := by decide +kernel
theorem d_Mo_isLike_38 : decode M_Mo_isLike.2.1 38 = .ok (.laload, 1) := by decide +kernel
theorem d_Mo_isLike_39 : decode M_Mo_isLike.2.1 39 = .ok (.lcmp, 1) := by decide +kernel
theorem d_Mo_isLike_40 : decode M_Mo_isLike.2.1 40 = .ok (.ifCond .ne 38, 3) := by decide +kernel
theorem d_Mo_isLike_43 : decode M_Mo_isLike.2.1 43 = .ok (.aload_n 0, 1) := by decide +kernel
theorem d_Mo_isLike_44 : decode M_Mo_isLike.2.1 44 = .ok (.getfield 27, 3) := by decide +kernel
theorem d_Mo_isLike_47 : decode M_Mo_isLike.2.1 47 = .ok (.bipush 12, 2) := by decide +kernel
theorem d_Mo_isLike_49 : decode M_Mo_isLike.2.1 49 = .ok (.iload_n 1, 1) := by decide +kernel
theorem d_Mo_isLike_50 : decode M_Mo_isLike.2.1 50 = .ok (.imul, 1) := by decide +kernel
theorem d_Mo_isLike_51 : decode M_Mo_isLike.2.1 51 = .ok (.iload_n 2, 1) := by decide +kernel
theorem d_Mo_isLike_52 : decode M_Mo_isLike.2.1 52 = .ok (.iadd, 1) := by decide +kernel
theorem d_Mo_isLike_53 : decode M_Mo_isLike.2.1 53 = .ok (.iconst 1, 1) := by decide +kernel
theorem d_Mo_isLike_54 : decode M_Mo_isLike.2.1 54 = .ok (.iadd, 1) := by decide +kernel
theorem d_Mo_isLike_55 : decode M_Mo_isLike.2.1 55 = .ok (.laload, 1) := by decide +kernel
theorem d_Mo_isLike_56 : decode M_Mo_isLike.2.1 56 = .ok (.aload_n 0, 1) := by decide +kernel
theorem d_Mo_isLike_57 : decode M_Mo_isLike.2.1 57 = .ok (.getfield 27, 3) := by decide +kernel
theorem d_Mo_isLike_60 : decode M_Mo_isLike.2.1 60 = .ok (.bipush 12, 2) := by decide +kernel
theorem d_Mo_isLike_62 : decode M_Mo_isLike.2.1 62 = .ok (.iload_n 3, 1) := by decide +kernel
theorem d_Mo_isLike_63 : decode M_Mo_isLike.2.1 63 = .ok (.imul, 1) := by decide +kernel
theorem d_Mo_isLike_64 : decode M_Mo_isLike.2.1 64 = .ok (.iload 4, 2) := by decide +kernel
theorem d_Mo_isLike_66 : decode M_Mo_isLike.2.1 66 = .ok (.iadd, 1) := by decide +kernel
theorem d_Mo_isLike_67 : decode M_Mo_isLike.2.1 67 = .ok (.iconst 1, 1) := by decide +kernel
theorem d_Mo_isLike_68 : decode M_Mo_isLike.2.1 68 = .ok (.iadd, 1) := by decide +kernel
theorem d_Mo_isLike_69 : decode M_Mo_isLike.2.1 69 = .ok (.laload, 1) := by decide +kernel
theorem d_Mo_isLike_70 : decode M_Mo_isLike.2.1 70 = .ok (.lcmp, 1) := by decide +kernel
theorem d_Mo_isLike_71 : decode M_Mo_isLike.2.1 71 = .ok (.ifCond .ne 7, 3) := by decide +kernel
theorem d_Mo_isLike_74 : decode M_Mo_isLike.2.1 74 = .ok (.iconst 1, 1) := by decide +kernel
theorem d_Mo_isLike_75 : decode M_Mo_isLike.2.1 75 = .ok (.goto 4, 3) := by decide +kernel
theorem d_Mo_isLike_78 : decode M_Mo_isLike.2.1 78 = .ok (.iconst 0, 1) := by decide +kernel
theorem d_Mo_isLike_79 : decode M_Mo_isLike.2.1 79 = .ok (.ireturn, 1) := by decide +kernel
theorem d_Mo_holds_0 : decode M_Mo_holds.2.1 0 = .ok (.lload_n 1, 1) := by decide +kernel
theorem d_Mo_holds_1 : decode M_Mo_holds.2.1 1 = .ok (.lconst 0, 1) := by decide +kernel
theorem d_Mo_holds_2 : decode M_Mo_holds.2.1 2 = .ok (.lcmp, 1) := by decide +kernel
theorem d_Mo_holds_3 : decode M_Mo_holds.2.1 3 = .ok (.ifCond .lt 9, 3) := by decide +kernel
theorem d_Mo_holds_6 : decode M_Mo_holds.2.1 6 = .ok (.lload_n 1, 1) := by decide +kernel
theorem d_Mo_holds_7 : decode M_Mo_holds.2.1 7 = .ok (.lload_n 3, 1) := by decide +kernel
theorem d_Mo_holds_8 : decode M_Mo_holds.2.1 8 = .ok (.lcmp, 1) := by decide +kernel
theorem d_Mo_holds_9 : decode M_Mo_holds.2.1 9 = .ok (.ifCond .ne 5, 3) := by decide +kernel
theorem d_Mo_holds_12 : decode M_Mo_holds.2.1 12 = .ok (.iconst 1, 1) := by decide +kernel
theorem d_Mo_holds_13 : decode M_Mo_holds.2.1 13 = .ok (.ireturn, 1) := by decide +kernel
theorem d_Mo_holds_14 : decode M_Mo_holds.2.1 14 = .ok (.lload_n 3, 1) := by decide +kernel
theorem d_Mo_holds_15 : decode M_Mo_holds.2.1 15 = .ok (.lconst 0, 1) := by decide +kernel
theorem d_Mo_holds_16 : decode M_Mo_holds.2.1 16 = .ok (.lcmp, 1) := by decide +kernel
theorem d_Mo_holds_17 : decode M_Mo_holds.2.1 17 = .ok (.ifCond .lt 23, 3) := by decide +kernel
theorem d_Mo_holds_20 : decode M_Mo_holds.2.1 20 = .ok (.aload_n 0, 1) := by decide +kernel
theorem d_Mo_holds_21 : decode M_Mo_holds.2.1 21 = .ok (.getfield 19, 3) := by decide +kernel
theorem d_Mo_holds_24 : decode M_Mo_holds.2.1 24 = .ok (.lload_n 1, 1) := by decide +kernel
theorem d_Mo_holds_25 : decode M_Mo_holds.2.1 25 = .ok (.l2i, 1) := by decide +kernel
theorem d_Mo_holds_26 : decode M_Mo_holds.2.1 26 = .ok (.baload, 1) := by decide +kernel
theorem d_Mo_holds_27 : decode M_Mo_holds.2.1 27 = .ok (.ifCond .eq 13, 3) := by decide +kernel
theorem d_Mo_holds_30 : decode M_Mo_holds.2.1 30 = .ok (.aload_n 0, 1) := by decide +kernel
theorem d_Mo_holds_31 : decode M_Mo_holds.2.1 31 = .ok (.getfield 19, 3) := by decide +kernel
theorem d_Mo_holds_34 : decode M_Mo_holds.2.1 34 = .ok (.lload_n 3, 1) := by decide +kernel
theorem d_Mo_holds_35 : decode M_Mo_holds.2.1 35 = .ok (.l2i, 1) := by decide +kernel
theorem d_Mo_holds_36 : decode M_Mo_holds.2.1 36 = .ok (.baload, 1) := by decide +kernel
theorem d_Mo_holds_37 : decode M_Mo_holds.2.1 37 = .ok (.ifCond .ne 5, 3) := by decide +kernel
theorem d_Mo_holds_40 : decode M_Mo_holds.2.1 40 = .ok (.iconst 0, 1) := by decide +kernel
theorem d_Mo_holds_41 : decode M_Mo_holds.2.1 41 = .ok (.ireturn, 1) := by decide +kernel
theorem d_Mo_holds_42 : decode M_Mo_holds.2.1 42 = .ok (.iconst 4, 1) := by decide +kernel
theorem d_Mo_holds_43 : decode M_Mo_holds.2.1 43 = .ok (.lload_n 1, 1) := by decide +kernel
theorem d_Mo_holds_44 : decode M_Mo_holds.2.1 44 = .ok (.l2i, 1) := by decide +kernel
theorem d_Mo_holds_45 : decode M_Mo_holds.2.1 45 = .ok (.imul, 1) := by decide +kernel
theorem d_Mo_holds_46 : decode M_Mo_holds.2.1 46 = .ok (.istore 5, 2) := by decide +kernel
theorem d_Mo_holds_48 : decode M_Mo_holds.2.1 48 = .ok (.iconst 4, 1) := by decide +kernel
theorem d_Mo_holds_49 : decode M_Mo_holds.2.1 49 = .ok (.lload_n 3, 1) := by decide +kernel
theorem d_Mo_holds_50 : decode M_Mo_holds.2.1 50 = .ok (.l2i, 1) := by decide +kernel
theorem d_Mo_holds_51 : decode M_Mo_holds.2.1 51 = .ok (.imul, 1) := by decide +kernel
theorem d_Mo_holds_52 : decode M_Mo_holds.2.1 52 = .ok (.istore 6, 2) := by decide +kernel
theorem d_Mo_holds_54 : decode M_Mo_holds.2.1 54 = .ok (.aload_n 0, 1) := by decide +kernel
theorem d_Mo_holds_55 : decode M_Mo_holds.2.1 55 = .ok (.getfield 23, 3) := by decide +kernel
theorem d_Mo_holds_58 : decode M_Mo_holds.2.1 58 = .ok (.iload 5, 2) := by decide +kernel
theorem d_Mo_holds_60 : decode M_Mo_holds.2.1 60 = .ok (.laload, 1) := by decide +kernel
theorem d_Mo_holds_61 : decode M_Mo_holds.2.1 61 = .ok (.aload_n 0, 1) := by decide +kernel
theorem d_Mo_holds_62 : decode M_Mo_holds.2.1 62 = .ok (.getfield 23, 3) := by decide +kernel
theorem d_Mo_holds_65 : decode M_Mo_holds.2.1 65 = .ok (.iload 6, 2) := by decide +kernel
theorem d_Mo_holds_67 : decode M_Mo_holds.2.1 67 = .ok (.laload, 1) := by decide +kernel
theorem d_Mo_holds_68 : decode M_Mo_holds.2.1 68 = .ok (.lcmp, 1) := by decide +kernel
theorem d_Mo_holds_69 : decode M_Mo_holds.2.1 69 = .ok (.ifCond .gt 73, 3) := by decide +kernel
theorem d_Mo_holds_72 : decode M_Mo_holds.2.1 72 = .ok (.aload_n 0, 1) := by decide +kernel
theorem d_Mo_holds_73 : decode M_Mo_holds.2.1 73 = .ok (.getfield 23, 3) := by decide +kernel
theorem d_Mo_holds_76 : decode M_Mo_holds.2.1 76 = .ok (.iload 5, 2) := by decide +kernel
theorem d_Mo_holds_78 : decode M_Mo_holds.2.1 78 = .ok (.iconst 1, 1) := by decide +kernel
theorem d_Mo_holds_79 : decode M_Mo_holds.2.1 79 = .ok (.iadd, 1) := by decide +kernel
theorem d_Mo_holds_80 : decode M_Mo_holds.2.1 80 = .ok (.laload, 1) := by decide +kernel
theorem d_Mo_holds_81 : decode M_Mo_holds.2.1 81 = .ok (.aload_n 0, 1) := by decide +kernel
theorem d_Mo_holds_82 : decode M_Mo_holds.2.1 82 = .ok (.getfield 23, 3) := by decide +kernel
theorem d_Mo_holds_85 : decode M_Mo_holds.2.1 85 = .ok (.iload 6, 2) := by decide +kernel
theorem d_Mo_holds_87 : decode M_Mo_holds.2.1 87 = .ok (.iconst 1, 1) := by decide +kernel
theorem d_Mo_holds_88 : decode M_Mo_holds.2.1 88 = .ok (.iadd, 1) := by decide +kernel
theorem d_Mo_holds_89 : decode M_Mo_holds.2.1 89 = .ok (.laload, 1) := by decide +kernel
theorem d_Mo_holds_90 : decode M_Mo_holds.2.1 90 = .ok (.lcmp, 1) := by decide +kernel
theorem d_Mo_holds_91 : decode M_Mo_holds.2.1 91 = .ok (.ifCond .gt 51, 3) := by decide +kernel
theorem d_Mo_holds_94 : decode M_Mo_holds.2.1 94 = .ok (.aload_n 0, 1) := by decide +kernel
theorem d_Mo_holds_95 : decode M_Mo_holds.2.1 95 = .ok (.getfield 23, 3) := by decide +kernel
theorem d_Mo_holds_98 : decode M_Mo_holds.2.1 98 = .ok (.iload 5, 2) := by decide +kernel
theorem d_Mo_holds_100 : decode M_Mo_holds.2.1 100 = .ok (.iconst 2, 1) := by decide +kernel
theorem d_Mo_holds_101 : decode M_Mo_holds.2.1 101 = .ok (.iadd, 1) := by decide +kernel
theorem d_Mo_holds_102 : decode M_Mo_holds.2.1 102 = .ok (.laload, 1) := by decide +kernel
theorem d_Mo_holds_103 : decode M_Mo_holds.2.1 103 = .ok (.aload_n 0, 1) := by decide +kernel
theorem d_Mo_holds_104 : decode M_Mo_holds.2.1 104 = .ok (.getfield 23, 3) := by decide +kernel
theorem d_Mo_holds_107 : decode M_Mo_holds.2.1 107 = .ok (.iload 6, 2) := by decide +kernel
theorem d_Mo_holds_109 : decode M_Mo_holds.2.1 109 = .ok (.iconst 2, 1) := by decide +kernel
theorem d_Mo_holds_110 : decode M_Mo_holds.2.1 110 = .ok (.iadd, 1) := by decide +kernel
theorem d_Mo_holds_111 : decode M_Mo_holds.2.1 111 = .ok (.laload, 1) := by decide +kernel
theorem d_Mo_holds_112 : decode M_Mo_holds.2.1 112 = .ok (.lcmp, 1) := by decide +kernel
theorem d_Mo_holds_113 : decode M_Mo_holds.2.1 113 = .ok (.ifCond .lt 29, 3) := by decide +kernel
theorem d_Mo_holds_116 : decode M_Mo_holds.2.1 116 = .ok (.aload_n 0, 1) := by decide +kernel
theorem d_Mo_holds_117 : decode M_Mo_holds.2.1 117 = .ok (.getfield 23, 3) := by decide +kernel
theorem d_Mo_holds_120 : decode M_Mo_holds.2.1 120 = .ok (.iload 5, 2) := by decide +kernel
theorem d_Mo_holds_122 : decode M_Mo_holds.2.1 122 = .ok (.iconst 3, 1) := by decide +kernel
theorem d_Mo_holds_123 : decode M_Mo_holds.2.1 123 = .ok (.iadd, 1) := by decide +kernel
theorem d_Mo_holds_124 : decode M_Mo_holds.2.1 124 = .ok (.laload, 1) := by decide +kernel
theorem d_Mo_holds_125 : decode M_Mo_holds.2.1 125 = .ok (.aload_n 0, 1) := by decide +kernel
theorem d_Mo_holds_126 : decode M_Mo_holds.2.1 126 = .ok (.getfield 23, 3) := by decide +kernel
theorem d_Mo_holds_129 : decode M_Mo_holds.2.1 129 = .ok (.iload 6, 2) := by decide +kernel
theorem d_Mo_holds_131 : decode M_Mo_holds.2.1 131 = .ok (.iconst 3, 1) := by decide +kernel
theorem d_Mo_holds_132 : decode M_Mo_holds.2.1 132 = .ok (.iadd, 1) := by decide +kernel
theorem d_Mo_holds_133 : decode M_Mo_holds.2.1 133 = .ok (.laload, 1) := by decide +kernel
theorem d_Mo_holds_134 : decode M_Mo_holds.2.1 134 = .ok (.lcmp, 1) := by decide +kernel
theorem d_Mo_holds_135 : decode M_Mo_holds.2.1 135 = .ok (.ifCond .lt 7, 3) := by decide +kernel
theorem d_Mo_holds_138 : decode M_Mo_holds.2.1 138 = .ok (.iconst 1, 1) := by decide +kernel
theorem d_Mo_holds_139 : decode M_Mo_holds.2.1 139 = .ok (.goto 4, 3) := by decide +kernel
theorem d_Mo_holds_142 : decode M_Mo_holds.2.1 142 = .ok (.iconst 0, 1) := by decide +kernel
theorem d_Mo_holds_143 : decode M_Mo_holds.2.1 143 = .ok (.ireturn, 1) := by decide +kernel
theorem d_Mo_covers_0 : decode M_Mo_covers.2.1 0 = .ok (.aload_n 0, 1) := by decide +kernel
theorem d_Mo_covers_1 : decode M_Mo_covers.2.1 1 = .ok (.getfield 27, 3) := by decide +kernel
theorem d_Mo_covers_4 : decode M_Mo_covers.2.1 4 = .ok (.bipush 12, 2) := by decide +kernel
theorem d_Mo_covers_6 : decode M_Mo_covers.2.1 6 = .ok (.iload_n 1, 1) := by decide +kernel
theorem d_Mo_covers_7 : decode M_Mo_covers.2.1 7 = .ok (.imul, 1) := by decide +kernel
theorem d_Mo_covers_8 : decode M_Mo_covers.2.1 8 = .ok (.laload, 1) := by decide +kernel
theorem d_Mo_covers_9 : decode M_Mo_covers.2.1 9 = .ok (.lstore_n 3, 1) := by decide +kernel
theorem d_Mo_covers_10 : decode M_Mo_covers.2.1 10 = .ok (.aload_n 0, 1) := by decide +kernel
theorem d_Mo_covers_11 : decode M_Mo_covers.2.1 11 = .ok (.getfield 27, 3) := by decide +kernel
theorem d_Mo_covers_14 : decode M_Mo_covers.2.1 14 = .ok (.bipush 12, 2) := by decide +kernel
theorem d_Mo_covers_16 : decode M_Mo_covers.2.1 16 = .ok (.iload_n 2, 1) := by decide +kernel
theorem d_Mo_covers_17 : decode M_Mo_covers.2.1 17 = .ok (.imul, 1) := by decide +kernel
theorem d_Mo_covers_18 : decode M_Mo_covers.2.1 18 = .ok (.laload, 1) := by decide +kernel
theorem d_Mo_covers_19 : decode M_Mo_covers.2.1 19 = .ok (.lstore 5, 2) := by decide +kernel
theorem d_Mo_covers_21 : decode M_Mo_covers.2.1 21 = .ok (.lload_n 3, 1) := by decide +kernel
theorem d_Mo_covers_22 : decode M_Mo_covers.2.1 22 = .ok (.lload 5, 2) := by decide +kernel
theorem d_Mo_covers_24 : decode M_Mo_covers.2.1 24 = .ok (.lcmp, 1) := by decide +kernel
theorem d_Mo_covers_25 : decode M_Mo_covers.2.1 25 = .ok (.ifCond .eq 20, 3) := by decide +kernel
theorem d_Mo_covers_28 : decode M_Mo_covers.2.1 28 = .ok (.lload_n 3, 1) := by decide +kernel
theorem d_Mo_covers_29 : decode M_Mo_covers.2.1 29 = .ok (.ldc2_w 195, 3) := by decide +kernel
theorem d_Mo_covers_32 : decode M_Mo_covers.2.1 32 = .ok (.lcmp, 1) := by decide +kernel
theorem d_Mo_covers_33 : decode M_Mo_covers.2.1 33 = .ok (.ifCond .ne 10, 3) := by decide +kernel
theorem d_Mo_covers_36 : decode M_Mo_covers.2.1 36 = .ok (.lload 5, 2) := by decide +kernel
theorem d_Mo_covers_38 : decode M_Mo_covers.2.1 38 = .ok (.lconst 0, 1) := by decide +kernel
theorem d_Mo_covers_39 : decode M_Mo_covers.2.1 39 = .ok (.lcmp, 1) := by decide +kernel
theorem d_Mo_covers_40 : decode M_Mo_covers.2.1 40 = .ok (.ifCond .eq 5, 3) := by decide +kernel
theorem d_Mo_covers_43 : decode M_Mo_covers.2.1 43 = .ok (.iconst 0, 1) := by decide +kernel
theorem d_Mo_covers_44 : decode M_Mo_covers.2.1 44 = .ok (.ireturn, 1) := by decide +kernel
theorem d_Mo_covers_45 : decode M_Mo_covers.2.1 45 = .ok (.aload_n 0, 1) := by decide +kernel
theorem d_Mo_covers_46 : decode M_Mo_covers.2.1 46 = .ok (.iload_n 1, 1) := by decide +kernel
theorem d_Mo_covers_47 : decode M_Mo_covers.2.1 47 = .ok (.iconst 1, 1) := by decide +kernel
theorem d_Mo_covers_48 : decode M_Mo_covers.2.1 48 = .ok (.iload_n 2, 1) := by decide +kernel
theorem d_Mo_covers_49 : decode M_Mo_covers.2.1 49 = .ok (.iconst 1, 1) := by decide +kernel
theorem d_Mo_covers_50 : decode M_Mo_covers.2.1 50 = .ok (.invokevirtual 201, 3) := by decide +kernel
theorem d_Mo_covers_53 : decode M_Mo_covers.2.1 53 = .ok (.istore 7, 2) := by decide +kernel
theorem d_Mo_covers_55 : decode M_Mo_covers.2.1 55 = .ok (.lload_n 3, 1) := by decide +kernel
theorem d_Mo_covers_56 : decode M_Mo_covers.2.1 56 = .ok (.lconst 0, 1) := by decide +kernel
theorem d_Mo_covers_57 : decode M_Mo_covers.2.1 57 = .ok (.lcmp, 1) := by decide +kernel
theorem d_Mo_covers_58 : decode M_Mo_covers.2.1 58 = .ok (.ifCond .eq 11, 3) := by decide +kernel
theorem d_Mo_covers_61 : decode M_Mo_covers.2.1 61 = .ok (.lload_n 3, 1) := by decide +kernel
theorem d_Mo_covers_62 : decode M_Mo_covers.2.1 62 = .ok (.ldc2_w 195, 3) := by decide +kernel
theorem d_Mo_covers_65 : decode M_Mo_covers.2.1 65 = .ok (.lcmp, 1) := by decide +kernel
theorem d_Mo_covers_66 : decode M_Mo_covers.2.1 66 = .ok (.ifCond .ne 48, 3) := by decide +kernel
theorem d_Mo_covers_69 : decode M_Mo_covers.2.1 69 = .ok (.iload 7, 2) := by decide +kernel
theorem d_Mo_covers_71 : decode M_Mo_covers.2.1 71 = .ok (.ifCond .eq 14, 3) := by decide +kernel
theorem d_Mo_covers_74 : decode M_Mo_covers.2.1 74 = .ok (.aload_n 0, 1) := by decide +kernel
theorem d_Mo_covers_75 : decode M_Mo_covers.2.1 75 = .ok (.iload_n 1, 1) := by decide +kernel
theorem d_Mo_covers_76 : decode M_Mo_covers.2.1 76 = .ok (.iconst 3, 1) := by decide +kernel
theorem d_Mo_covers_77 : decode M_Mo_covers.2.1 77 = .ok (.iload_n 2, 1) := by decide +kernel
theorem d_Mo_covers_78 : decode M_Mo_covers.2.1 78 = .ok (.iconst 3, 1) := by decide +kernel
theorem d_Mo_covers_79 : decode M_Mo_covers.2.1 79 = .ok (.invokevirtual 201, 3) := by decide +kernel
theorem d_Mo_covers_82 : decode M_Mo_covers.2.1 82 = .ok (.ifCond .ne 25, 3) := by decide +kernel
theorem d_Mo_covers_85 : decode M_Mo_covers.2.1 85 = .ok (.aload_n 0, 1) := by decide +kernel
theorem d_Mo_covers_86 : decode M_Mo_covers.2.1 86 = .ok (.iload_n 1, 1) := by decide +kernel
theorem d_Mo_covers_87 : decode M_Mo_covers.2.1 87 = .ok (.iconst 1, 1) := by decide +kernel
theorem d_Mo_covers_88 : decode M_Mo_covers.2.1 88 = .ok (.iload_n 2, 1) := by decide +kernel
theorem d_Mo_covers_89 : decode M_Mo_covers.2.1 89 = .ok (.iconst 3, 1) := by decide +kernel
theorem d_Mo_covers_90 : decode M_Mo_covers.2.1 90 = .ok (.invokevirtual 201, 3) := by decide +kernel
theorem d_Mo_covers_93 : decode M_Mo_covers.2.1 93 = .ok (.ifCond .eq 18, 3) := by decide +kernel
theorem d_Mo_covers_96 : decode M_Mo_covers.2.1 96 = .ok (.aload_n 0, 1) := by decide +kernel
theorem d_Mo_covers_97 : decode M_Mo_covers.2.1 97 = .ok (.iload_n 1, 1) := by decide +kernel
theorem d_Mo_covers_98 : decode M_Mo_covers.2.1 98 = .ok (.iconst 3, 1) := by decide +kernel
theorem d_Mo_covers_99 : decode M_Mo_covers.2.1 99 = .ok (.iload_n 2, 1) := by decide +kernel
theorem d_Mo_covers_100 : decode M_Mo_covers.2.1 100 = .ok (.iconst 1, 1) := by decide +kernel
theorem d_Mo_covers_101 : decode M_Mo_covers.2.1 101 = .ok (.invokevirtual 201, 3) := by decide +kernel
theorem d_Mo_covers_104 : decode M_Mo_covers.2.1 104 = .ok (.ifCond .eq 7, 3) := by decide +kernel
theorem d_Mo_covers_107 : decode M_Mo_covers.2.1 107 = .ok (.iconst 1, 1) := by decide +kernel
theorem d_Mo_covers_108 : decode M_Mo_covers.2.1 108 = .ok (.goto 4, 3) := by decide +kernel
theorem d_Mo_covers_111 : decode M_Mo_covers.2.1 111 = .ok (.iconst 0, 1) := by decide +kernel
theorem d_Mo_covers_112 : decode M_Mo_covers.2.1 112 = .ok (.istore 7, 2) := by decide +kernel
theorem d_Mo_covers_114 : decode M_Mo_covers.2.1 114 = .ok (.aload_n 0, 1) := by decide +kernel
theorem d_Mo_covers_115 : decode M_Mo_covers.2.1 115 = .ok (.getfield 27, 3) := by decide +kernel
theorem d_Mo_covers_118 : decode M_Mo_covers.2.1 118 = .ok (.bipush 12, 2) := by decide +kernel
theorem d_Mo_covers_120 : decode M_Mo_covers.2.1 120 = .ok (.iload_n 1, 1) := by decide +kernel
theorem d_Mo_covers_121 : decode M_Mo_covers.2.1 121 = .ok (.imul, 1) := by decide +kernel
theorem d_Mo_covers_122 : decode M_Mo_covers.2.1 122 = .ok (.iconst 5, 1) := by decide +kernel
theorem d_Mo_covers_123 : decode M_Mo_covers.2.1 123 = .ok (.iadd, 1) := by decide +kernel
theorem d_Mo_covers_124 : decode M_Mo_covers.2.1 124 = .ok (.laload, 1) := by decide +kernel
theorem d_Mo_covers_125 : decode M_Mo_covers.2.1 125 = .ok (.lstore 8, 2) := by decide +kernel
theorem d_Mo_covers_127 : decode M_Mo_covers.2.1 127 = .ok (.iload 7, 2) := by decide +kernel
theorem d_Mo_covers_129 : decode M_Mo_covers.2.1 129 = .ok (.ifCond .eq 62, 3) := by decide +kernel
theorem d_Mo_covers_132 : decode M_Mo_covers.2.1 132 = .ok (.lload 8, 2) := by decide +kernel
theorem d_Mo_covers_134 : decode M_Mo_covers.2.1 134 = .ok (.lconst 0, 1) := by decide +kernel
theorem d_Mo_covers_135 : decode M_Mo_covers.2.1 135 = .ok (.lcmp, 1) := by decide +kernel
theorem d_Mo_covers_136 : decode M_Mo_covers.2.1 136 = .ok (.ifCond .eq 20, 3) := by decide +kernel
theorem d_Mo_covers_139 : decode M_Mo_covers.2.1 139 = .ok (.lload 8, 2) := by decide +kernel
theorem d_Mo_covers_141 : decode M_Mo_covers.2.1 141 = .ok (.aload_n 0, 1) := by decide +kernel
theorem d_Mo_covers_142 : decode M_Mo_covers.2.1 142 = .ok (.getfield 27, 3) := by decide +kernel
theorem d_Mo_covers_145 : decode M_Mo_covers.2.1 145 = .ok (.bipush 12, 2) := by decide +kernel
theorem d_Mo_covers_147 : decode M_Mo_covers.2.1 147 = .ok (.iload_n 2, 1) := by decide +kernel
theorem d_Mo_covers_148 : decode M_Mo_covers.2.1 148 = .ok (.imul, 1) := by decide +kernel
theorem d_Mo_covers_149 : decode M_Mo_covers.2.1 149 = .ok (.iconst 5, 1) := by decide +kernel
theorem d_Mo_covers_150 : decode M_Mo_covers.2.1 150 = .ok (.iadd, 1) := by decide +kernel
theorem d_Mo_covers_151 : decode M_Mo_covers.2.1 151 = .ok (.laload, 1) := by decide +kernel
theorem d_Mo_covers_152 : decode M_Mo_covers.2.1 152 = .ok (.lcmp, 1) := by decide +kernel
theorem d_Mo_covers_153 : decode M_Mo_covers.2.1 153 = .ok (.ifCond .ne 38, 3) := by decide +kernel
theorem d_Mo_covers_156 : decode M_Mo_covers.2.1 156 = .ok (.aload_n 0, 1) := by decide +kernel
theorem d_Mo_covers_157 : decode M_Mo_covers.2.1 157 = .ok (.aload_n 0, 1) := by decide +kernel
theorem d_Mo_covers_158 : decode M_Mo_covers.2.1 158 = .ok (.getfield 27, 3) := by decide +kernel
theorem d_Mo_covers_161 : decode M_Mo_covers.2.1 161 = .ok (.bipush 12, 2) := by decide +kernel
theorem d_Mo_covers_163 : decode M_Mo_covers.2.1 163 = .ok (.iload_n 1, 1) := by decide +kernel
theorem d_Mo_covers_164 : decode M_Mo_covers.2.1 164 = .ok (.imul, 1) := by decide +kernel
theorem d_Mo_covers_165 : decode M_Mo_covers.2.1 165 = .ok (.bipush 6, 2) := by decide +kernel
theorem d_Mo_covers_167 : decode M_Mo_covers.2.1 167 = .ok (.iadd, 1) := by decide +kernel
theorem d_Mo_covers_168 : decode M_Mo_covers.2.1 168 = .ok (.laload, 1) := by decide +kernel
theorem d_Mo_covers_169 : decode M_Mo_covers.2.1 169 = .ok (.aload_n 0, 1) := by decide +kernel
theorem d_Mo_covers_170 : decode M_Mo_covers.2.1 170 = .ok (.getfield 27, 3) := by decide +kernel
theorem d_Mo_covers_173 : decode M_Mo_covers.2.1 173 = .ok (.bipush 12, 2) := by decide +kernel
theorem d_Mo_covers_175 : decode M_Mo_covers.2.1 175 = .ok (.iload_n 2, 1) := by decide +kernel
theorem d_Mo_covers_176 : decode M_Mo_covers.2.1 176 = .ok (.imul, 1) := by decide +kernel
theorem d_Mo_covers_177 : decode M_Mo_covers.2.1 177 = .ok (.bipush 6, 2) := by decide +kernel
theorem d_Mo_covers_179 : decode M_Mo_covers.2.1 179 = .ok (.iadd, 1) := by decide +kernel
theorem d_Mo_covers_180 : decode M_Mo_covers.2.1 180 = .ok (.laload, 1) := by decide +kernel
theorem d_Mo_covers_181 : decode M_Mo_covers.2.1 181 = .ok (.invokevirtual 205, 3) := by decide +kernel
theorem d_Mo_covers_184 : decode M_Mo_covers.2.1 184 = .ok (.ifCond .eq 7, 3) := by decide +kernel
theorem d_Mo_covers_187 : decode M_Mo_covers.2.1 187 = .ok (.iconst 1, 1) := by decide +kernel
theorem d_Mo_covers_188 : decode M_Mo_covers.2.1 188 = .ok (.goto 4, 3) := by decide +kernel
theorem d_Mo_covers_191 : decode M_Mo_covers.2.1 191 = .ok (.iconst 0, 1) := by decide +kernel
theorem d_Mo_covers_192 : decode M_Mo_covers.2.1 192 = .ok (.ireturn, 1) := by decide +kernel
theorem d_Mo_isClash_0 : decode M_Mo_isClash.2.1 0 = .ok (.aload_n 0, 1) := by decide +kernel
theorem d_Mo_isClash_1 : decode M_Mo_isClash.2.1 1 = .ok (.getfield 27, 3) := by decide +kernel
theorem d_Mo_isClash_4 : decode M_Mo_isClash.2.1 4 = .ok (.bipush 12, 2) := by decide +kernel
theorem d_Mo_isClash_6 : decode M_Mo_isClash.2.1 6 = .ok (.iload_n 1, 1) := by decide +kernel
theorem d_Mo_isClash_7 : decode M_Mo_isClash.2.1 7 = .ok (.imul, 1) := by decide +kernel
theorem d_Mo_isClash_8 : decode M_Mo_isClash.2.1 8 = .ok (.laload, 1) := by decide +kernel
theorem d_Mo_isClash_9 : decode M_Mo_isClash.2.1 9 = .ok (.ldc2_w 195, 3) := by decide +kernel
theorem d_Mo_isClash_12 : decode M_Mo_isClash.2.1 12 = .ok (.lcmp, 1) := by decide +kernel
theorem d_Mo_isClash_13 : decode M_Mo_isClash.2.1 13 = .ok (.ifCond .eq 21, 3) := by decide +kernel
theorem d_Mo_isClash_16 : decode M_Mo_isClash.2.1 16 = .ok (.aload_n 0, 1) := by decide +kernel
theorem d_Mo_isClash_17 : decode M_Mo_isClash.2.1 17 = .ok (.iload_n 1, 1) := by decide +kernel
theorem d_Mo_isClash_18 : decode M_Mo_isClash.2.1 18 = .ok (.iload_n 2, 1) := by decide +kernel
theorem d_Mo_isClash_19 : decode M_Mo_isClash.2.1 19 = .ok (.invokevirtual 209, 3) := by decide +kernel
theorem d_Mo_isClash_22 : decode M_Mo_isClash.2.1 22 = .ok (.ifCond .eq 12, 3) := by decide +kernel
theorem d_Mo_isClash_25 : decode M_Mo_isClash.2.1 25 = .ok (.aload_n 0, 1) := by decide +kernel
theorem d_Mo_isClash_26 : decode M_Mo_isClash.2.1 26 = .ok (.iload_n 2, 1) := by decide +kernel
theorem d_Mo_isClash_27 : decode M_Mo_isClash.2.1 27 = .ok (.iload_n 1, 1) := by decide +kernel
theorem d_Mo_isClash_28 : decode M_Mo_isClash.2.1 28 = .ok (.invokevirtual 209, 3) := by decide +kernel
theorem d_Mo_isClash_31 : decode M_Mo_isClash.2.1 31 = .ok (.ifCond .ne 5, 3) := by decide +kernel
theorem d_Mo_isClash_34 : decode M_Mo_isClash.2.1 34 = .ok (.iconst 0, 1) := by decide +kernel
theorem d_Mo_isClash_35 : decode M_Mo_isClash.2.1 35 = .ok (.ireturn, 1) := by decide +kernel
theorem d_Mo_isClash_36 : decode M_Mo_isClash.2.1 36 = .ok (.aload_n 0, 1) := by decide +kernel
theorem d_Mo_isClash_37 : decode M_Mo_isClash.2.1 37 = .ok (.getfield 27, 3) := by decide +kernel
theorem d_Mo_isClash_40 : decode M_Mo_isClash.2.1 40 = .ok (.bipush 12, 2) := by decide +kernel
theorem d_Mo_isClash_42 : decode M_Mo_isClash.2.1 42 = .ok (.iload_n 1, 1) := by decide +kernel
theorem d_Mo_isClash_43 : decode M_Mo_isClash.2.1 43 = .ok (.imul, 1) := by decide +kernel
theorem d_Mo_isClash_44 : decode M_Mo_isClash.2.1 44 = .ok (.bipush 8, 2) := by decide +kernel
theorem d_Mo_isClash_46 : decode M_Mo_isClash.2.1 46 = .ok (.iadd, 1) := by decide +kernel
theorem d_Mo_isClash_47 : decode M_Mo_isClash.2.1 47 = .ok (.laload, 1) := by decide +kernel
theorem d_Mo_isClash_48 : decode M_Mo_isClash.2.1 48 = .ok (.lstore_n 3, 1) := by decide +kernel
theorem d_Mo_isClash_49 : decode M_Mo_isClash.2.1 49 = .ok (.aload_n 0, 1) := by decide +kernel
theorem d_Mo_isClash_50 : decode M_Mo_isClash.2.1 50 = .ok (.getfield 27, 3) := by decide +kernel
theorem d_Mo_isClash_53 : decode M_Mo_isClash.2.1 53 = .ok (.bipush 12, 2) := by decide +kernel
theorem d_Mo_isClash_55 : decode M_Mo_isClash.2.1 55 = .ok (.iload_n 1, 1) := by decide +kernel
theorem d_Mo_isClash_56 : decode M_Mo_isClash.2.1 56 = .ok (.imul, 1) := by decide +kernel
theorem d_Mo_isClash_57 : decode M_Mo_isClash.2.1 57 = .ok (.bipush 9, 2) := by decide +kernel
theorem d_Mo_isClash_59 : decode M_Mo_isClash.2.1 59 = .ok (.iadd, 1) := by decide +kernel
theorem d_Mo_isClash_60 : decode M_Mo_isClash.2.1 60 = .ok (.laload, 1) := by decide +kernel
theorem d_Mo_isClash_61 : decode M_Mo_isClash.2.1 61 = .ok (.lstore 5, 2) := by decide +kernel
theorem d_Mo_isClash_63 : decode M_Mo_isClash.2.1 63 = .ok (.aload_n 0, 1) := by decide +kernel
theorem d_Mo_isClash_64 : decode M_Mo_isClash.2.1 64 = .ok (.getfield 27, 3) := by decide +kernel
theorem d_Mo_isClash_67 : decode M_Mo_isClash.2.1 67 = .ok (.bipush 12, 2) := by decide +kernel
theorem d_Mo_isClash_69 : decode M_Mo_isClash.2.1 69 = .ok (.iload_n 2, 1) := by decide +kernel
theorem d_Mo_isClash_70 : decode M_Mo_isClash.2.1 70 = .ok (.imul, 1) := by decide +kernel
theorem d_Mo_isClash_71 : decode M_Mo_isClash.2.1 71 = .ok (.bipush 8, 2) := by decide +kernel
theorem d_Mo_isClash_73 : decode M_Mo_isClash.2.1 73 = .ok (.iadd, 1) := by decide +kernel
theorem d_Mo_isClash_74 : decode M_Mo_isClash.2.1 74 = .ok (.laload, 1) := by decide +kernel
theorem d_Mo_isClash_75 : decode M_Mo_isClash.2.1 75 = .ok (.lstore 7, 2) := by decide +kernel
theorem d_Mo_isClash_77 : decode M_Mo_isClash.2.1 77 = .ok (.aload_n 0, 1) := by decide +kernel
theorem d_Mo_isClash_78 : decode M_Mo_isClash.2.1 78 = .ok (.getfield 27, 3) := by decide +kernel
theorem d_Mo_isClash_81 : decode M_Mo_isClash.2.1 81 = .ok (.bipush 12, 2) := by decide +kernel
theorem d_Mo_isClash_83 : decode M_Mo_isClash.2.1 83 = .ok (.iload_n 2, 1) := by decide +kernel
theorem d_Mo_isClash_84 : decode M_Mo_isClash.2.1 84 = .ok (.imul, 1) := by decide +kernel
theorem d_Mo_isClash_85 : decode M_Mo_isClash.2.1 85 = .ok (.bipush 9, 2) := by decide +kernel
theorem d_Mo_isClash_87 : decode M_Mo_isClash.2.1 87 = .ok (.iadd, 1) := by decide +kernel
theorem d_Mo_isClash_88 : decode M_Mo_isClash.2.1 88 = .ok (.laload, 1) := by decide +kernel
theorem d_Mo_isClash_89 : decode M_Mo_isClash.2.1 89 = .ok (.lstore 9, 2) := by decide +kernel
theorem d_Mo_isClash_91 : decode M_Mo_isClash.2.1 91 = .ok (.lload 5, 2) := by decide +kernel
theorem d_Mo_isClash_93 : decode M_Mo_isClash.2.1 93 = .ok (.lconst 0, 1) := by decide +kernel
theorem d_Mo_isClash_94 : decode M_Mo_isClash.2.1 94 = .ok (.lcmp, 1) := by decide +kernel
theorem d_Mo_isClash_95 : decode M_Mo_isClash.2.1 95 = .ok (.ifCond .lt 18, 3) := by decide +kernel
theorem d_Mo_isClash_98 : decode M_Mo_isClash.2.1 98 = .ok (.lload 7, 2) := by decide +kernel
theorem d_Mo_isClash_100 : decode M_Mo_isClash.2.1 100 = .ok (.lconst 0, 1) := by decide +kernel
theorem d_Mo_isClash_101 : decode M_Mo_isClash.2.1 101 = .ok (.lcmp, 1) := by decide +kernel
theorem d_Mo_isClash_102 : decode M_Mo_isClash.2.1 102 = .ok (.ifCond .lt 11, 3) := by decide +kernel
theorem d_Mo_isClash_105 : decode M_Mo_isClash.2.1 105 = .ok (.lload 5, 2) := by decide +kernel
theorem d_Mo_isClash_107 : decode M_Mo_isClash.2.1 107 = .ok (.lload 7, 2) := by decide +kernel
theorem d_Mo_isClash_109 : decode M_Mo_isClash.2.1 109 = .ok (.lcmp, 1) := by decide +kernel
theorem d_Mo_isClash_110 : decode M_Mo_isClash.2.1 110 = .ok (.ifCond .lt 23, 3) := by decide +kernel
theorem d_Mo_isClash_113 : decode M_Mo_isClash.2.1 113 = .ok (.lload 9, 2) := by decide +kernel
theorem d_Mo_isClash_115 : decode M_Mo_isClash.2.1 115 = .ok (.lconst 0, 1) := by decide +kernel
theorem d_Mo_isClash_116 : decode M_Mo_isClash.2.1 116 = .ok (.lcmp, 1) := by decide +kernel
theorem d_Mo_isClash_117 : decode M_Mo_isClash.2.1 117 = .ok (.ifCond .lt 20, 3) := by decide +kernel
theorem d_Mo_isClash_120 : decode M_Mo_isClash.2.1 120 = .ok (.lload_n 3, 1) := by decide +kernel
theorem d_Mo_isClash_121 : decode M_Mo_isClash.2.1 121 = .ok (.lconst 0, 1) := by decide +kernel
theorem d_Mo_isClash_122 : decode M_Mo_isClash.2.1 122 = .ok (.lcmp, 1) := by decide +kernel
theorem d_Mo_isClash_123 : decode M_Mo_isClash.2.1 123 = .ok (.ifCond .lt 14, 3) := by decide +kernel
theorem d_Mo_isClash_126 : decode M_Mo_isClash.2.1 126 = .ok (.lload 9, 2) := by decide +kernel
theorem d_Mo_isClash_128 : decode M_Mo_isClash.2.1 128 = .ok (.lload_n 3, 1) := by decide +kernel
theorem d_Mo_isClash_129 : decode M_Mo_isClash.2.1 129 = .ok (.lcmp, 1) := by decide +kernel
theorem d_Mo_isClash_130 : decode M_Mo_isClash.2.1 130 = .ok (.ifCond .ge 7, 3) := by decide +kernel
theorem d_Mo_isClash_133 : decode M_Mo_isClash.2.1 133 = .ok (.iconst 1, 1) := by decide +kernel
theorem d_Mo_isClash_134 : decode M_Mo_isClash.2.1 134 = .ok (.goto 4, 3) := by decide +kernel
theorem d_Mo_isClash_137 : decode M_Mo_isClash.2.1 137 = .ok (.iconst 0, 1) := by decide +kernel
theorem d_Mo_isClash_138 : decode M_Mo_isClash.2.1 138 = .ok (.ireturn, 1) := by decide +kernel
theorem d_Mo_rule_0 : decode M_Mo_rule.2.1 0 = .ok (.aload_n 0, 1) := by decide +kernel
theorem d_Mo_rule_1 : decode M_Mo_rule.2.1 1 = .ok (.aload_n 0, 1) := by decide +kernel
theorem d_Mo_rule_2 : decode M_Mo_rule.2.1 2 = .ok (.iload_n 1, 1) := by decide +kernel
theorem d_Mo_rule_3 : decode M_Mo_rule.2.1 3 = .ok (.invokevirtual 192, 3) := by decide +kernel
theorem d_Mo_rule_6 : decode M_Mo_rule.2.1 6 = .ok (.ifCond .eq 17, 3) := by decide +kernel
theorem d_Mo_rule_9 : decode M_Mo_rule.2.1 9 = .ok (.iload_n 2, 1) := by decide +kernel
theorem d_Mo_rule_10 : decode M_Mo_rule.2.1 10 = .ok (.ifCond .lt 13, 3) := by decide +kernel
theorem d_Mo_rule_13 : decode M_Mo_rule.2.1 13 = .ok (.iload_n 2, 1) := by decide +kernel
theorem d_Mo_rule_14 : decode M_Mo_rule.2.1 14 = .ok (.bipush 8, 2) := by decide +kernel
theorem d_Mo_rule_16 : decode M_Mo_rule.2.1 16 = .ok (.if_icmp .ge 7, 3) := by decide +kernel
theorem d_Mo_rule_19 : decode M_Mo_rule.2.1 19 = .ok (.iconst 0, 1) := by decide +kernel
theorem d_Mo_rule_20 : decode M_Mo_rule.2.1 20 = .ok (.goto 4, 3) := by decide +kernel
theorem d_Mo_rule_23 : decode M_Mo_rule.2.1 23 = .ok (.iconst 1, 1) := by decide +kernel
theorem d_Mo_rule_24 : decode M_Mo_rule.2.1 24 = .ok (.putfield 39, 3) := by decide +kernel
theorem d_Mo_rule_27 : decode M_Mo_rule.2.1 27 = .ok (.aload_n 0, 1) := by decide +kernel
theorem d_Mo_rule_28 : decode M_Mo_rule.2.1 28 = .ok (.getfield 39, 3) := by decide +kernel
theorem d_Mo_rule_31 : decode M_Mo_rule.2.1 31 = .ok (.ifCond .ne 18, 3) := by decide +kernel
theorem d_Mo_rule_34 : decode M_Mo_rule.2.1 34 = .ok (.aload_n 0, 1) := by decide +kernel
theorem d_Mo_rule_35 : decode M_Mo_rule.2.1 35 = .ok (.getfield 27, 3) := by decide +kernel
theorem d_Mo_rule_38 : decode M_Mo_rule.2.1 38 = .ok (.bipush 12, 2) := by decide +kernel
theorem d_Mo_rule_40 : decode M_Mo_rule.2.1 40 = .ok (.iload_n 1, 1) := by decide +kernel
theorem d_Mo_rule_41 : decode M_Mo_rule.2.1 41 = .ok (.imul, 1) := by decide +kernel
theorem d_Mo_rule_42 : decode M_Mo_rule.2.1 42 = .ok (.iload_n 2, 1) := by decide +kernel
theorem d_Mo_rule_43 : decode M_Mo_rule.2.1 43 = .ok (.iadd, 1) := by decide +kernel
theorem d_Mo_rule_44 : decode M_Mo_rule.2.1 44 = .ok (.laload, 1) := by decide +kernel
theorem d_Mo_rule_45 : decode M_Mo_rule.2.1 45 = .ok (.l2i, 1) := by decide +kernel
theorem d_Mo_rule_46 : decode M_Mo_rule.2.1 46 = .ok (.goto 4, 3) := by decide +kernel
theorem d_Mo_rule_49 : decode M_Mo_rule.2.1 49 = .ok (.iconst 0, 1) := by decide +kernel
theorem d_Mo_rule_50 : decode M_Mo_rule.2.1 50 = .ok (.ireturn, 1) := by decide +kernel
theorem d_Mo_value_II_0 : decode M_Mo_value_II.2.1 0 = .ok (.aload_n 0, 1) := by decide +kernel
theorem d_Mo_value_II_1 : decode M_Mo_value_II.2.1 1 = .ok (.aload_n 0, 1) := by decide +kernel
theorem d_Mo_value_II_2 : decode M_Mo_value_II.2.1 2 = .ok (.iload_n 1, 1) := by decide +kernel
theorem d_Mo_value_II_3 : decode M_Mo_value_II.2.1 3 = .ok (.invokevirtual 192, 3) := by decide +kernel
theorem d_Mo_value_II_6 : decode M_Mo_value_II.2.1 6 = .ok (.ifCond .eq 16, 3) := by decide +kernel
theorem d_Mo_value_II_9 : decode M_Mo_value_II.2.1 9 = .ok (.iload_n 2, 1) := by decide +kernel
theorem d_Mo_value_II_10 : decode M_Mo_value_II.2.1 10 = .ok (.ifCond .lt 12, 3) := by decide +kernel
theorem d_Mo_value_II_13 : decode M_Mo_value_II.2.1 13 = .ok (.iload_n 2, 1) := by decide +kernel
theorem d_Mo_value_II_14 : decode M_Mo_value_II.2.1 14 = .ok (.iconst 2, 1) := by decide +kernel
theorem d_Mo_value_II_15 : decode M_Mo_value_II.2.1 15 = .ok (.if_icmp .ge 7, 3) := by decide +kernel
theorem d_Mo_value_II_18 : decode M_Mo_value_II.2.1 18 = .ok (.iconst 0, 1) := by decide +kernel
theorem d_Mo_value_II_19 : decode M_Mo_value_II.2.1 19 = .ok (.goto 4, 3) := by decide +kernel
theorem d_Mo_value_II_22 : decode M_Mo_value_II.2.1 22 = .ok (.iconst 1, 1) := by decide +kernel
theorem d_Mo_value_II_23 : decode M_Mo_value_II.2.1 23 = .ok (.putfield 39, 3) := by decide +kernel
theorem d_Mo_value_II_26 : decode M_Mo_value_II.2.1 26 = .ok (.aload_n 0, 1) := by decide +kernel
theorem d_Mo_value_II_27 : decode M_Mo_value_II.2.1 27 = .ok (.getfield 39, 3) := by decide +kernel
theorem d_Mo_value_II_30 : decode M_Mo_value_II.2.1 30 = .ok (.ifCond .ne 20, 3) := by decide +kernel
theorem d_Mo_value_II_33 : decode M_Mo_value_II.2.1 33 = .ok (.aload_n 0, 1) := by decide +kernel
theorem d_Mo_value_II_34 : decode M_Mo_value_II.2.1 34 = .ok (.getfield 27, 3) := by decide +kernel
theorem d_Mo_value_II_37 : decode M_Mo_value_II.2.1 37 = .ok (.bipush 12, 2) := by decide +kernel
theorem d_Mo_value_II_39 : decode M_Mo_value_II.2.1 39 = .ok (.iload_n 1, 1) := by decide +kernel
theorem d_Mo_value_II_40 : decode M_Mo_value_II.2.1 40 = .ok (.imul, 1) := by decide +kernel
theorem d_Mo_value_II_41 : decode M_Mo_value_II.2.1 41 = .ok (.bipush 8, 2) := by decide +kernel
theorem d_Mo_value_II_43 : decode M_Mo_value_II.2.1 43 = .ok (.iadd, 1) := by decide +kernel
theorem d_Mo_value_II_44 : decode M_Mo_value_II.2.1 44 = .ok (.iload_n 2, 1) := by decide +kernel
theorem d_Mo_value_II_45 : decode M_Mo_value_II.2.1 45 = .ok (.iadd, 1) := by decide +kernel
theorem d_Mo_value_II_46 : decode M_Mo_value_II.2.1 46 = .ok (.laload, 1) := by decide +kernel
theorem d_Mo_value_II_47 : decode M_Mo_value_II.2.1 47 = .ok (.goto 4, 3) := by decide +kernel
theorem d_Mo_value_II_50 : decode M_Mo_value_II.2.1 50 = .ok (.lconst 0, 1) := by decide +kernel
theorem d_Mo_value_II_51 : decode M_Mo_value_II.2.1 51 = .ok (.lreturn, 1) := by decide +kernel
theorem d_Mo_line_0 : decode M_Mo_line.2.1 0 = .ok (.aload_n 0, 1) := by decide +kernel
theorem d_Mo_line_1 : decode M_Mo_line.2.1 1 = .ok (.aload_n 0, 1) := by decide +kernel
theorem d_Mo_line_2 : decode M_Mo_line.2.1 2 = .ok (.iload_n 1, 1) := by decide +kernel
theorem d_Mo_line_3 : decode M_Mo_line.2.1 3 = .ok (.invokevirtual 192, 3) := by decide +kernel
theorem d_Mo_line_6 : decode M_Mo_line.2.1 6 = .ok (.ifCond .eq 7, 3) := by decide +kernel
theorem d_Mo_line_9 : decode M_Mo_line.2.1 9 = .ok (.iconst 0, 1) := by decide +kernel
theorem d_Mo_line_10 : decode M_Mo_line.2.1 10 = .ok (.goto 4, 3) := by decide +kernel
theorem d_Mo_line_13 : decode M_Mo_line.2.1 13 = .ok (.iconst 1, 1) := by decide +kernel
theorem d_Mo_line_14 : decode M_Mo_line.2.1 14 = .ok (.putfield 39, 3) := by decide +kernel
theorem d_Mo_line_17 : decode M_Mo_line.2.1 17 = .ok (.aload_n 0, 1) := by decide +kernel
theorem d_Mo_line_18 : decode M_Mo_line.2.1 18 = .ok (.getfield 39, 3) := by decide +kernel
theorem d_Mo_line_21 : decode M_Mo_line.2.1 21 = .ok (.ifCond .ne 19, 3) := by decide +kernel
theorem d_Mo_line_24 : decode M_Mo_line.2.1 24 = .ok (.aload_n 0, 1) := by decide +kernel
theorem d_Mo_line_25 : decode M_Mo_line.2.1 25 = .ok (.getfield 27, 3) := by decide +kernel
theorem d_Mo_line_28 : decode M_Mo_line.2.1 28 = .ok (.bipush 12, 2) := by decide +kernel
theorem d_Mo_line_30 : decode M_Mo_line.2.1 30 = .ok (.iload_n 1, 1) := by decide +kernel
theorem d_Mo_line_31 : decode M_Mo_line.2.1 31 = .ok (.imul, 1) := by decide +kernel
theorem d_Mo_line_32 : decode M_Mo_line.2.1 32 = .ok (.bipush 10, 2) := by decide +kernel
theorem d_Mo_line_34 : decode M_Mo_line.2.1 34 = .ok (.iadd, 1) := by decide +kernel
theorem d_Mo_line_35 : decode M_Mo_line.2.1 35 = .ok (.laload, 1) := by decide +kernel
theorem d_Mo_line_36 : decode M_Mo_line.2.1 36 = .ok (.l2i, 1) := by decide +kernel
theorem d_Mo_line_37 : decode M_Mo_line.2.1 37 = .ok (.goto 4, 3) := by decide +kernel
theorem d_Mo_line_40 : decode M_Mo_line.2.1 40 = .ok (.iconst 0, 1) := by decide +kernel
theorem d_Mo_line_41 : decode M_Mo_line.2.1 41 = .ok (.ireturn, 1) := by decide +kernel
def aheadM (R : Nat → Int64) (a b : Nat) : Prop := (R (12 * a) = 12 ∧ ¬ R (12 * b) = 12) ∨ ((R (12 * a) = 12 ↔ R (12 * b) = 12) ∧ ((¬ R (12 * a + 7) - R (12 * b + 7) = 0 ∧ 0 < R (12 * a + 7) - R (12 * b + 7)) ∨ (R (12 * a + 7) - R (12 * b + 7) = 0 ∧ b < a)))
def likeM (R : Nat → Int64) (p q : Nat) : Prop := R p < 0 ∨ (R p = R q ∧ R (p + 1) = R (q + 1))
def holdsM (S : Nat → Int32) (Q : Nat → Int64) (za zb : Int32) : Prop := za.toInt64 < 0 ∨ za.toInt64 = zb.toInt64 ∨ (¬ zb.toInt64 < 0 ∧ ¬ S za.toNatClampNeg = 0 ∧ ¬ S zb.toNatClampNeg = 0 ∧ Q (4 * za.toNatClampNeg) ≤ Q (4 * zb.toNatClampNeg) ∧ Q (4 * za.toNatClampNeg + 1) ≤ Q (4 * zb.toNatClampNeg + 1) ∧ Q (4 * zb.toNatClampNeg + 2) ≤ Q (4 * za.toNatClampNeg + 2) ∧ Q (4 * zb.toNatClampNeg + 3) ≤ Q (4 * za.toNatClampNeg + 3))
def thingsM (R : Nat → Int64) (a b : Nat) : Prop := ((R (12 * a) = 0 ∨ R (12 * a) = 12) ∧ ((likeM R (12 * a + 1) (12 * b + 1) ∧ likeM R (12 * a + 3) (12 * b + 3)) ∨ (likeM R (12 * a + 1) (12 * b + 3) ∧ likeM R (12 * a + 3) (12 * b + 1)))) ∨ (¬ (R (12 * a) = 0 ∨ R (12 * a) = 12) ∧ likeM R (12 * a + 1) (12 * b + 1))
def coversM (S : Nat → Int32) (Q R : Nat → Int64) (za zb : Int32) (a b : Nat) : Prop := (R (12 * a) = R (12 * b) ∨ (R (12 * a) = 12 ∧ R (12 * b) = 0)) ∧ thingsM R a b ∧ (R (12 * a + 5) = 0 ∨ R (12 * a + 5) = R (12 * b + 5)) ∧ holdsM S Q za zb
def clashM (S : Nat → Int32) (Q R : Nat → Int64) (za zb : Int32) (a b : Nat) : Prop := ¬ R (12 * a) = 12 ∧ coversM S Q R za zb a b ∧ coversM S Q R zb za b a ∧ ((¬ R (12 * a + 9) < 0 ∧ ¬ R (12 * b + 8) < 0 ∧ R (12 * a + 9) < R (12 * b + 8)) ∨ (¬ R (12 * b + 9) < 0 ∧ ¬ R (12 * a + 8) < 0 ∧ R (12 * b + 9) < R (12 * a + 8)))
/-- an area's number, or none -/
def isArea (z : Int32) : Prop := z = -1 ∨ ∃ x, x < 16 ∧ z = nI x
theorem isArea.pos {z : Int32} (h : isArea z) (hz : ¬ z.toInt64 < 0) : ∃ x, x < 16 ∧ z = nI x := by
  rcases h with h | h
  · subst h
    exact absurd (by decide) hz
  · exact h
theorem ll_32 (x : Int32) : x.toInt64.toInt32 = x := by simp
section
variable {nx : Nat} {ct : Nat → Nat × Nat} {mi : Nat → Nat → Int32} {ml : Nat → Nat → Int64} {mr : Nat → Nat → Option Nat}
theorem sp_Mo_isRuleN {n k : Nat} (hL : LAY nx ct mr) (hn : mi 398 7 = nI n) (hn2 : n ≤ 60) (hk : k < 2 ^ 31) : rx_Calls y_Mo_isRule M_Mo_isRule 0 0 0 [.ref 398, .int (nI k)] (nx, ct, mi, ml, mr) (fun v τ => v = some (.int (bI (k < n))) ∧ τ = (nx, ct, mi, ml, mr)) := by
  have h := sp_Mo_isRule (ml := ml) hL (nI k) hn hn2
  rw [nI_toInt hk, show (0 ≤ (k : Int) ∧ (k : Int) < (n : Int)) = (k < n) from propext ⟨fun q => by omega, fun q => by omega⟩] at h
  exact h
theorem sp_Mo_isAhead {a b : Nat} (hL : LAY nx ct mr) (ha : a < 60) (hb : b < 60) : rx_Calls y_Mo_isAhead M_Mo_isAhead 0 0 0 [.ref 398, .int (nI a), .int (nI b)] (nx, ct, mi, ml, mr) (fun v τ => v = some (.int (bI (aheadM (ml 404) a b))) ∧ τ = (nx, ct, mi, ml, mr)) := by
  refine rx_enter (by decide) rfl rfl (Nat.le_of_ble_eq_true rfl) ?_
  unfold aheadM
  refine ru_aload_n d_Mo_isAhead_0 rfl rfl ?_
  refine ru_getR d_Mo_isAhead_1 lf_Mo_27 (ly hL 398 9 0) rfl (lr hL 398 8 404) ?_
  refine ru_bipush (v := 12) d_Mo_isAhead_4 (by decide) ?_
  refine ru_iload_n d_Mo_isAhead_6 rfl rfl ?_
  refine ru_imul d_Mo_isAhead_7 ?_
  refine ru_eqi (nm_mul 12 a : _ = nI (12 * a)) ?_
  refine ru_laldN (j := (12 * a)) d_Mo_isAhead_8 (ly hL 404 104 1440) (by omega) (by decide) ?_
  refine ru_ldc2 d_Mo_isAhead_9 lc_Mo_195 ?_
  refine ru_lcmp d_Mo_isAhead_12 ?_
  refine ru_if_ne (tgt := 20) d_Mo_isAhead_13 (by decide) (fun h13 => ?_) (fun h13 => ?_)
  · skip
    replace h13 := fun q => h13 ((lg_cmp_eq _ _).mpr q)
    refine ru_iconst (v := 0) d_Mo_isAhead_20 (by decide) ?_
    refine ru_istore_n d_Mo_isAhead_21 rfl (by decide) ?_
    refine ru_aload_n d_Mo_isAhead_22 rfl rfl ?_
    refine ru_getR d_Mo_isAhead_23 lf_Mo_27 (ly hL 398 9 0) rfl (lr hL 398 8 404) ?_
    refine ru_bipush (v := 12) d_Mo_isAhead_26 (by decide) ?_
    refine ru_iload_n d_Mo_isAhead_28 rfl rfl ?_
    refine ru_imul d_Mo_isAhead_29 ?_
    refine ru_eqi (nm_mul 12 b : _ = nI (12 * b)) ?_
    refine ru_laldN (j := (12 * b)) d_Mo_isAhead_30 (ly hL 404 104 1440) (by omega) (by decide) ?_
    refine ru_ldc2 d_Mo_isAhead_31 lc_Mo_195 ?_
    refine ru_lcmp d_Mo_isAhead_34 ?_
    refine ru_if_ne (tgt := 42) d_Mo_isAhead_35 (by decide) (fun h35 => ?_) (fun h35 => ?_)
    · skip
      replace h35 := fun q => h35 ((lg_cmp_eq _ _).mpr q)
      refine ru_iconst (v := 0) d_Mo_isAhead_42 (by decide) ?_
      refine ru_istore d_Mo_isAhead_43 (by decide) ?_
      refine ru_iload_n d_Mo_isAhead_45 rfl rfl ?_
      refine ru_iload d_Mo_isAhead_46 rfl ?_
      refine ru_icmp_eq (tgt := 53) d_Mo_isAhead_48 (by decide) (fun h48 => ?_) (fun h48 => absurd h48 (by decide))
      refine ru_aload_n d_Mo_isAhead_53 rfl rfl ?_
      refine ru_getR d_Mo_isAhead_54 lf_Mo_27 (ly hL 398 9 0) rfl (lr hL 398 8 404) ?_
      refine ru_bipush (v := 12) d_Mo_isAhead_57 (by decide) ?_
      refine ru_iload_n d_Mo_isAhead_59 rfl rfl ?_
      refine ru_imul d_Mo_isAhead_60 ?_
      refine ru_eqi (nm_mul 12 a : _ = nI (12 * a)) ?_
      refine ru_bipush (v := 7) d_Mo_isAhead_61 (by decide) ?_
      refine ru_iadd d_Mo_isAhead_63 ?_
      refine ru_eqi (nm_add (12 * a) 7 : _ = nI ((12 * a) + 7)) ?_
      refine ru_laldN (j := ((12 * a) + 7)) d_Mo_isAhead_64 (ly hL 404 104 1440) (by omega) (by decide) ?_
      refine ru_aload_n d_Mo_isAhead_65 rfl rfl ?_
      refine ru_getR d_Mo_isAhead_66 lf_Mo_27 (ly hL 398 9 0) rfl (lr hL 398 8 404) ?_
      refine ru_bipush (v := 12) d_Mo_isAhead_69 (by decide) ?_
      refine ru_iload_n d_Mo_isAhead_71 rfl rfl ?_
      refine ru_imul d_Mo_isAhead_72 ?_
      refine ru_eqi (nm_mul 12 b : _ = nI (12 * b)) ?_
      refine ru_bipush (v := 7) d_Mo_isAhead_73 (by decide) ?_
      refine ru_iadd d_Mo_isAhead_75 ?_
      refine ru_eqi (nm_add (12 * b) 7 : _ = nI ((12 * b) + 7)) ?_
      refine ru_laldN (j := ((12 * b) + 7)) d_Mo_isAhead_76 (ly hL 404 104 1440) (by omega) (by decide) ?_
      refine ru_lsub d_Mo_isAhead_77 ?_
      refine ru_lstore d_Mo_isAhead_78 (by decide) ?_
      refine ru_lload d_Mo_isAhead_80 rfl ?_
      refine ru_lconst (v := 0) d_Mo_isAhead_82 (by decide) ?_
      refine ru_lcmp d_Mo_isAhead_83 ?_
      refine ru_if_eq (tgt := 102) d_Mo_isAhead_84 (by decide) (fun h84 => ?_) (fun h84 => ?_)
      · skip
        replace h84 := (lg_cmp_eq _ _).mp h84
        refine ru_iload_n d_Mo_isAhead_102 rfl rfl ?_
        refine ru_iload_n d_Mo_isAhead_103 rfl rfl ?_
        refine ru_icmp_le (tgt := 111) d_Mo_isAhead_104 (by decide) (fun h104 => ?_) (fun h104 => ?_)
        · skip
          replace h104 := nm_le (a := a) (b := b) (by omega) (by omega) h104
          refine ru_iconst (v := 0) d_Mo_isAhead_111 (by decide) ?_
          refine ru_zret (ty := .boolean) d_Mo_isAhead_112 rfl rfl ?_
          first | exact ⟨by rw [bI_t (by grind)], rfl⟩ | exact ⟨by rw [bI_f (by grind)], rfl⟩
        · skip
          replace h104 := nm_nle (a := a) (b := b) (by omega) (by omega) h104
          refine ru_iconst (v := 1) d_Mo_isAhead_107 (by decide) ?_
          refine ru_goto (tgt := 112) d_Mo_isAhead_108 (by decide) ?_
          refine ru_zret (ty := .boolean) d_Mo_isAhead_112 rfl rfl ?_
          first | exact ⟨by rw [bI_t (by grind)], rfl⟩ | exact ⟨by rw [bI_f (by grind)], rfl⟩
      · skip
        replace h84 := fun q => h84 ((lg_cmp_eq _ _).mpr q)
        refine ru_lload d_Mo_isAhead_87 rfl ?_
        refine ru_lconst (v := 0) d_Mo_isAhead_89 (by decide) ?_
        refine ru_lcmp d_Mo_isAhead_90 ?_
        refine ru_if_le (tgt := 98) d_Mo_isAhead_91 (by decide) (fun h91 => ?_) (fun h91 => ?_)
        · skip
          replace h91 := (lg_cmp_le _ _).mp h91
          refine ru_iconst (v := 0) d_Mo_isAhead_98 (by decide) ?_
          refine ru_goto (tgt := 112) d_Mo_isAhead_99 (by decide) ?_
          refine ru_zret (ty := .boolean) d_Mo_isAhead_112 rfl rfl ?_
          first | exact ⟨by rw [bI_t (by grind)], rfl⟩ | exact ⟨by rw [bI_f (by grind)], rfl⟩
        · skip
          replace h91 := fun q => h91 ((lg_cmp_le _ _).mpr q)
          refine ru_iconst (v := 1) d_Mo_isAhead_94 (by decide) ?_
          refine ru_goto (tgt := 112) d_Mo_isAhead_95 (by decide) ?_
          refine ru_zret (ty := .boolean) d_Mo_isAhead_112 rfl rfl ?_
          first | exact ⟨by rw [bI_t (by grind)], rfl⟩ | exact ⟨by rw [bI_f (by grind)], rfl⟩
    · skip
      replace h35 := (lg_cmp_eq _ _).mp h35
      refine ru_iconst (v := 1) d_Mo_isAhead_38 (by decide) ?_
      refine ru_goto (tgt := 43) d_Mo_isAhead_39 (by decide) ?_
      refine ru_istore d_Mo_isAhead_43 (by decide) ?_
      refine ru_iload_n d_Mo_isAhead_45 rfl rfl ?_
      refine ru_iload d_Mo_isAhead_46 rfl ?_
      refine ru_icmp_eq (tgt := 53) d_Mo_isAhead_48 (by decide) (fun h48 => absurd h48 (by decide)) (fun h48 => ?_)
      refine ru_iload_n d_Mo_isAhead_51 rfl rfl ?_
      refine ru_zret (ty := .boolean) d_Mo_isAhead_52 rfl rfl ?_
      first | exact ⟨by rw [bI_t (by grind)], rfl⟩ | exact ⟨by rw [bI_f (by grind)], rfl⟩
  · skip
    replace h13 := (lg_cmp_eq _ _).mp h13
    refine ru_iconst (v := 1) d_Mo_isAhead_16 (by decide) ?_
    refine ru_goto (tgt := 21) d_Mo_isAhead_17 (by decide) ?_
    refine ru_istore_n d_Mo_isAhead_21 rfl (by decide) ?_
    refine ru_aload_n d_Mo_isAhead_22 rfl rfl ?_
    refine ru_getR d_Mo_isAhead_23 lf_Mo_27 (ly hL 398 9 0) rfl (lr hL 398 8 404) ?_
    refine ru_bipush (v := 12) d_Mo_isAhead_26 (by decide) ?_
    refine ru_iload_n d_Mo_isAhead_28 rfl rfl ?_
    refine ru_imul d_Mo_isAhead_29 ?_
    refine ru_eqi (nm_mul 12 b : _ = nI (12 * b)) ?_
    refine ru_laldN (j := (12 * b)) d_Mo_isAhead_30 (ly hL 404 104 1440) (by omega) (by decide) ?_
    refine ru_ldc2 d_Mo_isAhead_31 lc_Mo_195 ?_
    refine ru_lcmp d_Mo_isAhead_34 ?_
    refine ru_if_ne (tgt := 42) d_Mo_isAhead_35 (by decide) (fun h35 => ?_) (fun h35 => ?_)
    · skip
      replace h35 := fun q => h35 ((lg_cmp_eq _ _).mpr q)
      refine ru_iconst (v := 0) d_Mo_isAhead_42 (by decide) ?_
      refine ru_istore d_Mo_isAhead_43 (by decide) ?_
      refine ru_iload_n d_Mo_isAhead_45 rfl rfl ?_
      refine ru_iload d_Mo_isAhead_46 rfl ?_
      refine ru_icmp_eq (tgt := 53) d_Mo_isAhead_48 (by decide) (fun h48 => absurd h48 (by decide)) (fun h48 => ?_)
      refine ru_iload_n d_Mo_isAhead_51 rfl rfl ?_
      refine ru_zret (ty := .boolean) d_Mo_isAhead_52 rfl rfl ?_
      first | exact ⟨by rw [bI_t (by grind)], rfl⟩ | exact ⟨by rw [bI_f (by grind)], rfl⟩
    · skip
      replace h35 := (lg_cmp_eq _ _).mp h35
      refine ru_iconst (v := 1) d_Mo_isAhead_38 (by decide) ?_
      refine ru_goto (tgt := 43) d_Mo_isAhead_39 (by decide) ?_
      refine ru_istore d_Mo_isAhead_43 (by decide) ?_
      refine ru_iload_n d_Mo_isAhead_45 rfl rfl ?_
      refine ru_iload d_Mo_isAhead_46 rfl ?_
      refine ru_icmp_eq (tgt := 53) d_Mo_isAhead_48 (by decide) (fun h48 => ?_) (fun h48 => absurd h48 (by decide))
      refine ru_aload_n d_Mo_isAhead_53 rfl rfl ?_
      refine ru_getR d_Mo_isAhead_54 lf_Mo_27 (ly hL 398 9 0) rfl (lr hL 398 8 404) ?_
      refine ru_bipush (v := 12) d_Mo_isAhead_57 (by decide) ?_
      refine ru_iload_n d_Mo_isAhead_59 rfl rfl ?_
      refine ru_imul d_Mo_isAhead_60 ?_
      refine ru_eqi (nm_mul 12 a : _ = nI (12 * a)) ?_
      refine ru_bipush (v := 7) d_Mo_isAhead_61 (by decide) ?_
      refine ru_iadd d_Mo_isAhead_63 ?_
      refine ru_eqi (nm_add (12 * a) 7 : _ = nI ((12 * a) + 7)) ?_
      refine ru_laldN (j := ((12 * a) + 7)) d_Mo_isAhead_64 (ly hL 404 104 1440) (by omega) (by decide) ?_
      refine ru_aload_n d_Mo_isAhead_65 rfl rfl ?_
      refine ru_getR d_Mo_isAhead_66 lf_Mo_27 (ly hL 398 9 0) rfl (lr hL 398 8 404) ?_
      refine ru_bipush (v := 12) d_Mo_isAhead_69 (by decide) ?_
      refine ru_iload_n d_Mo_isAhead_71 rfl rfl ?_
      refine ru_imul d_Mo_isAhead_72 ?_
      refine ru_eqi (nm_mul 12 b : _ = nI (12 * b)) ?_
      refine ru_bipush (v := 7) d_Mo_isAhead_73 (by decide) ?_
      refine ru_iadd d_Mo_isAhead_75 ?_
      refine ru_eqi (nm_add (12 * b) 7 : _ = nI ((12 * b) + 7)) ?_
      refine ru_laldN (j := ((12 * b) + 7)) d_Mo_isAhead_76 (ly hL 404 104 1440) (by omega) (by decide) ?_
      refine ru_lsub d_Mo_isAhead_77 ?_
      refine ru_lstore d_Mo_isAhead_78 (by decide) ?_
      refine ru_lload d_Mo_isAhead_80 rfl ?_
      refine ru_lconst (v := 0) d_Mo_isAhead_82 (by decide) ?_
      refine ru_lcmp d_Mo_isAhead_83 ?_
      refine ru_if_eq (tgt := 102) d_Mo_isAhead_84 (by decide) (fun h84 => ?_) (fun h84 => ?_)
      · skip
        replace h84 := (lg_cmp_eq _ _).mp h84
        refine ru_iload_n d_Mo_isAhead_102 rfl rfl ?_
        refine ru_iload_n d_Mo_isAhead_103 rfl rfl ?_
        refine ru_icmp_le (tgt := 111) d_Mo_isAhead_104 (by decide) (fun h104 => ?_) (fun h104 => ?_)
        · skip
          replace h104 := nm_le (a := a) (b := b) (by omega) (by omega) h104
          refine ru_iconst (v := 0) d_Mo_isAhead_111 (by decide) ?_
          refine ru_zret (ty := .boolean) d_Mo_isAhead_112 rfl rfl ?_
          first | exact ⟨by rw [bI_t (by grind)], rfl⟩ | exact ⟨by rw [bI_f (by grind)], rfl⟩
        · skip
          replace h104 := nm_nle (a := a) (b := b) (by omega) (by omega) h104
          refine ru_iconst (v := 1) d_Mo_isAhead_107 (by decide) ?_
          refine ru_goto (tgt := 112) d_Mo_isAhead_108 (by decide) ?_
          refine ru_zret (ty := .boolean) d_Mo_isAhead_112 rfl rfl ?_
          first | exact ⟨by rw [bI_t (by grind)], rfl⟩ | exact ⟨by rw [bI_f (by grind)], rfl⟩
      · skip
        replace h84 := fun q => h84 ((lg_cmp_eq _ _).mpr q)
        refine ru_lload d_Mo_isAhead_87 rfl ?_
        refine ru_lconst (v := 0) d_Mo_isAhead_89 (by decide) ?_
        refine ru_lcmp d_Mo_isAhead_90 ?_
        refine ru_if_le (tgt := 98) d_Mo_isAhead_91 (by decide) (fun h91 => ?_) (fun h91 => ?_)
        · skip
          replace h91 := (lg_cmp_le _ _).mp h91
          refine ru_iconst (v := 0) d_Mo_isAhead_98 (by decide) ?_
          refine ru_goto (tgt := 112) d_Mo_isAhead_99 (by decide) ?_
          refine ru_zret (ty := .boolean) d_Mo_isAhead_112 rfl rfl ?_
          first | exact ⟨by rw [bI_t (by grind)], rfl⟩ | exact ⟨by rw [bI_f (by grind)], rfl⟩
        · skip
          replace h91 := fun q => h91 ((lg_cmp_le _ _).mpr q)
          refine ru_iconst (v := 1) d_Mo_isAhead_94 (by decide) ?_
          refine ru_goto (tgt := 112) d_Mo_isAhead_95 (by decide) ?_
          refine ru_zret (ty := .boolean) d_Mo_isAhead_112 rfl rfl ?_
          first | exact ⟨by rw [bI_t (by grind)], rfl⟩ | exact ⟨by rw [bI_f (by grind)], rfl⟩
theorem sp_Mo_isLike {a b p q : Nat} (hL : LAY nx ct mr) (ha : a < 60) (hb : b < 60) (hp : p < 11) (hq : q < 11) : rx_Calls y_Mo_isLike M_Mo_isLike 0 0 0 [.ref 398, .int (nI a), .int (nI p), .int (nI b), .int (nI q)] (nx, ct, mi, ml, mr) (fun v τ => v = some (.int (bI (likeM (ml 404) (12 * a + p) (12 * b + q)))) ∧ τ = (nx, ct, mi, ml, mr)) := by
  refine rx_enter (by decide) rfl rfl (Nat.le_of_ble_eq_true rfl) ?_
  unfold likeM
  refine ru_aload_n d_Mo_isLike_0 rfl rfl ?_
  refine ru_getR d_Mo_isLike_1 lf_Mo_27 (ly hL 398 9 0) rfl (lr hL 398 8 404) ?_
  refine ru_bipush (v := 12) d_Mo_isLike_4 (by decide) ?_
  refine ru_iload_n d_Mo_isLike_6 rfl rfl ?_
  refine ru_imul d_Mo_isLike_7 ?_
  refine ru_eqi (nm_mul 12 a : _ = nI (12 * a)) ?_
  refine ru_iload_n d_Mo_isLike_8 rfl rfl ?_
  refine ru_iadd d_Mo_isLike_9 ?_
  refine ru_eqi (nm_add (12 * a) p : _ = nI ((12 * a) + p)) ?_
  refine ru_laldN (j := ((12 * a) + p)) d_Mo_isLike_10 (ly hL 404 104 1440) (by omega) (by decide) ?_
  refine ru_lconst (v := 0) d_Mo_isLike_11 (by decide) ?_
  refine ru_lcmp d_Mo_isLike_12 ?_
  refine ru_if_lt (tgt := 74) d_Mo_isLike_13 (by decide) (fun h13 => ?_) (fun h13 => ?_)
  · skip
    replace h13 := (lg_cmp_lt _ _).mp h13
    refine ru_iconst (v := 1) d_Mo_isLike_74 (by decide) ?_
    refine ru_goto (tgt := 79) d_Mo_isLike_75 (by decide) ?_
    refine ru_zret (ty := .boolean) d_Mo_isLike_79 rfl rfl ?_
    first | exact ⟨by rw [bI_t (by grind)], rfl⟩ | exact ⟨by rw [bI_f (by grind)], rfl⟩
  · skip
    replace h13 := fun q => h13 ((lg_cmp_lt _ _).mpr q)
    refine ru_aload_n d_Mo_isLike_16 rfl rfl ?_
    refine ru_getR d_Mo_isLike_17 lf_Mo_27 (ly hL 398 9 0) rfl (lr hL 398 8 404) ?_
    refine ru_bipush (v := 12) d_Mo_isLike_20 (by decide) ?_
    refine ru_iload_n d_Mo_isLike_22 rfl rfl ?_
    refine ru_imul d_Mo_isLike_23 ?_
    refine ru_eqi (nm_mul 12 a : _ = nI (12 * a)) ?_
    refine ru_iload_n d_Mo_isLike_24 rfl rfl ?_
    refine ru_iadd d_Mo_isLike_25 ?_
    refine ru_eqi (nm_add (12 * a) p : _ = nI ((12 * a) + p)) ?_
    refine ru_laldN (j := ((12 * a) + p)) d_Mo_isLike_26 (ly hL 404 104 1440) (by omega) (by decide) ?_
    refine ru_aload_n d_Mo_isLike_27 rfl rfl ?_
    refine ru_getR d_Mo_isLike_28 lf_Mo_27 (ly hL 398 9 0) rfl (lr hL 398 8 404) ?_
    refine ru_bipush (v := 12) d_Mo_isLike_31 (by decide) ?_
    refine ru_iload_n d_Mo_isLike_33 rfl rfl ?_
    refine ru_imul d_Mo_isLike_34 ?_
    refine ru_eqi (nm_mul 12 b : _ = nI (12 * b)) ?_
    refine ru_iload d_Mo_isLike_35 rfl ?_
    refine ru_iadd d_Mo_isLike_37 ?_
    refine ru_eqi (nm_add (12 * b) q : _ = nI ((12 * b) + q)) ?_
    refine ru_laldN (j := ((12 * b) + q)) d_Mo_isLike_38 (ly hL 404 104 1440) (by omega) (by decide) ?_
    refine ru_lcmp d_Mo_isLike_39 ?_
    refine ru_if_ne (tgt := 78) d_Mo_isLike_40 (by decide) (fun h40 => ?_) (fun h40 => ?_)
    · skip
      replace h40 := fun q => h40 ((lg_cmp_eq _ _).mpr q)
      refine ru_iconst (v := 0) d_Mo_isLike_78 (by decide) ?_
      refine ru_zret (ty := .boolean) d_Mo_isLike_79 rfl rfl ?_
      first | exact ⟨by rw [bI_t (by grind)], rfl⟩ | exact ⟨by rw [bI_f (by grind)], rfl⟩
    · skip
      replace h40 := (lg_cmp_eq _ _).mp h40
      refine ru_aload_n d_Mo_isLike_43 rfl rfl ?_
      refine ru_getR d_Mo_isLike_44 lf_Mo_27 (ly hL 398 9 0) rfl (lr hL 398 8 404) ?_
      refine ru_bipush (v := 12) d_Mo_isLike_47 (by decide) ?_
      refine ru_iload_n d_Mo_isLike_49 rfl rfl ?_
      refine ru_imul d_Mo_isLike_50 ?_
      refine ru_eqi (nm_mul 12 a : _ = nI (12 * a)) ?_
      refine ru_iload_n d_Mo_isLike_51 rfl rfl ?_
      refine ru_iadd d_Mo_isLike_52 ?_
      refine ru_eqi (nm_add (12 * a) p : _ = nI ((12 * a) + p)) ?_
      refine ru_iconst (v := 1) d_Mo_isLike_53 (by decide) ?_
      refine ru_iadd d_Mo_isLike_54 ?_
      refine ru_eqi (nm_add ((12 * a) + p) 1 : _ = nI (((12 * a) + p) + 1)) ?_
      refine ru_laldN (j := (((12 * a) + p) + 1)) d_Mo_isLike_55 (ly hL 404 104 1440) (by omega) (by decide) ?_
      refine ru_aload_n d_Mo_isLike_56 rfl rfl ?_
      refine ru_getR d_Mo_isLike_57 lf_Mo_27 (ly hL 398 9 0) rfl (lr hL 398 8 404) ?_
      refine ru_bipush (v := 12) d_Mo_isLike_60 (by decide) ?_
      refine ru_iload_n d_Mo_isLike_62 rfl rfl ?_
      refine ru_imul d_Mo_isLike_63 ?_
      refine ru_eqi (nm_mul 12 b : _ = nI (12 * b)) ?_
      refine ru_iload d_Mo_isLike_64 rfl ?_
      refine ru_iadd d_Mo_isLike_66 ?_
      refine ru_eqi (nm_add (12 * b) q : _ = nI ((12 * b) + q)) ?_
      refine ru_iconst (v := 1) d_Mo_isLike_67 (by decide) ?_
      refine ru_iadd d_Mo_isLike_68 ?_
      refine ru_eqi (nm_add ((12 * b) + q) 1 : _ = nI (((12 * b) + q) + 1)) ?_
      refine ru_laldN (j := (((12 * b) + q) + 1)) d_Mo_isLike_69 (ly hL 404 104 1440) (by omega) (by decide) ?_
      refine ru_lcmp d_Mo_isLike_70 ?_
      refine ru_if_ne (tgt := 78) d_Mo_isLike_71 (by decide) (fun h71 => ?_) (fun h71 => ?_)
      · skip
        replace h71 := fun q => h71 ((lg_cmp_eq _ _).mpr q)
        refine ru_iconst (v := 0) d_Mo_isLike_78 (by decide) ?_
        refine ru_zret (ty := .boolean) d_Mo_isLike_79 rfl rfl ?_
        first | exact ⟨by rw [bI_t (by grind)], rfl⟩ | exact ⟨by rw [bI_f (by grind)], rfl⟩
      · skip
        replace h71 := (lg_cmp_eq _ _).mp h71
        refine ru_iconst (v := 1) d_Mo_isLike_74 (by decide) ?_
        refine ru_goto (tgt := 79) d_Mo_isLike_75 (by decide) ?_
        refine ru_zret (ty := .boolean) d_Mo_isLike_79 rfl rfl ?_
        first | exact ⟨by rw [bI_t (by grind)], rfl⟩ | exact ⟨by rw [bI_f (by grind)], rfl⟩
theorem sp_Mo_holds {za zb : Int32} (hL : LAY nx ct mr) (ha : isArea za) (hb : isArea zb) : rx_Calls y_Mo_holds M_Mo_holds 0 0 0 [.ref 398, .long za.toInt64, .long zb.toInt64] (nx, ct, mi, ml, mr) (fun v τ => v = some (.int (bI (holdsM (mi 402) (ml 403) za zb))) ∧ τ = (nx, ct, mi, ml, mr)) := by
  refine rx_enter (by decide) rfl rfl (Nat.le_of_ble_eq_true rfl) ?_
  unfold holdsM
  refine ru_lload_n d_Mo_holds_0 rfl rfl ?_
  refine ru_lconst (v := 0) d_Mo_holds_1 (by decide) ?_
  refine ru_lcmp d_Mo_holds_2 ?_
  refine ru_if_lt (tgt := 12) d_Mo_holds_3 (by decide) (fun h3 => ?_) (fun h3 => ?_)
  · skip
    replace h3 := (lg_cmp_lt _ _).mp h3
    refine ru_iconst (v := 1) d_Mo_holds_12 (by decide) ?_
    refine ru_zret (ty := .boolean) d_Mo_holds_13 rfl rfl ?_
    first | exact ⟨by rw [bI_t (by grind)], rfl⟩ | exact ⟨by rw [bI_f (by grind)], rfl⟩
  · skip
    replace h3 := fun q => h3 ((lg_cmp_lt _ _).mpr q)
    refine ru_lload_n d_Mo_holds_6 rfl rfl ?_
    refine ru_lload_n d_Mo_holds_7 rfl rfl ?_
    refine ru_lcmp d_Mo_holds_8 ?_
    refine ru_if_ne (tgt := 14) d_Mo_holds_9 (by decide) (fun h9 => ?_) (fun h9 => ?_)
    · skip
      replace h9 := fun q => h9 ((lg_cmp_eq _ _).mpr q)
      refine ru_lload_n d_Mo_holds_14 rfl rfl ?_
      refine ru_lconst (v := 0) d_Mo_holds_15 (by decide) ?_
      refine ru_lcmp d_Mo_holds_16 ?_
      refine ru_if_lt (tgt := 40) d_Mo_holds_17 (by decide) (fun h17 => ?_) (fun h17 => ?_)
      · skip
        replace h17 := (lg_cmp_lt _ _).mp h17
        refine ru_iconst (v := 0) d_Mo_holds_40 (by decide) ?_
        refine ru_zret (ty := .boolean) d_Mo_holds_41 rfl rfl ?_
        first | exact ⟨by rw [bI_t (by grind)], rfl⟩ | exact ⟨by rw [bI_f (by grind)], rfl⟩
      · skip
        replace h17 := fun q => h17 ((lg_cmp_lt _ _).mpr q)
        refine ru_aload_n d_Mo_holds_20 rfl rfl ?_
        refine ru_getR d_Mo_holds_21 lf_Mo_19 (ly hL 398 9 0) rfl (lr hL 398 5 402) ?_
        refine ru_lload_n d_Mo_holds_24 rfl rfl ?_
        refine ru_l2i d_Mo_holds_25 ?_
        refine ru_eqi (ll_32 _) ?_
        obtain ⟨x, hx, rfl⟩ := ha.pos h3
        rw [nI_clamp (show x < 2 ^ 31 by omega)]
        refine ru_eqi rfl ?_
        refine ru_zaldN (j := x) d_Mo_holds_26 (ly hL 402 102 16) (by omega) (by decide) ?_
        refine ru_if_eq (tgt := 40) d_Mo_holds_27 (by decide) (fun h27 => ?_) (fun h27 => ?_)
        · skip
          refine ru_iconst (v := 0) d_Mo_holds_40 (by decide) ?_
          refine ru_zret (ty := .boolean) d_Mo_holds_41 rfl rfl ?_
          first | exact ⟨by rw [bI_t (by grind)], rfl⟩ | exact ⟨by rw [bI_f (by grind)], rfl⟩
        · skip
          refine ru_aload_n d_Mo_holds_30 rfl rfl ?_
          refine ru_getR d_Mo_holds_31 lf_Mo_19 (ly hL 398 9 0) rfl (lr hL 398 5 402) ?_
          refine ru_lload_n d_Mo_holds_34 rfl rfl ?_
          refine ru_l2i d_Mo_holds_35 ?_
          refine ru_eqi (ll_32 _) ?_
          obtain ⟨y, hy, rfl⟩ := hb.pos h17
          rw [nI_clamp (show y < 2 ^ 31 by omega)]
          refine ru_eqi rfl ?_
          refine ru_zaldN (j := y) d_Mo_holds_36 (ly hL 402 102 16) (by omega) (by decide) ?_
          refine ru_if_ne (tgt := 42) d_Mo_holds_37 (by decide) (fun h37 => ?_) (fun h37 => ?_)
          · skip
            refine ru_iconst (v := 4) d_Mo_holds_42 (by decide) ?_
            refine ru_lload_n d_Mo_holds_43 rfl rfl ?_
            refine ru_l2i d_Mo_holds_44 ?_
            refine ru_eqi (ll_32 _) ?_
            refine ru_imul d_Mo_holds_45 ?_
            refine ru_eqi (nm_mul 4 x : _ = nI (4 * x)) ?_
            refine ru_istore d_Mo_holds_46 (by decide) ?_
            refine ru_iconst (v := 4) d_Mo_holds_48 (by decide) ?_
            refine ru_lload_n d_Mo_holds_49 rfl rfl ?_
            refine ru_l2i d_Mo_holds_50 ?_
            refine ru_eqi (ll_32 _) ?_
            refine ru_imul d_Mo_holds_51 ?_
            refine ru_eqi (nm_mul 4 y : _ = nI (4 * y)) ?_
            refine ru_istore d_Mo_holds_52 (by decide) ?_
            refine ru_aload_n d_Mo_holds_54 rfl rfl ?_
            refine ru_getR d_Mo_holds_55 lf_Mo_23 (ly hL 398 9 0) rfl (lr hL 398 6 403) ?_
            refine ru_iload d_Mo_holds_58 rfl ?_
            refine ru_laldN (j := (4 * x)) d_Mo_holds_60 (ly hL 403 104 64) (by omega) (by decide) ?_
            refine ru_aload_n d_Mo_holds_61 rfl rfl ?_
            refine ru_getR d_Mo_holds_62 lf_Mo_23 (ly hL 398 9 0) rfl (lr hL 398 6 403) ?_
            refine ru_iload d_Mo_holds_65 rfl ?_
            refine ru_laldN (j := (4 * y)) d_Mo_holds_67 (ly hL 403 104 64) (by omega) (by decide) ?_
            refine ru_lcmp d_Mo_holds_68 ?_
            refine ru_if_gt (tgt := 142) d_Mo_holds_69 (by decide) (fun h69 => ?_) (fun h69 => ?_)
            · skip
              replace h69 := (lg_cmp_gt _ _).mp h69
              refine ru_iconst (v := 0) d_Mo_holds_142 (by decide) ?_
              refine ru_zret (ty := .boolean) d_Mo_holds_143 rfl rfl ?_
              first | exact ⟨by rw [bI_t (by grind)], rfl⟩ | exact ⟨by rw [bI_f (by grind)], rfl⟩
            · skip
              replace h69 := fun q => h69 ((lg_cmp_gt _ _).mpr q)
              refine ru_aload_n d_Mo_holds_72 rfl rfl ?_
              refine ru_getR d_Mo_holds_73 lf_Mo_23 (ly hL 398 9 0) rfl (lr hL 398 6 403) ?_
              refine ru_iload d_Mo_holds_76 rfl ?_
              refine ru_iconst (v := 1) d_Mo_holds_78 (by decide) ?_
              refine ru_iadd d_Mo_holds_79 ?_
              refine ru_eqi (nm_add (4 * x) 1 : _ = nI ((4 * x) + 1)) ?_
              refine ru_laldN (j := ((4 * x) + 1)) d_Mo_holds_80 (ly hL 403 104 64) (by omega) (by decide) ?_
              refine ru_aload_n d_Mo_holds_81 rfl rfl ?_
              refine ru_getR d_Mo_holds_82 lf_Mo_23 (ly hL 398 9 0) rfl (lr hL 398 6 403) ?_
              refine ru_iload d_Mo_holds_85 rfl ?_
              refine ru_iconst (v := 1) d_Mo_holds_87 (by decide) ?_
              refine ru_iadd d_Mo_holds_88 ?_
              refine ru_eqi (nm_add (4 * y) 1 : _ = nI ((4 * y) + 1)) ?_
              refine ru_laldN (j := ((4 * y) + 1)) d_Mo_holds_89 (ly hL 403 104 64) (by omega) (by decide) ?_
              refine ru_lcmp d_Mo_holds_90 ?_
              refine ru_if_gt (tgt := 142) d_Mo_holds_91 (by decide) (fun h91 => ?_) (fun h91 => ?_)
              · skip
                replace h91 := (lg_cmp_gt _ _).mp h91
                refine ru_iconst (v := 0) d_Mo_holds_142 (by decide) ?_
                refine ru_zret (ty := .boolean) d_Mo_holds_143 rfl rfl ?_
                first | exact ⟨by rw [bI_t (by grind)], rfl⟩ | exact ⟨by rw [bI_f (by grind)], rfl⟩
              · skip
                replace h91 := fun q => h91 ((lg_cmp_gt _ _).mpr q)
                refine ru_aload_n d_Mo_holds_94 rfl rfl ?_
                refine ru_getR d_Mo_holds_95 lf_Mo_23 (ly hL 398 9 0) rfl (lr hL 398 6 403) ?_
                refine ru_iload d_Mo_holds_98 rfl ?_
                refine ru_iconst (v := 2) d_Mo_holds_100 (by decide) ?_
                refine ru_iadd d_Mo_holds_101 ?_
                refine ru_eqi (nm_add (4 * x) 2 : _ = nI ((4 * x) + 2)) ?_
                refine ru_laldN (j := ((4 * x) + 2)) d_Mo_holds_102 (ly hL 403 104 64) (by omega) (by decide) ?_
                refine ru_aload_n d_Mo_holds_103 rfl rfl ?_
                refine ru_getR d_Mo_holds_104 lf_Mo_23 (ly hL 398 9 0) rfl (lr hL 398 6 403) ?_
                refine ru_iload d_Mo_holds_107 rfl ?_
                refine ru_iconst (v := 2) d_Mo_holds_109 (by decide) ?_
                refine ru_iadd d_Mo_holds_110 ?_
                refine ru_eqi (nm_add (4 * y) 2 : _ = nI ((4 * y) + 2)) ?_
                refine ru_laldN (j := ((4 * y) + 2)) d_Mo_holds_111 (ly hL 403 104 64) (by omega) (by decide) ?_
                refine ru_lcmp d_Mo_holds_112 ?_
                refine ru_if_lt (tgt := 142) d_Mo_holds_113 (by decide) (fun h113 => ?_) (fun h113 => ?_)
                · skip
                  replace h113 := (lg_cmp_lt _ _).mp h113
                  refine ru_iconst (v := 0) d_Mo_holds_142 (by decide) ?_
                  refine ru_zret (ty := .boolean) d_Mo_holds_143 rfl rfl ?_
                  first | exact ⟨by rw [bI_t (by grind)], rfl⟩ | exact ⟨by rw [bI_f (by grind)], rfl⟩
                · skip
                  replace h113 := fun q => h113 ((lg_cmp_lt _ _).mpr q)
                  refine ru_aload_n d_Mo_holds_116 rfl rfl ?_
                  refine ru_getR d_Mo_holds_117 lf_Mo_23 (ly hL 398 9 0) rfl (lr hL 398 6 403) ?_
                  refine ru_iload d_Mo_holds_120 rfl ?_
                  refine ru_iconst (v := 3) d_Mo_holds_122 (by decide) ?_
                  refine ru_iadd d_Mo_holds_123 ?_
                  refine ru_eqi (nm_add (4 * x) 3 : _ = nI ((4 * x) + 3)) ?_
                  refine ru_laldN (j := ((4 * x) + 3)) d_Mo_holds_124 (ly hL 403 104 64) (by omega) (by decide) ?_
                  refine ru_aload_n d_Mo_holds_125 rfl rfl ?_
                  refine ru_getR d_Mo_holds_126 lf_Mo_23 (ly hL 398 9 0) rfl (lr hL 398 6 403) ?_
                  refine ru_iload d_Mo_holds_129 rfl ?_
                  refine ru_iconst (v := 3) d_Mo_holds_131 (by decide) ?_
                  refine ru_iadd d_Mo_holds_132 ?_
                  refine ru_eqi (nm_add (4 * y) 3 : _ = nI ((4 * y) + 3)) ?_
                  refine ru_laldN (j := ((4 * y) + 3)) d_Mo_holds_133 (ly hL 403 104 64) (by omega) (by decide) ?_
                  refine ru_lcmp d_Mo_holds_134 ?_
                  refine ru_if_lt (tgt := 142) d_Mo_holds_135 (by decide) (fun h135 => ?_) (fun h135 => ?_)
                  · skip
                    replace h135 := (lg_cmp_lt _ _).mp h135
                    refine ru_iconst (v := 0) d_Mo_holds_142 (by decide) ?_
                    refine ru_zret (ty := .boolean) d_Mo_holds_143 rfl rfl ?_
                    first | exact ⟨by rw [bI_t (by grind)], rfl⟩ | exact ⟨by rw [bI_f (by grind)], rfl⟩
                  · skip
                    replace h135 := fun q => h135 ((lg_cmp_lt _ _).mpr q)
                    refine ru_iconst (v := 1) d_Mo_holds_138 (by decide) ?_
                    refine ru_goto (tgt := 143) d_Mo_holds_139 (by decide) ?_
                    refine ru_zret (ty := .boolean) d_Mo_holds_143 rfl rfl ?_
                    first | exact ⟨by rw [bI_t (by grind)], rfl⟩ | exact ⟨by rw [bI_f (by grind)], rfl⟩
          · skip
            refine ru_iconst (v := 0) d_Mo_holds_40 (by decide) ?_
            refine ru_zret (ty := .boolean) d_Mo_holds_41 rfl rfl ?_
            first | exact ⟨by rw [bI_t (by grind)], rfl⟩ | exact ⟨by rw [bI_f (by grind)], rfl⟩
    · skip
      replace h9 := (lg_cmp_eq _ _).mp h9
      refine ru_iconst (v := 1) d_Mo_holds_12 (by decide) ?_
      refine ru_zret (ty := .boolean) d_Mo_holds_13 rfl rfl ?_
      first | exact ⟨by rw [bI_t (by grind)], rfl⟩ | exact ⟨by rw [bI_f (by grind)], rfl⟩
theorem sp_Mo_covers {za zb : Int32} {a b : Nat} (hL : LAY nx ct mr) (ha : a < 60) (hb : b < 60) (hza : ml 404 (12 * a + 6) = za.toInt64) (hzb : ml 404 (12 * b + 6) = zb.toInt64) (hA : isArea za) (hB : isArea zb) : rx_Calls y_Mo_covers M_Mo_covers 1 0 0 [.ref 398, .int (nI a), .int (nI b)] (nx, ct, mi, ml, mr) (fun v τ => v = some (.int (bI (coversM (mi 402) (ml 403) (ml 404) za zb a b))) ∧ τ = (nx, ct, mi, ml, mr)) := by
  refine rx_enter (by decide) rfl rfl (Nat.le_of_ble_eq_true rfl) ?_
  unfold coversM
  have fin : ∀ g : Int32, g = bI (thingsM (ml 404) a b) → (ml 404 (12 * a) = ml 404 (12 * b) ∨ (ml 404 (12 * a) = 12 ∧ ml 404 (12 * b) = 0)) → rx_W M_Mo_covers 1 0 0 114 [(0, .ref 398), (1, .int (nI a)), (2, .int (nI b)), (7, .int g)] [] (nx, ct, mi, ml, mr) (pR (fun v τ => v = some (.int (bI ((ml 404 (12 * a) = ml 404 (12 * b) ∨ (ml 404 (12 * a) = 12 ∧ ml 404 (12 * b) = 0)) ∧ thingsM (ml 404) a b ∧ (ml 404 (12 * a + 5) = 0 ∨ ml 404 (12 * a + 5) = ml 404 (12 * b + 5)) ∧ holdsM (mi 402) (ml 403) za zb))) ∧ τ = (nx, ct, mi, ml, mr))) := by
    intro g hg hk
    subst hg
    refine ru_aload_n d_Mo_covers_114 rfl rfl ?_
    refine ru_getR d_Mo_covers_115 lf_Mo_27 (ly hL 398 9 0) rfl (lr hL 398 8 404) ?_
    refine ru_bipush (v := 12) d_Mo_covers_118 (by decide) ?_
    refine ru_iload_n d_Mo_covers_120 rfl rfl ?_
    refine ru_imul d_Mo_covers_121 ?_
    refine ru_eqi (nm_mul 12 a : _ = nI (12 * a)) ?_
    refine ru_iconst (v := 5) d_Mo_covers_122 (by decide) ?_
    refine ru_iadd d_Mo_covers_123 ?_
    refine ru_eqi (nm_add (12 * a) 5 : _ = nI ((12 * a) + 5)) ?_
    refine ru_laldN (j := ((12 * a) + 5)) d_Mo_covers_124 (ly hL 404 104 1440) (by omega) (by decide) ?_
    refine ru_lstore d_Mo_covers_125 (by decide) ?_
    refine ru_iload d_Mo_covers_127 rfl ?_
    refine ru_if_eq (tgt := 191) d_Mo_covers_129 (by decide) (fun h129 => ?_) (fun h129 => ?_)
    · skip
      replace h129 := bI_eq0.mp h129
      refine ru_iconst (v := 0) d_Mo_covers_191 (by decide) ?_
      refine ru_zret (ty := .boolean) d_Mo_covers_192 rfl rfl ?_
      first | exact ⟨by rw [bI_t (by grind)], rfl⟩ | exact ⟨by rw [bI_f (by grind)], rfl⟩
    · skip
      replace h129 := bI_ne0.mp h129
      refine ru_lload d_Mo_covers_132 rfl ?_
      refine ru_lconst (v := 0) d_Mo_covers_134 (by decide) ?_
      refine ru_lcmp d_Mo_covers_135 ?_
      refine ru_if_eq (tgt := 156) d_Mo_covers_136 (by decide) (fun h136 => ?_) (fun h136 => ?_)
      · skip
        replace h136 := (lg_cmp_eq _ _).mp h136
        refine ru_aload_n d_Mo_covers_156 rfl rfl ?_
        refine ru_aload_n d_Mo_covers_157 rfl rfl ?_
        refine ru_getR d_Mo_covers_158 lf_Mo_27 (ly hL 398 9 0) rfl (lr hL 398 8 404) ?_
        refine ru_bipush (v := 12) d_Mo_covers_161 (by decide) ?_
        refine ru_iload_n d_Mo_covers_163 rfl rfl ?_
        refine ru_imul d_Mo_covers_164 ?_
        refine ru_eqi (nm_mul 12 a : _ = nI (12 * a)) ?_
        refine ru_bipush (v := 6) d_Mo_covers_165 (by decide) ?_
        refine ru_iadd d_Mo_covers_167 ?_
        refine ru_eqi (nm_add (12 * a) 6 : _ = nI ((12 * a) + 6)) ?_
        refine ru_laldN (j := ((12 * a) + 6)) d_Mo_covers_168 (ly hL 404 104 1440) (by omega) (by decide) ?_
        refine ru_eql hza ?_
        refine ru_aload_n d_Mo_covers_169 rfl rfl ?_
        refine ru_getR d_Mo_covers_170 lf_Mo_27 (ly hL 398 9 0) rfl (lr hL 398 8 404) ?_
        refine ru_bipush (v := 12) d_Mo_covers_173 (by decide) ?_
        refine ru_iload_n d_Mo_covers_175 rfl rfl ?_
        refine ru_imul d_Mo_covers_176 ?_
        refine ru_eqi (nm_mul 12 b : _ = nI (12 * b)) ?_
        refine ru_bipush (v := 6) d_Mo_covers_177 (by decide) ?_
        refine ru_iadd d_Mo_covers_179 ?_
        refine ru_eqi (nm_add (12 * b) 6 : _ = nI ((12 * b) + 6)) ?_
        refine ru_laldN (j := ((12 * b) + 6)) d_Mo_covers_180 (ly hL 404 104 1440) (by omega) (by decide) ?_
        refine ru_eql hzb ?_
        refine ru_callV (mc := 0) (ms := 0) d_Mo_covers_181 lm_Mo_205 (sp_Mo_holds hL hA hB) (rx_recv_is (ly hL 398 9 0) kx_Mo) (by decide) rfl (by decide) ?_
        intro v τ h
        obtain ⟨rfl, rfl⟩ := h
        refine ru_if_eq (tgt := 191) d_Mo_covers_184 (by decide) (fun h184 => ?_) (fun h184 => ?_)
        · skip
          replace h184 := bI_eq0.mp h184
          refine ru_iconst (v := 0) d_Mo_covers_191 (by decide) ?_
          refine ru_zret (ty := .boolean) d_Mo_covers_192 rfl rfl ?_
          first | exact ⟨by rw [bI_t (by grind)], rfl⟩ | exact ⟨by rw [bI_f (by grind)], rfl⟩
        · skip
          replace h184 := bI_ne0.mp h184
          refine ru_iconst (v := 1) d_Mo_covers_187 (by decide) ?_
          refine ru_goto (tgt := 192) d_Mo_covers_188 (by decide) ?_
          refine ru_zret (ty := .boolean) d_Mo_covers_192 rfl rfl ?_
          first | exact ⟨by rw [bI_t (by grind)], rfl⟩ | exact ⟨by rw [bI_f (by grind)], rfl⟩
      · skip
        replace h136 := fun q => h136 ((lg_cmp_eq _ _).mpr q)
        refine ru_lload d_Mo_covers_139 rfl ?_
        refine ru_aload_n d_Mo_covers_141 rfl rfl ?_
        refine ru_getR d_Mo_covers_142 lf_Mo_27 (ly hL 398 9 0) rfl (lr hL 398 8 404) ?_
        refine ru_bipush (v := 12) d_Mo_covers_145 (by decide) ?_
        refine ru_iload_n d_Mo_covers_147 rfl rfl ?_
        refine ru_imul d_Mo_covers_148 ?_
        refine ru_eqi (nm_mul 12 b : _ = nI (12 * b)) ?_
        refine ru_iconst (v := 5) d_Mo_covers_149 (by decide) ?_
        refine ru_iadd d_Mo_covers_150 ?_
        refine ru_eqi (nm_add (12 * b) 5 : _ = nI ((12 * b) + 5)) ?_
        refine ru_laldN (j := ((12 * b) + 5)) d_Mo_covers_151 (ly hL 404 104 1440) (by omega) (by decide) ?_
        refine ru_lcmp d_Mo_covers_152 ?_
        refine ru_if_ne (tgt := 191) d_Mo_covers_153 (by decide) (fun h153 => ?_) (fun h153 => ?_)
        · skip
          replace h153 := fun q => h153 ((lg_cmp_eq _ _).mpr q)
          refine ru_iconst (v := 0) d_Mo_covers_191 (by decide) ?_
          refine ru_zret (ty := .boolean) d_Mo_covers_192 rfl rfl ?_
          first | exact ⟨by rw [bI_t (by grind)], rfl⟩ | exact ⟨by rw [bI_f (by grind)], rfl⟩
        · skip
          replace h153 := (lg_cmp_eq _ _).mp h153
          refine ru_aload_n d_Mo_covers_156 rfl rfl ?_
          refine ru_aload_n d_Mo_covers_157 rfl rfl ?_
          refine ru_getR d_Mo_covers_158 lf_Mo_27 (ly hL 398 9 0) rfl (lr hL 398 8 404) ?_
          refine ru_bipush (v := 12) d_Mo_covers_161 (by decide) ?_
          refine ru_iload_n d_Mo_covers_163 rfl rfl ?_
          refine ru_imul d_Mo_covers_164 ?_
          refine ru_eqi (nm_mul 12 a : _ = nI (12 * a)) ?_
          refine ru_bipush (v := 6) d_Mo_covers_165 (by decide) ?_
          refine ru_iadd d_Mo_covers_167 ?_
          refine ru_eqi (nm_add (12 * a) 6 : _ = nI ((12 * a) + 6)) ?_
          refine ru_laldN (j := ((12 * a) + 6)) d_Mo_covers_168 (ly hL 404 104 1440) (by omega) (by decide) ?_
          refine ru_eql hza ?_
          refine ru_aload_n d_Mo_covers_169 rfl rfl ?_
          refine ru_getR d_Mo_covers_170 lf_Mo_27 (ly hL 398 9 0) rfl (lr hL 398 8 404) ?_
          refine ru_bipush (v := 12) d_Mo_covers_173 (by decide) ?_
          refine ru_iload_n d_Mo_covers_175 rfl rfl ?_
          refine ru_imul d_Mo_covers_176 ?_
          refine ru_eqi (nm_mul 12 b : _ = nI (12 * b)) ?_
          refine ru_bipush (v := 6) d_Mo_covers_177 (by decide) ?_
          refine ru_iadd d_Mo_covers_179 ?_
          refine ru_eqi (nm_add (12 * b) 6 : _ = nI ((12 * b) + 6)) ?_
          refine ru_laldN (j := ((12 * b) + 6)) d_Mo_covers_180 (ly hL 404 104 1440) (by omega) (by decide) ?_
          refine ru_eql hzb ?_
          refine ru_callV (mc := 0) (ms := 0) d_Mo_covers_181 lm_Mo_205 (sp_Mo_holds hL hA hB) (rx_recv_is (ly hL 398 9 0) kx_Mo) (by decide) rfl (by decide) ?_
          intro v τ h
          obtain ⟨rfl, rfl⟩ := h
          refine ru_if_eq (tgt := 191) d_Mo_covers_184 (by decide) (fun h184 => ?_) (fun h184 => ?_)
          · skip
            replace h184 := bI_eq0.mp h184
            refine ru_iconst (v := 0) d_Mo_covers_191 (by decide) ?_
            refine ru_zret (ty := .boolean) d_Mo_covers_192 rfl rfl ?_
            first | exact ⟨by rw [bI_t (by grind)], rfl⟩ | exact ⟨by rw [bI_f (by grind)], rfl⟩
          · skip
            replace h184 := bI_ne0.mp h184
            refine ru_iconst (v := 1) d_Mo_covers_187 (by decide) ?_
            refine ru_goto (tgt := 192) d_Mo_covers_188 (by decide) ?_
            refine ru_zret (ty := .boolean) d_Mo_covers_192 rfl rfl ?_
            first | exact ⟨by rw [bI_t (by grind)], rfl⟩ | exact ⟨by rw [bI_f (by grind)], rfl⟩
  refine ru_aload_n d_Mo_covers_0 rfl rfl ?_
  refine ru_getR d_Mo_covers_1 lf_Mo_27 (ly hL 398 9 0) rfl (lr hL 398 8 404) ?_
  refine ru_bipush (v := 12) d_Mo_covers_4 (by decide) ?_
  refine ru_iload_n d_Mo_covers_6 rfl rfl ?_
  refine ru_imul d_Mo_covers_7 ?_
  refine ru_eqi (nm_mul 12 a : _ = nI (12 * a)) ?_
  refine ru_laldN (j := (12 * a)) d_Mo_covers_8 (ly hL 404 104 1440) (by omega) (by decide) ?_
  refine ru_lstore_n d_Mo_covers_9 rfl (by decide) ?_
  refine ru_aload_n d_Mo_covers_10 rfl rfl ?_
  refine ru_getR d_Mo_covers_11 lf_Mo_27 (ly hL 398 9 0) rfl (lr hL 398 8 404) ?_
  refine ru_bipush (v := 12) d_Mo_covers_14 (by decide) ?_
  refine ru_iload_n d_Mo_covers_16 rfl rfl ?_
  refine ru_imul d_Mo_covers_17 ?_
  refine ru_eqi (nm_mul 12 b : _ = nI (12 * b)) ?_
  refine ru_laldN (j := (12 * b)) d_Mo_covers_18 (ly hL 404 104 1440) (by omega) (by decide) ?_
  refine ru_lstore d_Mo_covers_19 (by decide) ?_
  refine ru_lload_n d_Mo_covers_21 rfl rfl ?_
  refine ru_lload d_Mo_covers_22 rfl ?_
  refine ru_lcmp d_Mo_covers_24 ?_
  refine ru_if_eq (tgt := 45) d_Mo_covers_25 (by decide) (fun h25 => ?_) (fun h25 => ?_)
  · skip
    replace h25 := (lg_cmp_eq _ _).mp h25
    refine ru_aload_n d_Mo_covers_45 rfl rfl ?_
    refine ru_iload_n d_Mo_covers_46 rfl rfl ?_
    refine ru_iconst (v := 1) d_Mo_covers_47 (by decide) ?_
    refine ru_iload_n d_Mo_covers_48 rfl rfl ?_
    refine ru_iconst (v := 1) d_Mo_covers_49 (by decide) ?_
    refine ru_callV (mc := 0) (ms := 0) d_Mo_covers_50 lm_Mo_201 (sp_Mo_isLike hL ha hb (by decide) (by decide)) (rx_recv_is (ly hL 398 9 0) kx_Mo) (by decide) rfl (by decide) ?_
    intro v τ h
    obtain ⟨rfl, rfl⟩ := h
    refine ru_istore d_Mo_covers_53 (by decide) ?_
    refine ru_lload_n d_Mo_covers_55 rfl rfl ?_
    refine ru_lconst (v := 0) d_Mo_covers_56 (by decide) ?_
    refine ru_lcmp d_Mo_covers_57 ?_
    refine ru_if_eq (tgt := 69) d_Mo_covers_58 (by decide) (fun h58 => ?_) (fun h58 => ?_)
    · skip
      replace h58 := (lg_cmp_eq _ _).mp h58
      refine ru_iload d_Mo_covers_69 rfl ?_
      refine ru_if_eq (tgt := 85) d_Mo_covers_71 (by decide) (fun h71 => ?_) (fun h71 => ?_)
      · skip
        replace h71 := bI_eq0.mp h71
        refine ru_aload_n d_Mo_covers_85 rfl rfl ?_
        refine ru_iload_n d_Mo_covers_86 rfl rfl ?_
        refine ru_iconst (v := 1) d_Mo_covers_87 (by decide) ?_
        refine ru_iload_n d_Mo_covers_88 rfl rfl ?_
        refine ru_iconst (v := 3) d_Mo_covers_89 (by decide) ?_
        refine ru_callV (mc := 0) (ms := 0) d_Mo_covers_90 lm_Mo_201 (sp_Mo_isLike hL ha hb (by decide) (by decide)) (rx_recv_is (ly hL 398 9 0) kx_Mo) (by decide) rfl (by decide) ?_
        intro v τ h
        obtain ⟨rfl, rfl⟩ := h
        refine ru_if_eq (tgt := 111) d_Mo_covers_93 (by decide) (fun h93 => ?_) (fun h93 => ?_)
        · skip
          replace h93 := bI_eq0.mp h93
          refine ru_iconst (v := 0) d_Mo_covers_111 (by decide) ?_
          refine ru_istore d_Mo_covers_112 (by decide) ?_
          refine ru_to (fin _ ?_ (by grind)) ⟨rfl, rfl, rfl, rfl, trivial⟩
          unfold thingsM
          first | (rw [bI_t (by grind)]; done) | (rw [bI_f (by grind)]; done) | exact bI_congr (by grind)
        · skip
          replace h93 := bI_ne0.mp h93
          refine ru_aload_n d_Mo_covers_96 rfl rfl ?_
          refine ru_iload_n d_Mo_covers_97 rfl rfl ?_
          refine ru_iconst (v := 3) d_Mo_covers_98 (by decide) ?_
          refine ru_iload_n d_Mo_covers_99 rfl rfl ?_
          refine ru_iconst (v := 1) d_Mo_covers_100 (by decide) ?_
          refine ru_callV (mc := 0) (ms := 0) d_Mo_covers_101 lm_Mo_201 (sp_Mo_isLike hL ha hb (by decide) (by decide)) (rx_recv_is (ly hL 398 9 0) kx_Mo) (by decide) rfl (by decide) ?_
          intro v τ h
          obtain ⟨rfl, rfl⟩ := h
          refine ru_if_eq (tgt := 111) d_Mo_covers_104 (by decide) (fun h104 => ?_) (fun h104 => ?_)
          · skip
            replace h104 := bI_eq0.mp h104
            refine ru_iconst (v := 0) d_Mo_covers_111 (by decide) ?_
            refine ru_istore d_Mo_covers_112 (by decide) ?_
            refine ru_to (fin _ ?_ (by grind)) ⟨rfl, rfl, rfl, rfl, trivial⟩
            unfold thingsM
            first | (rw [bI_t (by grind)]; done) | (rw [bI_f (by grind)]; done) | exact bI_congr (by grind)
          · skip
            replace h104 := bI_ne0.mp h104
            refine ru_iconst (v := 1) d_Mo_covers_107 (by decide) ?_
            refine ru_goto (tgt := 112) d_Mo_covers_108 (by decide) ?_
            refine ru_istore d_Mo_covers_112 (by decide) ?_
            refine ru_to (fin _ ?_ (by grind)) ⟨rfl, rfl, rfl, rfl, trivial⟩
            unfold thingsM
            first | (rw [bI_t (by grind)]; done) | (rw [bI_f (by grind)]; done) | exact bI_congr (by grind)
      · skip
        replace h71 := bI_ne0.mp h71
        refine ru_aload_n d_Mo_covers_74 rfl rfl ?_
        refine ru_iload_n d_Mo_covers_75 rfl rfl ?_
        refine ru_iconst (v := 3) d_Mo_covers_76 (by decide) ?_
        refine ru_iload_n d_Mo_covers_77 rfl rfl ?_
        refine ru_iconst (v := 3) d_Mo_covers_78 (by decide) ?_
        refine ru_callV (mc := 0) (ms := 0) d_Mo_covers_79 lm_Mo_201 (sp_Mo_isLike hL ha hb (by decide) (by decide)) (rx_recv_is (ly hL 398 9 0) kx_Mo) (by decide) rfl (by decide) ?_
        intro v τ h
        obtain ⟨rfl, rfl⟩ := h
        refine ru_if_ne (tgt := 107) d_Mo_covers_82 (by decide) (fun h82 => ?_) (fun h82 => ?_)
        · skip
          replace h82 := bI_ne0.mp h82
          refine ru_iconst (v := 1) d_Mo_covers_107 (by decide) ?_
          refine ru_goto (tgt := 112) d_Mo_covers_108 (by decide) ?_
          refine ru_istore d_Mo_covers_112 (by decide) ?_
          refine ru_to (fin _ ?_ (by grind)) ⟨rfl, rfl, rfl, rfl, trivial⟩
          unfold thingsM
          first | (rw [bI_t (by grind)]; done) | (rw [bI_f (by grind)]; done) | exact bI_congr (by grind)
        · skip
          replace h82 := bI_eq0.mp h82
          refine ru_aload_n d_Mo_covers_85 rfl rfl ?_
          refine ru_iload_n d_Mo_covers_86 rfl rfl ?_
          refine ru_iconst (v := 1) d_Mo_covers_87 (by decide) ?_
          refine ru_iload_n d_Mo_covers_88 rfl rfl ?_
          refine ru_iconst (v := 3) d_Mo_covers_89 (by decide) ?_
          refine ru_callV (mc := 0) (ms := 0) d_Mo_covers_90 lm_Mo_201 (sp_Mo_isLike hL ha hb (by decide) (by decide)) (rx_recv_is (ly hL 398 9 0) kx_Mo) (by decide) rfl (by decide) ?_
          intro v τ h
          obtain ⟨rfl, rfl⟩ := h
          refine ru_if_eq (tgt := 111) d_Mo_covers_93 (by decide) (fun h93 => ?_) (fun h93 => ?_)
          · skip
            replace h93 := bI_eq0.mp h93
            refine ru_iconst (v := 0) d_Mo_covers_111 (by decide) ?_
            refine ru_istore d_Mo_covers_112 (by decide) ?_
            refine ru_to (fin _ ?_ (by grind)) ⟨rfl, rfl, rfl, rfl, trivial⟩
            unfold thingsM
            first | (rw [bI_t (by grind)]; done) | (rw [bI_f (by grind)]; done) | exact bI_congr (by grind)
          · skip
            replace h93 := bI_ne0.mp h93
            refine ru_aload_n d_Mo_covers_96 rfl rfl ?_
            refine ru_iload_n d_Mo_covers_97 rfl rfl ?_
            refine ru_iconst (v := 3) d_Mo_covers_98 (by decide) ?_
            refine ru_iload_n d_Mo_covers_99 rfl rfl ?_
            refine ru_iconst (v := 1) d_Mo_covers_100 (by decide) ?_
            refine ru_callV (mc := 0) (ms := 0) d_Mo_covers_101 lm_Mo_201 (sp_Mo_isLike hL ha hb (by decide) (by decide)) (rx_recv_is (ly hL 398 9 0) kx_Mo) (by decide) rfl (by decide) ?_
            intro v τ h
            obtain ⟨rfl, rfl⟩ := h
            refine ru_if_eq (tgt := 111) d_Mo_covers_104 (by decide) (fun h104 => ?_) (fun h104 => ?_)
            · skip
              replace h104 := bI_eq0.mp h104
              refine ru_iconst (v := 0) d_Mo_covers_111 (by decide) ?_
              refine ru_istore d_Mo_covers_112 (by decide) ?_
              refine ru_to (fin _ ?_ (by grind)) ⟨rfl, rfl, rfl, rfl, trivial⟩
              unfold thingsM
              first | (rw [bI_t (by grind)]; done) | (rw [bI_f (by grind)]; done) | exact bI_congr (by grind)
            · skip
              replace h104 := bI_ne0.mp h104
              refine ru_iconst (v := 1) d_Mo_covers_107 (by decide) ?_
              refine ru_goto (tgt := 112) d_Mo_covers_108 (by decide) ?_
              refine ru_istore d_Mo_covers_112 (by decide) ?_
              refine ru_to (fin _ ?_ (by grind)) ⟨rfl, rfl, rfl, rfl, trivial⟩
              unfold thingsM
              first | (rw [bI_t (by grind)]; done) | (rw [bI_f (by grind)]; done) | exact bI_congr (by grind)
    · skip
      replace h58 := fun q => h58 ((lg_cmp_eq _ _).mpr q)
      refine ru_lload_n d_Mo_covers_61 rfl rfl ?_
      refine ru_ldc2 d_Mo_covers_62 lc_Mo_195 ?_
      refine ru_lcmp d_Mo_covers_65 ?_
      refine ru_if_ne (tgt := 114) d_Mo_covers_66 (by decide) (fun h66 => ?_) (fun h66 => ?_)
      · skip
        replace h66 := fun q => h66 ((lg_cmp_eq _ _).mpr q)
        refine ru_to (fin _ ?_ (by grind)) ⟨rfl, rfl, rfl, rfl, trivial⟩
        unfold thingsM
        first | (rw [bI_t (by grind)]; done) | (rw [bI_f (by grind)]; done) | exact bI_congr (by grind)
      · skip
        replace h66 := (lg_cmp_eq _ _).mp h66
        refine ru_iload d_Mo_covers_69 rfl ?_
        refine ru_if_eq (tgt := 85) d_Mo_covers_71 (by decide) (fun h71 => ?_) (fun h71 => ?_)
        · skip
          replace h71 := bI_eq0.mp h71
          refine ru_aload_n d_Mo_covers_85 rfl rfl ?_
          refine ru_iload_n d_Mo_covers_86 rfl rfl ?_
          refine ru_iconst (v := 1) d_Mo_covers_87 (by decide) ?_
          refine ru_iload_n d_Mo_covers_88 rfl rfl ?_
          refine ru_iconst (v := 3) d_Mo_covers_89 (by decide) ?_
          refine ru_callV (mc := 0) (ms := 0) d_Mo_covers_90 lm_Mo_201 (sp_Mo_isLike hL ha hb (by decide) (by decide)) (rx_recv_is (ly hL 398 9 0) kx_Mo) (by decide) rfl (by decide) ?_
          intro v τ h
          obtain ⟨rfl, rfl⟩ := h
          refine ru_if_eq (tgt := 111) d_Mo_covers_93 (by decide) (fun h93 => ?_) (fun h93 => ?_)
          · skip
            replace h93 := bI_eq0.mp h93
            refine ru_iconst (v := 0) d_Mo_covers_111 (by decide) ?_
            refine ru_istore d_Mo_covers_112 (by decide) ?_
            refine ru_to (fin _ ?_ (by grind)) ⟨rfl, rfl, rfl, rfl, trivial⟩
            unfold thingsM
            first | (rw [bI_t (by grind)]; done) | (rw [bI_f (by grind)]; done) | exact bI_congr (by grind)
          · skip
            replace h93 := bI_ne0.mp h93
            refine ru_aload_n d_Mo_covers_96 rfl rfl ?_
            refine ru_iload_n d_Mo_covers_97 rfl rfl ?_
            refine ru_iconst (v := 3) d_Mo_covers_98 (by decide) ?_
            refine ru_iload_n d_Mo_covers_99 rfl rfl ?_
            refine ru_iconst (v := 1) d_Mo_covers_100 (by decide) ?_
            refine ru_callV (mc := 0) (ms := 0) d_Mo_covers_101 lm_Mo_201 (sp_Mo_isLike hL ha hb (by decide) (by decide)) (rx_recv_is (ly hL 398 9 0) kx_Mo) (by decide) rfl (by decide) ?_
            intro v τ h
            obtain ⟨rfl, rfl⟩ := h
            refine ru_if_eq (tgt := 111) d_Mo_covers_104 (by decide) (fun h104 => ?_) (fun h104 => ?_)
            · skip
              replace h104 := bI_eq0.mp h104
              refine ru_iconst (v := 0) d_Mo_covers_111 (by decide) ?_
              refine ru_istore d_Mo_covers_112 (by decide) ?_
              refine ru_to (fin _ ?_ (by grind)) ⟨rfl, rfl, rfl, rfl, trivial⟩
              unfold thingsM
              first | (rw [bI_t (by grind)]; done) | (rw [bI_f (by grind)]; done) | exact bI_congr (by grind)
            · skip
              replace h104 := bI_ne0.mp h104
              refine ru_iconst (v := 1) d_Mo_covers_107 (by decide) ?_
              refine ru_goto (tgt := 112) d_Mo_covers_108 (by decide) ?_
              refine ru_istore d_Mo_covers_112 (by decide) ?_
              refine ru_to (fin _ ?_ (by grind)) ⟨rfl, rfl, rfl, rfl, trivial⟩
              unfold thingsM
              first | (rw [bI_t (by grind)]; done) | (rw [bI_f (by grind)]; done) | exact bI_congr (by grind)
        · skip
          replace h71 := bI_ne0.mp h71
          refine ru_aload_n d_Mo_covers_74 rfl rfl ?_
          refine ru_iload_n d_Mo_covers_75 rfl rfl ?_
          refine ru_iconst (v := 3) d_Mo_covers_76 (by decide) ?_
          refine ru_iload_n d_Mo_covers_77 rfl rfl ?_
          refine ru_iconst (v := 3) d_Mo_covers_78 (by decide) ?_
          refine ru_callV (mc := 0) (ms := 0) d_Mo_covers_79 lm_Mo_201 (sp_Mo_isLike hL ha hb (by decide) (by decide)) (rx_recv_is (ly hL 398 9 0) kx_Mo) (by decide) rfl (by decide) ?_
          intro v τ h
          obtain ⟨rfl, rfl⟩ := h
          refine ru_if_ne (tgt := 107) d_Mo_covers_82 (by decide) (fun h82 => ?_) (fun h82 => ?_)
          · skip
            replace h82 := bI_ne0.mp h82
            refine ru_iconst (v := 1) d_Mo_covers_107 (by decide) ?_
            refine ru_goto (tgt := 112) d_Mo_covers_108 (by decide) ?_
            refine ru_istore d_Mo_covers_112 (by decide) ?_
            refine ru_to (fin _ ?_ (by grind)) ⟨rfl, rfl, rfl, rfl, trivial⟩
            unfold thingsM
            first | (rw [bI_t (by grind)]; done) | (rw [bI_f (by grind)]; done) | exact bI_congr (by grind)
          · skip
            replace h82 := bI_eq0.mp h82
            refine ru_aload_n d_Mo_covers_85 rfl rfl ?_
            refine ru_iload_n d_Mo_covers_86 rfl rfl ?_
            refine ru_iconst (v := 1) d_Mo_covers_87 (by decide) ?_
            refine ru_iload_n d_Mo_covers_88 rfl rfl ?_
            refine ru_iconst (v := 3) d_Mo_covers_89 (by decide) ?_
            refine ru_callV (mc := 0) (ms := 0) d_Mo_covers_90 lm_Mo_201 (sp_Mo_isLike hL ha hb (by decide) (by decide)) (rx_recv_is (ly hL 398 9 0) kx_Mo) (by decide) rfl (by decide) ?_
            intro v τ h
            obtain ⟨rfl, rfl⟩ := h
            refine ru_if_eq (tgt := 111) d_Mo_covers_93 (by decide) (fun h93 => ?_) (fun h93 => ?_)
            · skip
              replace h93 := bI_eq0.mp h93
              refine ru_iconst (v := 0) d_Mo_covers_111 (by decide) ?_
              refine ru_istore d_Mo_covers_112 (by decide) ?_
              refine ru_to (fin _ ?_ (by grind)) ⟨rfl, rfl, rfl, rfl, trivial⟩
              unfold thingsM
              first | (rw [bI_t (by grind)]; done) | (rw [bI_f (by grind)]; done) | exact bI_congr (by grind)
            · skip
              replace h93 := bI_ne0.mp h93
              refine ru_aload_n d_Mo_covers_96 rfl rfl ?_
              refine ru_iload_n d_Mo_covers_97 rfl rfl ?_
              refine ru_iconst (v := 3) d_Mo_covers_98 (by decide) ?_
              refine ru_iload_n d_Mo_covers_99 rfl rfl ?_
              refine ru_iconst (v := 1) d_Mo_covers_100 (by decide) ?_
              refine ru_callV (mc := 0) (ms := 0) d_Mo_covers_101 lm_Mo_201 (sp_Mo_isLike hL ha hb (by decide) (by decide)) (rx_recv_is (ly hL 398 9 0) kx_Mo) (by decide) rfl (by decide) ?_
              intro v τ h
              obtain ⟨rfl, rfl⟩ := h
              refine ru_if_eq (tgt := 111) d_Mo_covers_104 (by decide) (fun h104 => ?_) (fun h104 => ?_)
              · skip
                replace h104 := bI_eq0.mp h104
                refine ru_iconst (v := 0) d_Mo_covers_111 (by decide) ?_
                refine ru_istore d_Mo_covers_112 (by decide) ?_
                refine ru_to (fin _ ?_ (by grind)) ⟨rfl, rfl, rfl, rfl, trivial⟩
                unfold thingsM
                first | (rw [bI_t (by grind)]; done) | (rw [bI_f (by grind)]; done) | exact bI_congr (by grind)
              · skip
                replace h104 := bI_ne0.mp h104
                refine ru_iconst (v := 1) d_Mo_covers_107 (by decide) ?_
                refine ru_goto (tgt := 112) d_Mo_covers_108 (by decide) ?_
                refine ru_istore d_Mo_covers_112 (by decide) ?_
                refine ru_to (fin _ ?_ (by grind)) ⟨rfl, rfl, rfl, rfl, trivial⟩
                unfold thingsM
                first | (rw [bI_t (by grind)]; done) | (rw [bI_f (by grind)]; done) | exact bI_congr (by grind)
  · skip
    replace h25 := fun q => h25 ((lg_cmp_eq _ _).mpr q)
    refine ru_lload_n d_Mo_covers_28 rfl rfl ?_
    refine ru_ldc2 d_Mo_covers_29 lc_Mo_195 ?_
    refine ru_lcmp d_Mo_covers_32 ?_
    refine ru_if_ne (tgt := 43) d_Mo_covers_33 (by decide) (fun h33 => ?_) (fun h33 => ?_)
    · skip
      replace h33 := fun q => h33 ((lg_cmp_eq _ _).mpr q)
      refine ru_iconst (v := 0) d_Mo_covers_43 (by decide) ?_
      refine ru_zret (ty := .boolean) d_Mo_covers_44 rfl rfl ?_
      first | exact ⟨by rw [bI_t (by grind)], rfl⟩ | exact ⟨by rw [bI_f (by grind)], rfl⟩
    · skip
      replace h33 := (lg_cmp_eq _ _).mp h33
      refine ru_lload d_Mo_covers_36 rfl ?_
      refine ru_lconst (v := 0) d_Mo_covers_38 (by decide) ?_
      refine ru_lcmp d_Mo_covers_39 ?_
      refine ru_if_eq (tgt := 45) d_Mo_covers_40 (by decide) (fun h40 => ?_) (fun h40 => ?_)
      · skip
        replace h40 := (lg_cmp_eq _ _).mp h40
        refine ru_aload_n d_Mo_covers_45 rfl rfl ?_
        refine ru_iload_n d_Mo_covers_46 rfl rfl ?_
        refine ru_iconst (v := 1) d_Mo_covers_47 (by decide) ?_
        refine ru_iload_n d_Mo_covers_48 rfl rfl ?_
        refine ru_iconst (v := 1) d_Mo_covers_49 (by decide) ?_
        refine ru_callV (mc := 0) (ms := 0) d_Mo_covers_50 lm_Mo_201 (sp_Mo_isLike hL ha hb (by decide) (by decide)) (rx_recv_is (ly hL 398 9 0) kx_Mo) (by decide) rfl (by decide) ?_
        intro v τ h
        obtain ⟨rfl, rfl⟩ := h
        refine ru_istore d_Mo_covers_53 (by decide) ?_
        refine ru_lload_n d_Mo_covers_55 rfl rfl ?_
        refine ru_lconst (v := 0) d_Mo_covers_56 (by decide) ?_
        refine ru_lcmp d_Mo_covers_57 ?_
        refine ru_if_eq (tgt := 69) d_Mo_covers_58 (by decide) (fun h58 => ?_) (fun h58 => ?_)
        · skip
          replace h58 := (lg_cmp_eq _ _).mp h58
          refine ru_iload d_Mo_covers_69 rfl ?_
          refine ru_if_eq (tgt := 85) d_Mo_covers_71 (by decide) (fun h71 => ?_) (fun h71 => ?_)
          · skip
            replace h71 := bI_eq0.mp h71
            refine ru_aload_n d_Mo_covers_85 rfl rfl ?_
            refine ru_iload_n d_Mo_covers_86 rfl rfl ?_
            refine ru_iconst (v := 1) d_Mo_covers_87 (by decide) ?_
            refine ru_iload_n d_Mo_covers_88 rfl rfl ?_
            refine ru_iconst (v := 3) d_Mo_covers_89 (by decide) ?_
            refine ru_callV (mc := 0) (ms := 0) d_Mo_covers_90 lm_Mo_201 (sp_Mo_isLike hL ha hb (by decide) (by decide)) (rx_recv_is (ly hL 398 9 0) kx_Mo) (by decide) rfl (by decide) ?_
            intro v τ h
            obtain ⟨rfl, rfl⟩ := h
            refine ru_if_eq (tgt := 111) d_Mo_covers_93 (by decide) (fun h93 => ?_) (fun h93 => ?_)
            · skip
              replace h93 := bI_eq0.mp h93
              refine ru_iconst (v := 0) d_Mo_covers_111 (by decide) ?_
              refine ru_istore d_Mo_covers_112 (by decide) ?_
              refine ru_to (fin _ ?_ (by grind)) ⟨rfl, rfl, rfl, rfl, trivial⟩
              unfold thingsM
              first | (rw [bI_t (by grind)]; done) | (rw [bI_f (by grind)]; done) | exact bI_congr (by grind)
            · skip
              replace h93 := bI_ne0.mp h93
              refine ru_aload_n d_Mo_covers_96 rfl rfl ?_
              refine ru_iload_n d_Mo_covers_97 rfl rfl ?_
              refine ru_iconst (v := 3) d_Mo_covers_98 (by decide) ?_
              refine ru_iload_n d_Mo_covers_99 rfl rfl ?_
              refine ru_iconst (v := 1) d_Mo_covers_100 (by decide) ?_
              refine ru_callV (mc := 0) (ms := 0) d_Mo_covers_101 lm_Mo_201 (sp_Mo_isLike hL ha hb (by decide) (by decide)) (rx_recv_is (ly hL 398 9 0) kx_Mo) (by decide) rfl (by decide) ?_
              intro v τ h
              obtain ⟨rfl, rfl⟩ := h
              refine ru_if_eq (tgt := 111) d_Mo_covers_104 (by decide) (fun h104 => ?_) (fun h104 => ?_)
              · skip
                replace h104 := bI_eq0.mp h104
                refine ru_iconst (v := 0) d_Mo_covers_111 (by decide) ?_
                refine ru_istore d_Mo_covers_112 (by decide) ?_
                refine ru_to (fin _ ?_ (by grind)) ⟨rfl, rfl, rfl, rfl, trivial⟩
                unfold thingsM
                first | (rw [bI_t (by grind)]; done) | (rw [bI_f (by grind)]; done) | exact bI_congr (by grind)
              · skip
                replace h104 := bI_ne0.mp h104
                refine ru_iconst (v := 1) d_Mo_covers_107 (by decide) ?_
                refine ru_goto (tgt := 112) d_Mo_covers_108 (by decide) ?_
                refine ru_istore d_Mo_covers_112 (by decide) ?_
                refine ru_to (fin _ ?_ (by grind)) ⟨rfl, rfl, rfl, rfl, trivial⟩
                unfold thingsM
                first | (rw [bI_t (by grind)]; done) | (rw [bI_f (by grind)]; done) | exact bI_congr (by grind)
          · skip
            replace h71 := bI_ne0.mp h71
            refine ru_aload_n d_Mo_covers_74 rfl rfl ?_
            refine ru_iload_n d_Mo_covers_75 rfl rfl ?_
            refine ru_iconst (v := 3) d_Mo_covers_76 (by decide) ?_
            refine ru_iload_n d_Mo_covers_77 rfl rfl ?_
            refine ru_iconst (v := 3) d_Mo_covers_78 (by decide) ?_
            refine ru_callV (mc := 0) (ms := 0) d_Mo_covers_79 lm_Mo_201 (sp_Mo_isLike hL ha hb (by decide) (by decide)) (rx_recv_is (ly hL 398 9 0) kx_Mo) (by decide) rfl (by decide) ?_
            intro v τ h
            obtain ⟨rfl, rfl⟩ := h
            refine ru_if_ne (tgt := 107) d_Mo_covers_82 (by decide) (fun h82 => ?_) (fun h82 => ?_)
            · skip
              replace h82 := bI_ne0.mp h82
              refine ru_iconst (v := 1) d_Mo_covers_107 (by decide) ?_
              refine ru_goto (tgt := 112) d_Mo_covers_108 (by decide) ?_
              refine ru_istore d_Mo_covers_112 (by decide) ?_
              refine ru_to (fin _ ?_ (by grind)) ⟨rfl, rfl, rfl, rfl, trivial⟩
              unfold thingsM
              first | (rw [bI_t (by grind)]; done) | (rw [bI_f (by grind)]; done) | exact bI_congr (by grind)
            · skip
              replace h82 := bI_eq0.mp h82
              refine ru_aload_n d_Mo_covers_85 rfl rfl ?_
              refine ru_iload_n d_Mo_covers_86 rfl rfl ?_
              refine ru_iconst (v := 1) d_Mo_covers_87 (by decide) ?_
              refine ru_iload_n d_Mo_covers_88 rfl rfl ?_
              refine ru_iconst (v := 3) d_Mo_covers_89 (by decide) ?_
              refine ru_callV (mc := 0) (ms := 0) d_Mo_covers_90 lm_Mo_201 (sp_Mo_isLike hL ha hb (by decide) (by decide)) (rx_recv_is (ly hL 398 9 0) kx_Mo) (by decide) rfl (by decide) ?_
              intro v τ h
              obtain ⟨rfl, rfl⟩ := h
              refine ru_if_eq (tgt := 111) d_Mo_covers_93 (by decide) (fun h93 => ?_) (fun h93 => ?_)
              · skip
                replace h93 := bI_eq0.mp h93
                refine ru_iconst (v := 0) d_Mo_covers_111 (by decide) ?_
                refine ru_istore d_Mo_covers_112 (by decide) ?_
                refine ru_to (fin _ ?_ (by grind)) ⟨rfl, rfl, rfl, rfl, trivial⟩
                unfold thingsM
                first | (rw [bI_t (by grind)]; done) | (rw [bI_f (by grind)]; done) | exact bI_congr (by grind)
              · skip
                replace h93 := bI_ne0.mp h93
                refine ru_aload_n d_Mo_covers_96 rfl rfl ?_
                refine ru_iload_n d_Mo_covers_97 rfl rfl ?_
                refine ru_iconst (v := 3) d_Mo_covers_98 (by decide) ?_
                refine ru_iload_n d_Mo_covers_99 rfl rfl ?_
                refine ru_iconst (v := 1) d_Mo_covers_100 (by decide) ?_
                refine ru_callV (mc := 0) (ms := 0) d_Mo_covers_101 lm_Mo_201 (sp_Mo_isLike hL ha hb (by decide) (by decide)) (rx_recv_is (ly hL 398 9 0) kx_Mo) (by decide) rfl (by decide) ?_
                intro v τ h
                obtain ⟨rfl, rfl⟩ := h
                refine ru_if_eq (tgt := 111) d_Mo_covers_104 (by decide) (fun h104 => ?_) (fun h104 => ?_)
                · skip
                  replace h104 := bI_eq0.mp h104
                  refine ru_iconst (v := 0) d_Mo_covers_111 (by decide) ?_
                  refine ru_istore d_Mo_covers_112 (by decide) ?_
                  refine ru_to (fin _ ?_ (by grind)) ⟨rfl, rfl, rfl, rfl, trivial⟩
                  unfold thingsM
                  first | (rw [bI_t (by grind)]; done) | (rw [bI_f (by grind)]; done) | exact bI_congr (by grind)
                · skip
                  replace h104 := bI_ne0.mp h104
                  refine ru_iconst (v := 1) d_Mo_covers_107 (by decide) ?_
                  refine ru_goto (tgt := 112) d_Mo_covers_108 (by decide) ?_
                  refine ru_istore d_Mo_covers_112 (by decide) ?_
                  refine ru_to (fin _ ?_ (by grind)) ⟨rfl, rfl, rfl, rfl, trivial⟩
                  unfold thingsM
                  first | (rw [bI_t (by grind)]; done) | (rw [bI_f (by grind)]; done) | exact bI_congr (by grind)
        · skip
          replace h58 := fun q => h58 ((lg_cmp_eq _ _).mpr q)
          refine ru_lload_n d_Mo_covers_61 rfl rfl ?_
          refine ru_ldc2 d_Mo_covers_62 lc_Mo_195 ?_
          refine ru_lcmp d_Mo_covers_65 ?_
          refine ru_if_ne (tgt := 114) d_Mo_covers_66 (by decide) (fun h66 => ?_) (fun h66 => ?_)
          · skip
            replace h66 := fun q => h66 ((lg_cmp_eq _ _).mpr q)
            refine ru_to (fin _ ?_ (by grind)) ⟨rfl, rfl, rfl, rfl, trivial⟩
            unfold thingsM
            first | (rw [bI_t (by grind)]; done) | (rw [bI_f (by grind)]; done) | exact bI_congr (by grind)
          · skip
            replace h66 := (lg_cmp_eq _ _).mp h66
            refine ru_iload d_Mo_covers_69 rfl ?_
            refine ru_if_eq (tgt := 85) d_Mo_covers_71 (by decide) (fun h71 => ?_) (fun h71 => ?_)
            · skip
              replace h71 := bI_eq0.mp h71
              refine ru_aload_n d_Mo_covers_85 rfl rfl ?_
              refine ru_iload_n d_Mo_covers_86 rfl rfl ?_
              refine ru_iconst (v := 1) d_Mo_covers_87 (by decide) ?_
              refine ru_iload_n d_Mo_covers_88 rfl rfl ?_
              refine ru_iconst (v := 3) d_Mo_covers_89 (by decide) ?_
              refine ru_callV (mc := 0) (ms := 0) d_Mo_covers_90 lm_Mo_201 (sp_Mo_isLike hL ha hb (by decide) (by decide)) (rx_recv_is (ly hL 398 9 0) kx_Mo) (by decide) rfl (by decide) ?_
              intro v τ h
              obtain ⟨rfl, rfl⟩ := h
              refine ru_if_eq (tgt := 111) d_Mo_covers_93 (by decide) (fun h93 => ?_) (fun h93 => ?_)
              · skip
                replace h93 := bI_eq0.mp h93
                refine ru_iconst (v := 0) d_Mo_covers_111 (by decide) ?_
                refine ru_istore d_Mo_covers_112 (by decide) ?_
                refine ru_to (fin _ ?_ (by grind)) ⟨rfl, rfl, rfl, rfl, trivial⟩
                unfold thingsM
                first | (rw [bI_t (by grind)]; done) | (rw [bI_f (by grind)]; done) | exact bI_congr (by grind)
              · skip
                replace h93 := bI_ne0.mp h93
                refine ru_aload_n d_Mo_covers_96 rfl rfl ?_
                refine ru_iload_n d_Mo_covers_97 rfl rfl ?_
                refine ru_iconst (v := 3) d_Mo_covers_98 (by decide) ?_
                refine ru_iload_n d_Mo_covers_99 rfl rfl ?_
                refine ru_iconst (v := 1) d_Mo_covers_100 (by decide) ?_
                refine ru_callV (mc := 0) (ms := 0) d_Mo_covers_101 lm_Mo_201 (sp_Mo_isLike hL ha hb (by decide) (by decide)) (rx_recv_is (ly hL 398 9 0) kx_Mo) (by decide) rfl (by decide) ?_
                intro v τ h
                obtain ⟨rfl, rfl⟩ := h
                refine ru_if_eq (tgt := 111) d_Mo_covers_104 (by decide) (fun h104 => ?_) (fun h104 => ?_)
                · skip
                  replace h104 := bI_eq0.mp h104
                  refine ru_iconst (v := 0) d_Mo_covers_111 (by decide) ?_
                  refine ru_istore d_Mo_covers_112 (by decide) ?_
                  refine ru_to (fin _ ?_ (by grind)) ⟨rfl, rfl, rfl, rfl, trivial⟩
                  unfold thingsM
                  first | (rw [bI_t (by grind)]; done) | (rw [bI_f (by grind)]; done) | exact bI_congr (by grind)
                · skip
                  replace h104 := bI_ne0.mp h104
                  refine ru_iconst (v := 1) d_Mo_covers_107 (by decide) ?_
                  refine ru_goto (tgt := 112) d_Mo_covers_108 (by decide) ?_
                  refine ru_istore d_Mo_covers_112 (by decide) ?_
                  refine ru_to (fin _ ?_ (by grind)) ⟨rfl, rfl, rfl, rfl, trivial⟩
                  unfold thingsM
                  first | (rw [bI_t (by grind)]; done) | (rw [bI_f (by grind)]; done) | exact bI_congr (by grind)
            · skip
              replace h71 := bI_ne0.mp h71
              refine ru_aload_n d_Mo_covers_74 rfl rfl ?_
              refine ru_iload_n d_Mo_covers_75 rfl rfl ?_
              refine ru_iconst (v := 3) d_Mo_covers_76 (by decide) ?_
              refine ru_iload_n d_Mo_covers_77 rfl rfl ?_
              refine ru_iconst (v := 3) d_Mo_covers_78 (by decide) ?_
              refine ru_callV (mc := 0) (ms := 0) d_Mo_covers_79 lm_Mo_201 (sp_Mo_isLike hL ha hb (by decide) (by decide)) (rx_recv_is (ly hL 398 9 0) kx_Mo) (by decide) rfl (by decide) ?_
              intro v τ h
              obtain ⟨rfl, rfl⟩ := h
              refine ru_if_ne (tgt := 107) d_Mo_covers_82 (by decide) (fun h82 => ?_) (fun h82 => ?_)
              · skip
                replace h82 := bI_ne0.mp h82
                refine ru_iconst (v := 1) d_Mo_covers_107 (by decide) ?_
                refine ru_goto (tgt := 112) d_Mo_covers_108 (by decide) ?_
                refine ru_istore d_Mo_covers_112 (by decide) ?_
                refine ru_to (fin _ ?_ (by grind)) ⟨rfl, rfl, rfl, rfl, trivial⟩
                unfold thingsM
                first | (rw [bI_t (by grind)]; done) | (rw [bI_f (by grind)]; done) | exact bI_congr (by grind)
              · skip
                replace h82 := bI_eq0.mp h82
                refine ru_aload_n d_Mo_covers_85 rfl rfl ?_
                refine ru_iload_n d_Mo_covers_86 rfl rfl ?_
                refine ru_iconst (v := 1) d_Mo_covers_87 (by decide) ?_
                refine ru_iload_n d_Mo_covers_88 rfl rfl ?_
                refine ru_iconst (v := 3) d_Mo_covers_89 (by decide) ?_
                refine ru_callV (mc := 0) (ms := 0) d_Mo_covers_90 lm_Mo_201 (sp_Mo_isLike hL ha hb (by decide) (by decide)) (rx_recv_is (ly hL 398 9 0) kx_Mo) (by decide) rfl (by decide) ?_
                intro v τ h
                obtain ⟨rfl, rfl⟩ := h
                refine ru_if_eq (tgt := 111) d_Mo_covers_93 (by decide) (fun h93 => ?_) (fun h93 => ?_)
                · skip
                  replace h93 := bI_eq0.mp h93
                  refine ru_iconst (v := 0) d_Mo_covers_111 (by decide) ?_
                  refine ru_istore d_Mo_covers_112 (by decide) ?_
                  refine ru_to (fin _ ?_ (by grind)) ⟨rfl, rfl, rfl, rfl, trivial⟩
                  unfold thingsM
                  first | (rw [bI_t (by grind)]; done) | (rw [bI_f (by grind)]; done) | exact bI_congr (by grind)
                · skip
                  replace h93 := bI_ne0.mp h93
                  refine ru_aload_n d_Mo_covers_96 rfl rfl ?_
                  refine ru_iload_n d_Mo_covers_97 rfl rfl ?_
                  refine ru_iconst (v := 3) d_Mo_covers_98 (by decide) ?_
                  refine ru_iload_n d_Mo_covers_99 rfl rfl ?_
                  refine ru_iconst (v := 1) d_Mo_covers_100 (by decide) ?_
                  refine ru_callV (mc := 0) (ms := 0) d_Mo_covers_101 lm_Mo_201 (sp_Mo_isLike hL ha hb (by decide) (by decide)) (rx_recv_is (ly hL 398 9 0) kx_Mo) (by decide) rfl (by decide) ?_
                  intro v τ h
                  obtain ⟨rfl, rfl⟩ := h
                  refine ru_if_eq (tgt := 111) d_Mo_covers_104 (by decide) (fun h104 => ?_) (fun h104 => ?_)
                  · skip
                    replace h104 := bI_eq0.mp h104
                    refine ru_iconst (v := 0) d_Mo_covers_111 (by decide) ?_
                    refine ru_istore d_Mo_covers_112 (by decide) ?_
                    refine ru_to (fin _ ?_ (by grind)) ⟨rfl, rfl, rfl, rfl, trivial⟩
                    unfold thingsM
                    first | (rw [bI_t (by grind)]; done) | (rw [bI_f (by grind)]; done) | exact bI_congr (by grind)
                  · skip
                    replace h104 := bI_ne0.mp h104
                    refine ru_iconst (v := 1) d_Mo_covers_107 (by decide) ?_
                    refine ru_goto (tgt := 112) d_Mo_covers_108 (by decide) ?_
                    refine ru_istore d_Mo_covers_112 (by decide) ?_
                    refine ru_to (fin _ ?_ (by grind)) ⟨rfl, rfl, rfl, rfl, trivial⟩
                    unfold thingsM
                    first | (rw [bI_t (by grind)]; done) | (rw [bI_f (by grind)]; done) | exact bI_congr (by grind)
      · skip
        replace h40 := fun q => h40 ((lg_cmp_eq _ _).mpr q)
        refine ru_iconst (v := 0) d_Mo_covers_43 (by decide) ?_
        refine ru_zret (ty := .boolean) d_Mo_covers_44 rfl rfl ?_
        first | exact ⟨by rw [bI_t (by grind)], rfl⟩ | exact ⟨by rw [bI_f (by grind)], rfl⟩
theorem sp_Mo_isClash {za zb : Int32} {a b : Nat} (hL : LAY nx ct mr) (ha : a < 60) (hb : b < 60) (hza : ml 404 (12 * a + 6) = za.toInt64) (hzb : ml 404 (12 * b + 6) = zb.toInt64) (hA : isArea za) (hB : isArea zb) : rx_Calls y_Mo_isClash M_Mo_isClash 2 0 0 [.ref 398, .int (nI a), .int (nI b)] (nx, ct, mi, ml, mr) (fun v τ => v = some (.int (bI (clashM (mi 402) (ml 403) (ml 404) za zb a b))) ∧ τ = (nx, ct, mi, ml, mr)) := by
  refine rx_enter (by decide) rfl rfl (Nat.le_of_ble_eq_true rfl) ?_
  unfold clashM
  refine ru_aload_n d_Mo_isClash_0 rfl rfl ?_
  refine ru_getR d_Mo_isClash_1 lf_Mo_27 (ly hL 398 9 0) rfl (lr hL 398 8 404) ?_
  refine ru_bipush (v := 12) d_Mo_isClash_4 (by decide) ?_
  refine ru_iload_n d_Mo_isClash_6 rfl rfl ?_
  refine ru_imul d_Mo_isClash_7 ?_
  refine ru_eqi (nm_mul 12 a : _ = nI (12 * a)) ?_
  refine ru_laldN (j := (12 * a)) d_Mo_isClash_8 (ly hL 404 104 1440) (by omega) (by decide) ?_
  refine ru_ldc2 d_Mo_isClash_9 lc_Mo_195 ?_
  refine ru_lcmp d_Mo_isClash_12 ?_
  refine ru_if_eq (tgt := 34) d_Mo_isClash_13 (by decide) (fun h13 => ?_) (fun h13 => ?_)
  · skip
    replace h13 := (lg_cmp_eq _ _).mp h13
    refine ru_iconst (v := 0) d_Mo_isClash_34 (by decide) ?_
    refine ru_zret (ty := .boolean) d_Mo_isClash_35 rfl rfl ?_
    first | exact ⟨by rw [bI_t (by grind)], rfl⟩ | exact ⟨by rw [bI_f (by grind)], rfl⟩
  · skip
    replace h13 := fun q => h13 ((lg_cmp_eq _ _).mpr q)
    refine ru_aload_n d_Mo_isClash_16 rfl rfl ?_
    refine ru_iload_n d_Mo_isClash_17 rfl rfl ?_
    refine ru_iload_n d_Mo_isClash_18 rfl rfl ?_
    refine ru_callV (mc := 0) (ms := 0) d_Mo_isClash_19 lm_Mo_209 (sp_Mo_covers hL ha hb hza hzb hA hB) (rx_recv_is (ly hL 398 9 0) kx_Mo) (by decide) rfl (by decide) ?_
    intro v τ h
    obtain ⟨rfl, rfl⟩ := h
    refine ru_if_eq (tgt := 34) d_Mo_isClash_22 (by decide) (fun h22 => ?_) (fun h22 => ?_)
    · skip
      replace h22 := bI_eq0.mp h22
      refine ru_iconst (v := 0) d_Mo_isClash_34 (by decide) ?_
      refine ru_zret (ty := .boolean) d_Mo_isClash_35 rfl rfl ?_
      first | exact ⟨by rw [bI_t (by grind)], rfl⟩ | exact ⟨by rw [bI_f (by grind)], rfl⟩
    · skip
      replace h22 := bI_ne0.mp h22
      refine ru_aload_n d_Mo_isClash_25 rfl rfl ?_
      refine ru_iload_n d_Mo_isClash_26 rfl rfl ?_
      refine ru_iload_n d_Mo_isClash_27 rfl rfl ?_
      refine ru_callV (mc := 0) (ms := 0) d_Mo_isClash_28 lm_Mo_209 (sp_Mo_covers hL hb ha hzb hza hB hA) (rx_recv_is (ly hL 398 9 0) kx_Mo) (by decide) rfl (by decide) ?_
      intro v τ h
      obtain ⟨rfl, rfl⟩ := h
      refine ru_if_ne (tgt := 36) d_Mo_isClash_31 (by decide) (fun h31 => ?_) (fun h31 => ?_)
      · skip
        replace h31 := bI_ne0.mp h31
        refine ru_aload_n d_Mo_isClash_36 rfl rfl ?_
        refine ru_getR d_Mo_isClash_37 lf_Mo_27 (ly hL 398 9 0) rfl (lr hL 398 8 404) ?_
        refine ru_bipush (v := 12) d_Mo_isClash_40 (by decide) ?_
        refine ru_iload_n d_Mo_isClash_42 rfl rfl ?_
        refine ru_imul d_Mo_isClash_43 ?_
        refine ru_eqi (nm_mul 12 a : _ = nI (12 * a)) ?_
        refine ru_bipush (v := 8) d_Mo_isClash_44 (by decide) ?_
        refine ru_iadd d_Mo_isClash_46 ?_
        refine ru_eqi (nm_add (12 * a) 8 : _ = nI ((12 * a) + 8)) ?_
        refine ru_laldN (j := ((12 * a) + 8)) d_Mo_isClash_47 (ly hL 404 104 1440) (by omega) (by decide) ?_
        refine ru_lstore_n d_Mo_isClash_48 rfl (by decide) ?_
        refine ru_aload_n d_Mo_isClash_49 rfl rfl ?_
        refine ru_getR d_Mo_isClash_50 lf_Mo_27 (ly hL 398 9 0) rfl (lr hL 398 8 404) ?_
        refine ru_bipush (v := 12) d_Mo_isClash_53 (by decide) ?_
        refine ru_iload_n d_Mo_isClash_55 rfl rfl ?_
        refine ru_imul d_Mo_isClash_56 ?_
        refine ru_eqi (nm_mul 12 a : _ = nI (12 * a)) ?_
        refine ru_bipush (v := 9) d_Mo_isClash_57 (by decide) ?_
        refine ru_iadd d_Mo_isClash_59 ?_
        refine ru_eqi (nm_add (12 * a) 9 : _ = nI ((12 * a) + 9)) ?_
        refine ru_laldN (j := ((12 * a) + 9)) d_Mo_isClash_60 (ly hL 404 104 1440) (by omega) (by decide) ?_
        refine ru_lstore d_Mo_isClash_61 (by decide) ?_
        refine ru_aload_n d_Mo_isClash_63 rfl rfl ?_
        refine ru_getR d_Mo_isClash_64 lf_Mo_27 (ly hL 398 9 0) rfl (lr hL 398 8 404) ?_
        refine ru_bipush (v := 12) d_Mo_isClash_67 (by decide) ?_
        refine ru_iload_n d_Mo_isClash_69 rfl rfl ?_
        refine ru_imul d_Mo_isClash_70 ?_
        refine ru_eqi (nm_mul 12 b : _ = nI (12 * b)) ?_
        refine ru_bipush (v := 8) d_Mo_isClash_71 (by decide) ?_
        refine ru_iadd d_Mo_isClash_73 ?_
        refine ru_eqi (nm_add (12 * b) 8 : _ = nI ((12 * b) + 8)) ?_
        refine ru_laldN (j := ((12 * b) + 8)) d_Mo_isClash_74 (ly hL 404 104 1440) (by omega) (by decide) ?_
        refine ru_lstore d_Mo_isClash_75 (by decide) ?_
        refine ru_aload_n d_Mo_isClash_77 rfl rfl ?_
        refine ru_getR d_Mo_isClash_78 lf_Mo_27 (ly hL 398 9 0) rfl (lr hL 398 8 404) ?_
        refine ru_bipush (v := 12) d_Mo_isClash_81 (by decide) ?_
        refine ru_iload_n d_Mo_isClash_83 rfl rfl ?_
        refine ru_imul d_Mo_isClash_84 ?_
        refine ru_eqi (nm_mul 12 b : _ = nI (12 * b)) ?_
        refine ru_bipush (v := 9) d_Mo_isClash_85 (by decide) ?_
        refine ru_iadd d_Mo_isClash_87 ?_
        refine ru_eqi (nm_add (12 * b) 9 : _ = nI ((12 * b) + 9)) ?_
        refine ru_laldN (j := ((12 * b) + 9)) d_Mo_isClash_88 (ly hL 404 104 1440) (by omega) (by decide) ?_
        refine ru_lstore d_Mo_isClash_89 (by decide) ?_
        refine ru_lload d_Mo_isClash_91 rfl ?_
        refine ru_lconst (v := 0) d_Mo_isClash_93 (by decide) ?_
        refine ru_lcmp d_Mo_isClash_94 ?_
        refine ru_if_lt (tgt := 113) d_Mo_isClash_95 (by decide) (fun h95 => ?_) (fun h95 => ?_)
        · skip
          replace h95 := (lg_cmp_lt _ _).mp h95
          refine ru_lload d_Mo_isClash_113 rfl ?_
          refine ru_lconst (v := 0) d_Mo_isClash_115 (by decide) ?_
          refine ru_lcmp d_Mo_isClash_116 ?_
          refine ru_if_lt (tgt := 137) d_Mo_isClash_117 (by decide) (fun h117 => ?_) (fun h117 => ?_)
          · skip
            replace h117 := (lg_cmp_lt _ _).mp h117
            refine ru_iconst (v := 0) d_Mo_isClash_137 (by decide) ?_
            refine ru_zret (ty := .boolean) d_Mo_isClash_138 rfl rfl ?_
            first | exact ⟨by rw [bI_t (by grind)], rfl⟩ | exact ⟨by rw [bI_f (by grind)], rfl⟩
          · skip
            replace h117 := fun q => h117 ((lg_cmp_lt _ _).mpr q)
            refine ru_lload_n d_Mo_isClash_120 rfl rfl ?_
            refine ru_lconst (v := 0) d_Mo_isClash_121 (by decide) ?_
            refine ru_lcmp d_Mo_isClash_122 ?_
            refine ru_if_lt (tgt := 137) d_Mo_isClash_123 (by decide) (fun h123 => ?_) (fun h123 => ?_)
            · skip
              replace h123 := (lg_cmp_lt _ _).mp h123
              refine ru_iconst (v := 0) d_Mo_isClash_137 (by decide) ?_
              refine ru_zret (ty := .boolean) d_Mo_isClash_138 rfl rfl ?_
              first | exact ⟨by rw [bI_t (by grind)], rfl⟩ | exact ⟨by rw [bI_f (by grind)], rfl⟩
            · skip
              replace h123 := fun q => h123 ((lg_cmp_lt _ _).mpr q)
              refine ru_lload d_Mo_isClash_126 rfl ?_
              refine ru_lload_n d_Mo_isClash_128 rfl rfl ?_
              refine ru_lcmp d_Mo_isClash_129 ?_
              refine ru_if_ge (tgt := 137) d_Mo_isClash_130 (by decide) (fun h130 => ?_) (fun h130 => ?_)
              · skip
                replace h130 := (lg_cmp_ge _ _).mp h130
                refine ru_iconst (v := 0) d_Mo_isClash_137 (by decide) ?_
                refine ru_zret (ty := .boolean) d_Mo_isClash_138 rfl rfl ?_
                first | exact ⟨by rw [bI_t (by grind)], rfl⟩ | exact ⟨by rw [bI_f (by grind)], rfl⟩
              · skip
                replace h130 := fun q => h130 ((lg_cmp_ge _ _).mpr q)
                refine ru_iconst (v := 1) d_Mo_isClash_133 (by decide) ?_
                refine ru_goto (tgt := 138) d_Mo_isClash_134 (by decide) ?_
                refine ru_zret (ty := .boolean) d_Mo_isClash_138 rfl rfl ?_
                first | exact ⟨by rw [bI_t (by grind)], rfl⟩ | exact ⟨by rw [bI_f (by grind)], rfl⟩
        · skip
          replace h95 := fun q => h95 ((lg_cmp_lt _ _).mpr q)
          refine ru_lload d_Mo_isClash_98 rfl ?_
          refine ru_lconst (v := 0) d_Mo_isClash_100 (by decide) ?_
          refine ru_lcmp d_Mo_isClash_101 ?_
          refine ru_if_lt (tgt := 113) d_Mo_isClash_102 (by decide) (fun h102 => ?_) (fun h102 => ?_)
          · skip
            replace h102 := (lg_cmp_lt _ _).mp h102
            refine ru_lload d_Mo_isClash_113 rfl ?_
            refine ru_lconst (v := 0) d_Mo_isClash_115 (by decide) ?_
            refine ru_lcmp d_Mo_isClash_116 ?_
            refine ru_if_lt (tgt := 137) d_Mo_isClash_117 (by decide) (fun h117 => ?_) (fun h117 => ?_)
            · skip
              replace h117 := (lg_cmp_lt _ _).mp h117
              refine ru_iconst (v := 0) d_Mo_isClash_137 (by decide) ?_
              refine ru_zret (ty := .boolean) d_Mo_isClash_138 rfl rfl ?_
              first | exact ⟨by rw [bI_t (by grind)], rfl⟩ | exact ⟨by rw [bI_f (by grind)], rfl⟩
            · skip
              replace h117 := fun q => h117 ((lg_cmp_lt _ _).mpr q)
              refine ru_lload_n d_Mo_isClash_120 rfl rfl ?_
              refine ru_lconst (v := 0) d_Mo_isClash_121 (by decide) ?_
              refine ru_lcmp d_Mo_isClash_122 ?_
              refine ru_if_lt (tgt := 137) d_Mo_isClash_123 (by decide) (fun h123 => ?_) (fun h123 => ?_)
              · skip
                replace h123 := (lg_cmp_lt _ _).mp h123
                refine ru_iconst (v := 0) d_Mo_isClash_137 (by decide) ?_
                refine ru_zret (ty := .boolean) d_Mo_isClash_138 rfl rfl ?_
                first | exact ⟨by rw [bI_t (by grind)], rfl⟩ | exact ⟨by rw [bI_f (by grind)], rfl⟩
              · skip
                replace h123 := fun q => h123 ((lg_cmp_lt _ _).mpr q)
                refine ru_lload d_Mo_isClash_126 rfl ?_
                refine ru_lload_n d_Mo_isClash_128 rfl rfl ?_
                refine ru_lcmp d_Mo_isClash_129 ?_
                refine ru_if_ge (tgt := 137) d_Mo_isClash_130 (by decide) (fun h130 => ?_) (fun h130 => ?_)
                · skip
                  replace h130 := (lg_cmp_ge _ _).mp h130
                  refine ru_iconst (v := 0) d_Mo_isClash_137 (by decide) ?_
                  refine ru_zret (ty := .boolean) d_Mo_isClash_138 rfl rfl ?_
                  first | exact ⟨by rw [bI_t (by grind)], rfl⟩ | exact ⟨by rw [bI_f (by grind)], rfl⟩
                · skip
                  replace h130 := fun q => h130 ((lg_cmp_ge _ _).mpr q)
                  refine ru_iconst (v := 1) d_Mo_isClash_133 (by decide) ?_
                  refine ru_goto (tgt := 138) d_Mo_isClash_134 (by decide) ?_
                  refine ru_zret (ty := .boolean) d_Mo_isClash_138 rfl rfl ?_
                  first | exact ⟨by rw [bI_t (by grind)], rfl⟩ | exact ⟨by rw [bI_f (by grind)], rfl⟩
          · skip
            replace h102 := fun q => h102 ((lg_cmp_lt _ _).mpr q)
            refine ru_lload d_Mo_isClash_105 rfl ?_
            refine ru_lload d_Mo_isClash_107 rfl ?_
            refine ru_lcmp d_Mo_isClash_109 ?_
            refine ru_if_lt (tgt := 133) d_Mo_isClash_110 (by decide) (fun h110 => ?_) (fun h110 => ?_)
            · skip
              replace h110 := (lg_cmp_lt _ _).mp h110
              refine ru_iconst (v := 1) d_Mo_isClash_133 (by decide) ?_
              refine ru_goto (tgt := 138) d_Mo_isClash_134 (by decide) ?_
              refine ru_zret (ty := .boolean) d_Mo_isClash_138 rfl rfl ?_
              first | exact ⟨by rw [bI_t (by grind)], rfl⟩ | exact ⟨by rw [bI_f (by grind)], rfl⟩
            · skip
              replace h110 := fun q => h110 ((lg_cmp_lt _ _).mpr q)
              refine ru_lload d_Mo_isClash_113 rfl ?_
              refine ru_lconst (v := 0) d_Mo_isClash_115 (by decide) ?_
              refine ru_lcmp d_Mo_isClash_116 ?_
              refine ru_if_lt (tgt := 137) d_Mo_isClash_117 (by decide) (fun h117 => ?_) (fun h117 => ?_)
              · skip
                replace h117 := (lg_cmp_lt _ _).mp h117
                refine ru_iconst (v := 0) d_Mo_isClash_137 (by decide) ?_
                refine ru_zret (ty := .boolean) d_Mo_isClash_138 rfl rfl ?_
                first | exact ⟨by rw [bI_t (by grind)], rfl⟩ | exact ⟨by rw [bI_f (by grind)], rfl⟩
              · skip
                replace h117 := fun q => h117 ((lg_cmp_lt _ _).mpr q)
                refine ru_lload_n d_Mo_isClash_120 rfl rfl ?_
                refine ru_lconst (v := 0) d_Mo_isClash_121 (by decide) ?_
                refine ru_lcmp d_Mo_isClash_122 ?_
                refine ru_if_lt (tgt := 137) d_Mo_isClash_123 (by decide) (fun h123 => ?_) (fun h123 => ?_)
                · skip
                  replace h123 := (lg_cmp_lt _ _).mp h123
                  refine ru_iconst (v := 0) d_Mo_isClash_137 (by decide) ?_
                  refine ru_zret (ty := .boolean) d_Mo_isClash_138 rfl rfl ?_
                  first | exact ⟨by rw [bI_t (by grind)], rfl⟩ | exact ⟨by rw [bI_f (by grind)], rfl⟩
                · skip
                  replace h123 := fun q => h123 ((lg_cmp_lt _ _).mpr q)
                  refine ru_lload d_Mo_isClash_126 rfl ?_
                  refine ru_lload_n d_Mo_isClash_128 rfl rfl ?_
                  refine ru_lcmp d_Mo_isClash_129 ?_
                  refine ru_if_ge (tgt := 137) d_Mo_isClash_130 (by decide) (fun h130 => ?_) (fun h130 => ?_)
                  · skip
                    replace h130 := (lg_cmp_ge _ _).mp h130
                    refine ru_iconst (v := 0) d_Mo_isClash_137 (by decide) ?_
                    refine ru_zret (ty := .boolean) d_Mo_isClash_138 rfl rfl ?_
                    first | exact ⟨by rw [bI_t (by grind)], rfl⟩ | exact ⟨by rw [bI_f (by grind)], rfl⟩
                  · skip
                    replace h130 := fun q => h130 ((lg_cmp_ge _ _).mpr q)
                    refine ru_iconst (v := 1) d_Mo_isClash_133 (by decide) ?_
                    refine ru_goto (tgt := 138) d_Mo_isClash_134 (by decide) ?_
                    refine ru_zret (ty := .boolean) d_Mo_isClash_138 rfl rfl ?_
                    first | exact ⟨by rw [bI_t (by grind)], rfl⟩ | exact ⟨by rw [bI_f (by grind)], rfl⟩
      · skip
        replace h31 := bI_eq0.mp h31
        refine ru_iconst (v := 0) d_Mo_isClash_34 (by decide) ?_
        refine ru_zret (ty := .boolean) d_Mo_isClash_35 rfl rfl ?_
        first | exact ⟨by rw [bI_t (by grind)], rfl⟩ | exact ⟨by rw [bI_f (by grind)], rfl⟩
theorem sp_Mo_rule {n k w : Nat} (hL : LAY nx ct mr) (hn : mi 398 7 = nI n) (hn2 : n ≤ 60) (hk : k < n) (hw : w < 8) : rx_Calls y_Mo_rule M_Mo_rule 1 0 0 [.ref 398, .int (nI k), .int (nI w)] (nx, ct, mi, ml, mr) (fun v τ => v = some (.int (ml 404 (12 * k + w)).toInt32) ∧ τ = (nx, ct, rx_u mi 398 0 0, ml, mr)) := by
  refine rx_enter (by decide) rfl rfl (Nat.le_of_ble_eq_true rfl) ?_
  refine ru_aload_n d_Mo_rule_0 rfl rfl ?_
  refine ru_aload_n d_Mo_rule_1 rfl rfl ?_
  refine ru_iload_n d_Mo_rule_2 rfl rfl ?_
  refine ru_callV (mc := 0) (ms := 0) d_Mo_rule_3 lm_Mo_192 (sp_Mo_isRuleN hL hn hn2 (by omega)) (rx_recv_is (ly hL 398 9 0) kx_Mo) (by decide) rfl (by decide) ?_
  intro v τ h
  obtain ⟨rfl, rfl⟩ := h
  refine ru_if_eq (tgt := 23) d_Mo_rule_6 (by decide) (fun h6 => ?_) (fun h6 => ?_)
  · skip
    replace h6 := bI_eq0.mp h6
    refine ru_iconst (v := 1) d_Mo_rule_23 (by decide) ?_
    refine ru_putI d_Mo_rule_24 lf_Mo_39 (ly hL 398 9 0) rfl (fun q hq => by cases hq; exact Or.inl rfl) ⟨rfl, rfl⟩ ?_
    refine ru_aload_n d_Mo_rule_27 rfl rfl ?_
    refine ru_getI d_Mo_rule_28 lf_Mo_39 (ly hL 398 9 0) rfl ?_
    rw [rx_u_same]
    refine ru_if_ne (tgt := 49) d_Mo_rule_31 (by decide) (fun h31 => ?_) (fun h31 => absurd h31 (by decide))
    refine ru_iconst (v := 0) d_Mo_rule_49 (by decide) ?_
    refine ru_iret d_Mo_rule_50 rfl ?_
    first | (exfalso; omega) | exact ⟨rfl, rfl⟩
  · skip
    replace h6 := bI_ne0.mp h6
    refine ru_iload_n d_Mo_rule_9 rfl rfl ?_
    refine ru_if_lt (tgt := 23) d_Mo_rule_10 (by decide) (fun h10 => ?_) (fun h10 => ?_)
    · skip
      replace h10 := nm_lt (a := w) (b := 0) (by omega) (by omega) h10
      refine ru_iconst (v := 1) d_Mo_rule_23 (by decide) ?_
      refine ru_putI d_Mo_rule_24 lf_Mo_39 (ly hL 398 9 0) rfl (fun q hq => by cases hq; exact Or.inl rfl) ⟨rfl, rfl⟩ ?_
      refine ru_aload_n d_Mo_rule_27 rfl rfl ?_
      refine ru_getI d_Mo_rule_28 lf_Mo_39 (ly hL 398 9 0) rfl ?_
      rw [rx_u_same]
      refine ru_if_ne (tgt := 49) d_Mo_rule_31 (by decide) (fun h31 => ?_) (fun h31 => absurd h31 (by decide))
      refine ru_iconst (v := 0) d_Mo_rule_49 (by decide) ?_
      refine ru_iret d_Mo_rule_50 rfl ?_
      first | (exfalso; omega) | exact ⟨rfl, rfl⟩
    · skip
      replace h10 := nm_nlt (a := w) (b := 0) (by omega) (by omega) h10
      refine ru_iload_n d_Mo_rule_13 rfl rfl ?_
      refine ru_bipush (v := 8) d_Mo_rule_14 (by decide) ?_
      refine ru_icmp_ge (tgt := 23) d_Mo_rule_16 (by decide) (fun h16 => ?_) (fun h16 => ?_)
      · skip
        replace h16 := nm_le (a := 8) (b := w) (by omega) (by omega) h16
        refine ru_iconst (v := 1) d_Mo_rule_23 (by decide) ?_
        refine ru_putI d_Mo_rule_24 lf_Mo_39 (ly hL 398 9 0) rfl (fun q hq => by cases hq; exact Or.inl rfl) ⟨rfl, rfl⟩ ?_
        refine ru_aload_n d_Mo_rule_27 rfl rfl ?_
        refine ru_getI d_Mo_rule_28 lf_Mo_39 (ly hL 398 9 0) rfl ?_
        rw [rx_u_same]
        refine ru_if_ne (tgt := 49) d_Mo_rule_31 (by decide) (fun h31 => ?_) (fun h31 => absurd h31 (by decide))
        refine ru_iconst (v := 0) d_Mo_rule_49 (by decide) ?_
        refine ru_iret d_Mo_rule_50 rfl ?_
        first | (exfalso; omega) | exact ⟨rfl, rfl⟩
      · skip
        replace h16 := nm_nle (a := 8) (b := w) (by omega) (by omega) h16
        refine ru_iconst (v := 0) d_Mo_rule_19 (by decide) ?_
        refine ru_goto (tgt := 24) d_Mo_rule_20 (by decide) ?_
        refine ru_putI d_Mo_rule_24 lf_Mo_39 (ly hL 398 9 0) rfl (fun q hq => by cases hq; exact Or.inl rfl) ⟨rfl, rfl⟩ ?_
        refine ru_aload_n d_Mo_rule_27 rfl rfl ?_
        refine ru_getI d_Mo_rule_28 lf_Mo_39 (ly hL 398 9 0) rfl ?_
        rw [rx_u_same]
        refine ru_if_ne (tgt := 49) d_Mo_rule_31 (by decide) (fun h31 => absurd h31 (by decide)) (fun h31 => ?_)
        refine ru_aload_n d_Mo_rule_34 rfl rfl ?_
        refine ru_getR d_Mo_rule_35 lf_Mo_27 (ly hL 398 9 0) rfl (lr hL 398 8 404) ?_
        refine ru_bipush (v := 12) d_Mo_rule_38 (by decide) ?_
        refine ru_iload_n d_Mo_rule_40 rfl rfl ?_
        refine ru_imul d_Mo_rule_41 ?_
        refine ru_eqi (nm_mul 12 k : _ = nI (12 * k)) ?_
        refine ru_iload_n d_Mo_rule_42 rfl rfl ?_
        refine ru_iadd d_Mo_rule_43 ?_
        refine ru_eqi (nm_add (12 * k) w : _ = nI ((12 * k) + w)) ?_
        refine ru_laldN (j := ((12 * k) + w)) d_Mo_rule_44 (ly hL 404 104 1440) (by omega) (by decide) ?_
        refine ru_l2i d_Mo_rule_45 ?_
        refine ru_goto (tgt := 50) d_Mo_rule_46 (by decide) ?_
        refine ru_iret d_Mo_rule_50 rfl ?_
        first | (exfalso; omega) | exact ⟨rfl, rfl⟩
theorem sp_Mo_rule0 {n : Nat} {k w : Int32} (hL : LAY nx ct mr) (hn : mi 398 7 = nI n) (hn2 : n ≤ 60) (hk : ¬ ((0 ≤ k.toInt ∧ k.toInt < n) ∧ 0 ≤ w.toInt ∧ w.toInt < 8)) : rx_Calls y_Mo_rule M_Mo_rule 1 0 0 [.ref 398, .int k, .int w] (nx, ct, mi, ml, mr) (fun v τ => v = some (.int 0) ∧ τ = (nx, ct, rx_u mi 398 0 1, ml, mr)) := by
  refine rx_enter (by decide) rfl rfl (Nat.le_of_ble_eq_true rfl) ?_
  refine ru_aload_n d_Mo_rule_0 rfl rfl ?_
  refine ru_aload_n d_Mo_rule_1 rfl rfl ?_
  refine ru_iload_n d_Mo_rule_2 rfl rfl ?_
  refine ru_callV (mc := 0) (ms := 0) d_Mo_rule_3 lm_Mo_192 (sp_Mo_isRule hL k hn hn2) (rx_recv_is (ly hL 398 9 0) kx_Mo) (by decide) rfl (by decide) ?_
  intro v τ h
  obtain ⟨rfl, rfl⟩ := h
  refine ru_if_eq (tgt := 23) d_Mo_rule_6 (by decide) (fun h6 => ?_) (fun h6 => ?_)
  · skip
    replace h6 := bI_eq0.mp h6
    refine ru_iconst (v := 1) d_Mo_rule_23 (by decide) ?_
    refine ru_putI d_Mo_rule_24 lf_Mo_39 (ly hL 398 9 0) rfl (fun q hq => by cases hq; exact Or.inl rfl) ⟨rfl, rfl⟩ ?_
    refine ru_aload_n d_Mo_rule_27 rfl rfl ?_
    refine ru_getI d_Mo_rule_28 lf_Mo_39 (ly hL 398 9 0) rfl ?_
    rw [rx_u_same]
    refine ru_if_ne (tgt := 49) d_Mo_rule_31 (by decide) (fun h31 => ?_) (fun h31 => absurd h31 (by decide))
    refine ru_iconst (v := 0) d_Mo_rule_49 (by decide) ?_
    refine ru_iret d_Mo_rule_50 rfl ?_
    exact ⟨rfl, rfl⟩
  · skip
    replace h6 := bI_ne0.mp h6
    refine ru_iload_n d_Mo_rule_9 rfl rfl ?_
    refine ru_if_lt (tgt := 23) d_Mo_rule_10 (by decide) (fun h10 => ?_) (fun h10 => ?_)
    · skip
      refine ru_iconst (v := 1) d_Mo_rule_23 (by decide) ?_
      refine ru_putI d_Mo_rule_24 lf_Mo_39 (ly hL 398 9 0) rfl (fun q hq => by cases hq; exact Or.inl rfl) ⟨rfl, rfl⟩ ?_
      refine ru_aload_n d_Mo_rule_27 rfl rfl ?_
      refine ru_getI d_Mo_rule_28 lf_Mo_39 (ly hL 398 9 0) rfl ?_
      rw [rx_u_same]
      refine ru_if_ne (tgt := 49) d_Mo_rule_31 (by decide) (fun h31 => ?_) (fun h31 => absurd h31 (by decide))
      refine ru_iconst (v := 0) d_Mo_rule_49 (by decide) ?_
      refine ru_iret d_Mo_rule_50 rfl ?_
      exact ⟨rfl, rfl⟩
    · skip
      refine ru_iload_n d_Mo_rule_13 rfl rfl ?_
      refine ru_bipush (v := 8) d_Mo_rule_14 (by decide) ?_
      refine ru_icmp_ge (tgt := 23) d_Mo_rule_16 (by decide) (fun h16 => ?_) (fun h16 => ?_)
      · skip
        refine ru_iconst (v := 1) d_Mo_rule_23 (by decide) ?_
        refine ru_putI d_Mo_rule_24 lf_Mo_39 (ly hL 398 9 0) rfl (fun q hq => by cases hq; exact Or.inl rfl) ⟨rfl, rfl⟩ ?_
        refine ru_aload_n d_Mo_rule_27 rfl rfl ?_
        refine ru_getI d_Mo_rule_28 lf_Mo_39 (ly hL 398 9 0) rfl ?_
        rw [rx_u_same]
        refine ru_if_ne (tgt := 49) d_Mo_rule_31 (by decide) (fun h31 => ?_) (fun h31 => absurd h31 (by decide))
        refine ru_iconst (v := 0) d_Mo_rule_49 (by decide) ?_
        refine ru_iret d_Mo_rule_50 rfl ?_
        exact ⟨rfl, rfl⟩
      · skip
        exfalso; ((try simp only [isLet, isDig, isLD, isTC, il, ie, iq, i_m1, i_0, i_1, i_2, i_7, i_8, i_10, i_15, i_32, i_46, i_48, i_57, i_59, i_97, i_122] at *); omega)
theorem sp_Mo_value {n k w : Nat} (hL : LAY nx ct mr) (hn : mi 398 7 = nI n) (hn2 : n ≤ 60) (hk : k < n) (hw : w < 2) : rx_Calls y_Mo_value_II M_Mo_value_II 1 0 0 [.ref 398, .int (nI k), .int (nI w)] (nx, ct, mi, ml, mr) (fun v τ => v = some (.long (ml 404 (12 * k + 8 + w))) ∧ τ = (nx, ct, rx_u mi 398 0 0, ml, mr)) := by
  refine rx_enter (by decide) rfl rfl (Nat.le_of_ble_eq_true rfl) ?_
  refine ru_aload_n d_Mo_value_II_0 rfl rfl ?_
  refine ru_aload_n d_Mo_value_II_1 rfl rfl ?_
  refine ru_iload_n d_Mo_value_II_2 rfl rfl ?_
  refine ru_callV (mc := 0) (ms := 0) d_Mo_value_II_3 lm_Mo_192 (sp_Mo_isRuleN hL hn hn2 (by omega)) (rx_recv_is (ly hL 398 9 0) kx_Mo) (by decide) rfl (by decide) ?_
  intro v τ h
  obtain ⟨rfl, rfl⟩ := h
  refine ru_if_eq (tgt := 22) d_Mo_value_II_6 (by decide) (fun h6 => ?_) (fun h6 => ?_)
  · skip
    replace h6 := bI_eq0.mp h6
    refine ru_iconst (v := 1) d_Mo_value_II_22 (by decide) ?_
    refine ru_putI d_Mo_value_II_23 lf_Mo_39 (ly hL 398 9 0) rfl (fun q hq => by cases hq; exact Or.inl rfl) ⟨rfl, rfl⟩ ?_
    refine ru_aload_n d_Mo_value_II_26 rfl rfl ?_
    refine ru_getI d_Mo_value_II_27 lf_Mo_39 (ly hL 398 9 0) rfl ?_
    rw [rx_u_same]
    refine ru_if_ne (tgt := 50) d_Mo_value_II_30 (by decide) (fun h30 => ?_) (fun h30 => absurd h30 (by decide))
    refine ru_lconst (v := 0) d_Mo_value_II_50 (by decide) ?_
    refine ru_lret d_Mo_value_II_51 rfl ?_
    first | (exfalso; omega) | exact ⟨rfl, rfl⟩
  · skip
    replace h6 := bI_ne0.mp h6
    refine ru_iload_n d_Mo_value_II_9 rfl rfl ?_
    refine ru_if_lt (tgt := 22) d_Mo_value_II_10 (by decide) (fun h10 => ?_) (fun h10 => ?_)
    · skip
      replace h10 := nm_lt (a := w) (b := 0) (by omega) (by omega) h10
      refine ru_iconst (v := 1) d_Mo_value_II_22 (by decide) ?_
      refine ru_putI d_Mo_value_II_23 lf_Mo_39 (ly hL 398 9 0) rfl (fun q hq => by cases hq; exact Or.inl rfl) ⟨rfl, rfl⟩ ?_
      refine ru_aload_n d_Mo_value_II_26 rfl rfl ?_
      refine ru_getI d_Mo_value_II_27 lf_Mo_39 (ly hL 398 9 0) rfl ?_
      rw [rx_u_same]
      refine ru_if_ne (tgt := 50) d_Mo_value_II_30 (by decide) (fun h30 => ?_) (fun h30 => absurd h30 (by decide))
      refine ru_lconst (v := 0) d_Mo_value_II_50 (by decide) ?_
      refine ru_lret d_Mo_value_II_51 rfl ?_
      first | (exfalso; omega) | exact ⟨rfl, rfl⟩
    · skip
      replace h10 := nm_nlt (a := w) (b := 0) (by omega) (by omega) h10
      refine ru_iload_n d_Mo_value_II_13 rfl rfl ?_
      refine ru_iconst (v := 2) d_Mo_value_II_14 (by decide) ?_
      refine ru_icmp_ge (tgt := 22) d_Mo_value_II_15 (by decide) (fun h15 => ?_) (fun h15 => ?_)
      · skip
        replace h15 := nm_le (a := 2) (b := w) (by omega) (by omega) h15
        refine ru_iconst (v := 1) d_Mo_value_II_22 (by decide) ?_
        refine ru_putI d_Mo_value_II_23 lf_Mo_39 (ly hL 398 9 0) rfl (fun q hq => by cases hq; exact Or.inl rfl) ⟨rfl, rfl⟩ ?_
        refine ru_aload_n d_Mo_value_II_26 rfl rfl ?_
        refine ru_getI d_Mo_value_II_27 lf_Mo_39 (ly hL 398 9 0) rfl ?_
        rw [rx_u_same]
        refine ru_if_ne (tgt := 50) d_Mo_value_II_30 (by decide) (fun h30 => ?_) (fun h30 => absurd h30 (by decide))
        refine ru_lconst (v := 0) d_Mo_value_II_50 (by decide) ?_
        refine ru_lret d_Mo_value_II_51 rfl ?_
        first | (exfalso; omega) | exact ⟨rfl, rfl⟩
      · skip
        replace h15 := nm_nle (a := 2) (b := w) (by omega) (by omega) h15
        refine ru_iconst (v := 0) d_Mo_value_II_18 (by decide) ?_
        refine ru_goto (tgt := 23) d_Mo_value_II_19 (by decide) ?_
        refine ru_putI d_Mo_value_II_23 lf_Mo_39 (ly hL 398 9 0) rfl (fun q hq => by cases hq; exact Or.inl rfl) ⟨rfl, rfl⟩ ?_
        refine ru_aload_n d_Mo_value_II_26 rfl rfl ?_
        refine ru_getI d_Mo_value_II_27 lf_Mo_39 (ly hL 398 9 0) rfl ?_
        rw [rx_u_same]
        refine ru_if_ne (tgt := 50) d_Mo_value_II_30 (by decide) (fun h30 => absurd h30 (by decide)) (fun h30 => ?_)
        refine ru_aload_n d_Mo_value_II_33 rfl rfl ?_
        refine ru_getR d_Mo_value_II_34 lf_Mo_27 (ly hL 398 9 0) rfl (lr hL 398 8 404) ?_
        refine ru_bipush (v := 12) d_Mo_value_II_37 (by decide) ?_
        refine ru_iload_n d_Mo_value_II_39 rfl rfl ?_
        refine ru_imul d_Mo_value_II_40 ?_
        refine ru_eqi (nm_mul 12 k : _ = nI (12 * k)) ?_
        refine ru_bipush (v := 8) d_Mo_value_II_41 (by decide) ?_
        refine ru_iadd d_Mo_value_II_43 ?_
        refine ru_eqi (nm_add (12 * k) 8 : _ = nI ((12 * k) + 8)) ?_
        refine ru_iload_n d_Mo_value_II_44 rfl rfl ?_
        refine ru_iadd d_Mo_value_II_45 ?_
        refine ru_eqi (nm_add ((12 * k) + 8) w : _ = nI (((12 * k) + 8) + w)) ?_
        refine ru_laldN (j := (((12 * k) + 8) + w)) d_Mo_value_II_46 (ly hL 404 104 1440) (by omega) (by decide) ?_
        refine ru_goto (tgt := 51) d_Mo_value_II_47 (by decide) ?_
        refine ru_lret d_Mo_value_II_51 rfl ?_
        first | (exfalso; omega) | exact ⟨rfl, rfl⟩
theorem sp_Mo_value0 {n : Nat} {k w : Int32} (hL : LAY nx ct mr) (hn : mi 398 7 = nI n) (hn2 : n ≤ 60) (hk : ¬ ((0 ≤ k.toInt ∧ k.toInt < n) ∧ 0 ≤ w.toInt ∧ w.toInt < 2)) : rx_Calls y_Mo_value_II M_Mo_value_II 1 0 0 [.ref 398, .int k, .int w] (nx, ct, mi, ml, mr) (fun v τ => v = some (.long 0) ∧ τ = (nx, ct, rx_u mi 398 0 1, ml, mr)) := by
  refine rx_enter (by decide) rfl rfl (Nat.le_of_ble_eq_true rfl) ?_
  refine ru_aload_n d_Mo_value_II_0 rfl rfl ?_
  refine ru_aload_n d_Mo_value_II_1 rfl rfl ?_
  refine ru_iload_n d_Mo_value_II_2 rfl rfl ?_
  refine ru_callV (mc := 0) (ms := 0) d_Mo_value_II_3 lm_Mo_192 (sp_Mo_isRule hL k hn hn2) (rx_recv_is (ly hL 398 9 0) kx_Mo) (by decide) rfl (by decide) ?_
  intro v τ h
  obtain ⟨rfl, rfl⟩ := h
  refine ru_if_eq (tgt := 22) d_Mo_value_II_6 (by decide) (fun h6 => ?_) (fun h6 => ?_)
  · skip
    replace h6 := bI_eq0.mp h6
    refine ru_iconst (v := 1) d_Mo_value_II_22 (by decide) ?_
    refine ru_putI d_Mo_value_II_23 lf_Mo_39 (ly hL 398 9 0) rfl (fun q hq => by cases hq; exact Or.inl rfl) ⟨rfl, rfl⟩ ?_
    refine ru_aload_n d_Mo_value_II_26 rfl rfl ?_
    refine ru_getI d_Mo_value_II_27 lf_Mo_39 (ly hL 398 9 0) rfl ?_
    rw [rx_u_same]
    refine ru_if_ne (tgt := 50) d_Mo_value_II_30 (by decide) (fun h30 => ?_) (fun h30 => absurd h30 (by decide))
    refine ru_lconst (v := 0) d_Mo_value_II_50 (by decide) ?_
    refine ru_lret d_Mo_value_II_51 rfl ?_
    exact ⟨rfl, rfl⟩
  · skip
    replace h6 := bI_ne0.mp h6
    refine ru_iload_n d_Mo_value_II_9 rfl rfl ?_
    refine ru_if_lt (tgt := 22) d_Mo_value_II_10 (by decide) (fun h10 => ?_) (fun h10 => ?_)
    · skip
      refine ru_iconst (v := 1) d_Mo_value_II_22 (by decide) ?_
      refine ru_putI d_Mo_value_II_23 lf_Mo_39 (ly hL 398 9 0) rfl (fun q hq => by cases hq; exact Or.inl rfl) ⟨rfl, rfl⟩ ?_
      refine ru_aload_n d_Mo_value_II_26 rfl rfl ?_
      refine ru_getI d_Mo_value_II_27 lf_Mo_39 (ly hL 398 9 0) rfl ?_
      rw [rx_u_same]
      refine ru_if_ne (tgt := 50) d_Mo_value_II_30 (by decide) (fun h30 => ?_) (fun h30 => absurd h30 (by decide))
      refine ru_lconst (v := 0) d_Mo_value_II_50 (by decide) ?_
      refine ru_lret d_Mo_value_II_51 rfl ?_
      exact ⟨rfl, rfl⟩
    · skip
      refine ru_iload_n d_Mo_value_II_13 rfl rfl ?_
      refine ru_iconst (v := 2) d_Mo_value_II_14 (by decide) ?_
      refine ru_icmp_ge (tgt := 22) d_Mo_value_II_15 (by decide) (fun h15 => ?_) (fun h15 => ?_)
      · skip
        refine ru_iconst (v := 1) d_Mo_value_II_22 (by decide) ?_
        refine ru_putI d_Mo_value_II_23 lf_Mo_39 (ly hL 398 9 0) rfl (fun q hq => by cases hq; exact Or.inl rfl) ⟨rfl, rfl⟩ ?_
        refine ru_aload_n d_Mo_value_II_26 rfl rfl ?_
        refine ru_getI d_Mo_value_II_27 lf_Mo_39 (ly hL 398 9 0) rfl ?_
        rw [rx_u_same]
        refine ru_if_ne (tgt := 50) d_Mo_value_II_30 (by decide) (fun h30 => ?_) (fun h30 => absurd h30 (by decide))
        refine ru_lconst (v := 0) d_Mo_value_II_50 (by decide) ?_
        refine ru_lret d_Mo_value_II_51 rfl ?_
        exact ⟨rfl, rfl⟩
      · skip
        exfalso; ((try simp only [isLet, isDig, isLD, isTC, il, ie, iq, i_m1, i_0, i_1, i_2, i_7, i_8, i_10, i_15, i_32, i_46, i_48, i_57, i_59, i_97, i_122] at *); omega)
theorem sp_Mo_line {n k : Nat} (hL : LAY nx ct mr) (hn : mi 398 7 = nI n) (hn2 : n ≤ 60) (hk : k < n) : rx_Calls y_Mo_line M_Mo_line 1 0 0 [.ref 398, .int (nI k)] (nx, ct, mi, ml, mr) (fun v τ => v = some (.int (ml 404 (12 * k + 10)).toInt32) ∧ τ = (nx, ct, rx_u mi 398 0 0, ml, mr)) := by
  refine rx_enter (by decide) rfl rfl (Nat.le_of_ble_eq_true rfl) ?_
  refine ru_aload_n d_Mo_line_0 rfl rfl ?_
  refine ru_aload_n d_Mo_line_1 rfl rfl ?_
  refine ru_iload_n d_Mo_line_2 rfl rfl ?_
  refine ru_callV (mc := 0) (ms := 0) d_Mo_line_3 lm_Mo_192 (sp_Mo_isRuleN hL hn hn2 (by omega)) (rx_recv_is (ly hL 398 9 0) kx_Mo) (by decide) rfl (by decide) ?_
  intro v τ h
  obtain ⟨rfl, rfl⟩ := h
  refine ru_if_eq (tgt := 13) d_Mo_line_6 (by decide) (fun h6 => ?_) (fun h6 => ?_)
  · skip
    replace h6 := bI_eq0.mp h6
    refine ru_iconst (v := 1) d_Mo_line_13 (by decide) ?_
    refine ru_putI d_Mo_line_14 lf_Mo_39 (ly hL 398 9 0) rfl (fun q hq => by cases hq; exact Or.inl rfl) ⟨rfl, rfl⟩ ?_
    refine ru_aload_n d_Mo_line_17 rfl rfl ?_
    refine ru_getI d_Mo_line_18 lf_Mo_39 (ly hL 398 9 0) rfl ?_
    rw [rx_u_same]
    refine ru_if_ne (tgt := 40) d_Mo_line_21 (by decide) (fun h21 => ?_) (fun h21 => absurd h21 (by decide))
    refine ru_iconst (v := 0) d_Mo_line_40 (by decide) ?_
    refine ru_iret d_Mo_line_41 rfl ?_
    first | (exfalso; omega) | exact ⟨rfl, rfl⟩
  · skip
    replace h6 := bI_ne0.mp h6
    refine ru_iconst (v := 0) d_Mo_line_9 (by decide) ?_
    refine ru_goto (tgt := 14) d_Mo_line_10 (by decide) ?_
    refine ru_putI d_Mo_line_14 lf_Mo_39 (ly hL 398 9 0) rfl (fun q hq => by cases hq; exact Or.inl rfl) ⟨rfl, rfl⟩ ?_
    refine ru_aload_n d_Mo_line_17 rfl rfl ?_
    refine ru_getI d_Mo_line_18 lf_Mo_39 (ly hL 398 9 0) rfl ?_
    rw [rx_u_same]
    refine ru_if_ne (tgt := 40) d_Mo_line_21 (by decide) (fun h21 => absurd h21 (by decide)) (fun h21 => ?_)
    refine ru_aload_n d_Mo_line_24 rfl rfl ?_
    refine ru_getR d_Mo_line_25 lf_Mo_27 (ly hL 398 9 0) rfl (lr hL 398 8 404) ?_
    refine ru_bipush (v := 12) d_Mo_line_28 (by decide) ?_
    refine ru_iload_n d_Mo_line_30 rfl rfl ?_
    refine ru_imul d_Mo_line_31 ?_
    refine ru_eqi (nm_mul 12 k : _ = nI (12 * k)) ?_
    refine ru_bipush (v := 10) d_Mo_line_32 (by decide) ?_
    refine ru_iadd d_Mo_line_34 ?_
    refine ru_eqi (nm_add (12 * k) 10 : _ = nI ((12 * k) + 10)) ?_
    refine ru_laldN (j := ((12 * k) + 10)) d_Mo_line_35 (ly hL 404 104 1440) (by omega) (by decide) ?_
    refine ru_l2i d_Mo_line_36 ?_
    refine ru_goto (tgt := 41) d_Mo_line_37 (by decide) ?_
    refine ru_iret d_Mo_line_41 rfl ?_
    first | (exfalso; omega) | exact ⟨rfl, rfl⟩
theorem sp_Mo_line0 {n : Nat} {k : Int32} (hL : LAY nx ct mr) (hn : mi 398 7 = nI n) (hn2 : n ≤ 60) (hk : ¬ (0 ≤ k.toInt ∧ k.toInt < n)) : rx_Calls y_Mo_line M_Mo_line 1 0 0 [.ref 398, .int k] (nx, ct, mi, ml, mr) (fun v τ => v = some (.int 0) ∧ τ = (nx, ct, rx_u mi 398 0 1, ml, mr)) := by
  refine rx_enter (by decide) rfl rfl (Nat.le_of_ble_eq_true rfl) ?_
  refine ru_aload_n d_Mo_line_0 rfl rfl ?_
  refine ru_aload_n d_Mo_line_1 rfl rfl ?_
  refine ru_iload_n d_Mo_line_2 rfl rfl ?_
  refine ru_callV (mc := 0) (ms := 0) d_Mo_line_3 lm_Mo_192 (sp_Mo_isRule hL k hn hn2) (rx_recv_is (ly hL 398 9 0) kx_Mo) (by decide) rfl (by decide) ?_
  intro v τ h
  obtain ⟨rfl, rfl⟩ := h
  refine ru_if_eq (tgt := 13) d_Mo_line_6 (by decide) (fun h6 => ?_) (fun h6 => ?_)
  · skip
    replace h6 := bI_eq0.mp h6
    refine ru_iconst (v := 1) d_Mo_line_13 (by decide) ?_
    refine ru_putI d_Mo_line_14 lf_Mo_39 (ly hL 398 9 0) rfl (fun q hq => by cases hq; exact Or.inl rfl) ⟨rfl, rfl⟩ ?_
    refine ru_aload_n d_Mo_line_17 rfl rfl ?_
    refine ru_getI d_Mo_line_18 lf_Mo_39 (ly hL 398 9 0) rfl ?_
    rw [rx_u_same]
    refine ru_if_ne (tgt := 40) d_Mo_line_21 (by decide) (fun h21 => ?_) (fun h21 => absurd h21 (by decide))
    refine ru_iconst (v := 0) d_Mo_line_40 (by decide) ?_
    refine ru_iret d_Mo_line_41 rfl ?_
    exact ⟨rfl, rfl⟩
  · skip
    replace h6 := bI_ne0.mp h6
    exact absurd h6 hk
end
end
section
/-! The reference: rank, never, clash, kinds -/
theorem d_Mo_rank_0 : decode M_Mo_rank.2.1 0 = .ok (.aload_n 0, 1) := by decide +kernel
theorem d_Mo_rank_1 : decode M_Mo_rank.2.1 1 = .ok (.aload_n 0, 1) := by decide +kernel
theorem d_Mo_rank_2 : decode M_Mo_rank.2.1 2 = .ok (.iload_n 1, 1) := by decide +kernel
theorem d_Mo_rank_3 : decode M_Mo_rank.2.1 3 = .ok (.invokevirtual 192, 3) := by decide +kernel
theorem d_Mo_rank_6 : decode M_Mo_rank.2.1 6 = .ok (.ifCond .eq 7, 3) := by decide +kernel
theorem d_Mo_rank_9 : decode M_Mo_rank.2.1 9 = .ok (.iconst 0, 1) := by decide +kernel
theorem d_Mo_rank_10 : decode M_Mo_rank.2.1 10 = .ok (.goto 4, 3) := by decide +kernel
theorem d_Mo_rank_13 : decode M_Mo_rank.2.1 13 = .ok (.iconst 1, 1) := by decide +kernel
theorem d_Mo_rank_14 : decode M_Mo_rank.2.1 14 = .ok (.putfield 39, 3) := by decide +kernel
theorem d_Mo_rank_17 : decode M_Mo_rank.2.1 17 = .ok (.iconst 0, 1) := by decide +kernel
theorem d_Mo_rank_18 : decode M_Mo_rank.2.1 18 = .ok (.istore_n 2, 1) := by decide +kernel
theorem d_Mo_rank_19 : decode M_Mo_rank.2.1 19 = .ok (.iconst 0, 1) := by decide +kernel
theorem d_Mo_rank_20 : decode M_Mo_rank.2.1 20 = .ok (.istore_n 3, 1) := by decide +kernel
theorem d_Mo_rank_21 : decode M_Mo_rank.2.1 21 = .ok (.aload_n 0, 1) := by decide +kernel
theorem d_Mo_rank_22 : decode M_Mo_rank.2.1 22 = .ok (.getfield 39, 3) := by decide +kernel
theorem d_Mo_rank_25 : decode M_Mo_rank.2.1 25 = .ok (.ifCond .ne 34, 3) := by decide +kernel
theorem d_Mo_rank_28 : decode M_Mo_rank.2.1 28 = .ok (.iload_n 3, 1) := by decide +kernel
theorem d_Mo_rank_29 : decode M_Mo_rank.2.1 29 = .ok (.aload_n 0, 1) := by decide +kernel
theorem d_Mo_rank_30 : decode M_Mo_rank.2.1 30 = .ok (.getfield 189, 3) := by decide +kernel
theorem d_Mo_rank_33 : decode M_Mo_rank.2.1 33 = .ok (.if_icmp .ge 26, 3) := by decide +kernel
theorem d_Mo_rank_36 : decode M_Mo_rank.2.1 36 = .ok (.iload_n 2, 1) := by decide +kernel
theorem d_Mo_rank_37 : decode M_Mo_rank.2.1 37 = .ok (.aload_n 0, 1) := by decide +kernel
theorem d_Mo_rank_38 : decode M_Mo_rank.2.1 38 = .ok (.iload_n 3, 1) := by decide +kernel
theorem d_Mo_rank_39 : decode M_Mo_rank.2.1 39 = .ok (.iload_n 1, 1) := by decide +kernel
theorem d_Mo_rank_40 : decode M_Mo_rank.2.1 40 = .ok (.invokevirtual 197, 3) := by decide +kernel
theorem d_Mo_rank_43 : decode M_Mo_rank.2.1 43 = .ok (.ifCond .eq 7, 3) := by decide +kernel
theorem d_Mo_rank_46 : decode M_Mo_rank.2.1 46 = .ok (.iconst 1, 1) := by decide +kernel
theorem d_Mo_rank_47 : decode M_Mo_rank.2.1 47 = .ok (.goto 4, 3) := by decide +kernel
theorem d_Mo_rank_50 : decode M_Mo_rank.2.1 50 = .ok (.iconst 0, 1) := by decide +kernel
theorem d_Mo_rank_51 : decode M_Mo_rank.2.1 51 = .ok (.iadd, 1) := by decide +kernel
theorem d_Mo_rank_52 : decode M_Mo_rank.2.1 52 = .ok (.istore_n 2, 1) := by decide +kernel
theorem d_Mo_rank_53 : decode M_Mo_rank.2.1 53 = .ok (.iinc 3 1, 3) := by decide +kernel
theorem d_Mo_rank_56 : decode M_Mo_rank.2.1 56 = .ok (.goto (-35), 3) := by decide +kernel
theorem d_Mo_rank_59 : decode M_Mo_rank.2.1 59 = .ok (.iload_n 2, 1) := by decide +kernel
theorem d_Mo_rank_60 : decode M_Mo_rank.2.1 60 = .ok (.ireturn, 1) := by decide +kernel
theorem d_Mo_never_0 : decode M_Mo_never.2.1 0 = .ok (.aload_n 0, 1) := by decide +kernel
theorem d_Mo_never_1 : decode M_Mo_never.2.1 1 = .ok (.iconst 0, 1) := by decide +kernel
theorem d_Mo_never_2 : decode M_Mo_never.2.1 2 = .ok (.putfield 39, 3) := by decide +kernel
theorem d_Mo_never_5 : decode M_Mo_never.2.1 5 = .ok (.iload_n 1, 1) := by decide +kernel
theorem d_Mo_never_6 : decode M_Mo_never.2.1 6 = .ok (.istore_n 2, 1) := by decide +kernel
theorem d_Mo_never_7 : decode M_Mo_never.2.1 7 = .ok (.iconst 0, 1) := by decide +kernel
theorem d_Mo_never_8 : decode M_Mo_never.2.1 8 = .ok (.istore_n 3, 1) := by decide +kernel
theorem d_Mo_never_9 : decode M_Mo_never.2.1 9 = .ok (.iload_n 3, 1) := by decide +kernel
theorem d_Mo_never_10 : decode M_Mo_never.2.1 10 = .ok (.aload_n 0, 1) := by decide +kernel
theorem d_Mo_never_11 : decode M_Mo_never.2.1 11 = .ok (.getfield 189, 3) := by decide +kernel
theorem d_Mo_never_14 : decode M_Mo_never.2.1 14 = .ok (.if_icmp .ge 83, 3) := by decide +kernel
theorem d_Mo_never_17 : decode M_Mo_never.2.1 17 = .ok (.iload_n 1, 1) := by decide +kernel
theorem d_Mo_never_18 : decode M_Mo_never.2.1 18 = .ok (.ifCond .lt 79, 3) := by decide +kernel
theorem d_Mo_never_21 : decode M_Mo_never.2.1 21 = .ok (.iconst 0, 1) := by decide +kernel
theorem d_Mo_never_22 : decode M_Mo_never.2.1 22 = .ok (.istore 4, 2) := by decide +kernel
theorem d_Mo_never_24 : decode M_Mo_never.2.1 24 = .ok (.iconst 0, 1) := by decide +kernel
theorem d_Mo_never_25 : decode M_Mo_never.2.1 25 = .ok (.istore 5, 2) := by decide +kernel
theorem d_Mo_never_27 : decode M_Mo_never.2.1 27 = .ok (.iload 5, 2) := by decide +kernel
theorem d_Mo_never_29 : decode M_Mo_never.2.1 29 = .ok (.aload_n 0, 1) := by decide +kernel
theorem d_Mo_never_30 : decode M_Mo_never.2.1 30 = .ok (.getfield 189, 3) := by decide +kernel
theorem d_Mo_never_33 : decode M_Mo_never.2.1 33 = .ok (.if_icmp .ge 41, 3) := by decide +kernel
theorem d_Mo_never_36 : decode M_Mo_never.2.1 36 = .ok (.iload 4, 2) := by decide +kernel
theorem d_Mo_never_38 : decode M_Mo_never.2.1 38 = .ok (.ifCond .ne 23, 3) := by decide +kernel
theorem d_Mo_never_41 : decode M_Mo_never.2.1 41 = .ok (.aload_n 0, 1) := by decide +kernel
theorem d_Mo_never_42 : decode M_Mo_never.2.1 42 = .ok (.iload 5, 2) := by decide +kernel
theorem d_Mo_never_44 : decode M_Mo_never.2.1 44 = .ok (.iload_n 3, 1) := by decide +kernel
theorem d_Mo_never_45 : decode M_Mo_never.2.1 45 = .ok (.invokevirtual 197, 3) := by decide +kernel
theorem d_Mo_never_48 : decode M_Mo_never.2.1 48 = .ok (.ifCond .eq 17, 3) := by decide +kernel
theorem d_Mo_never_51 : decode M_Mo_never.2.1 51 = .ok (.aload_n 0, 1) := by decide +kernel
theorem d_Mo_never_52 : decode M_Mo_never.2.1 52 = .ok (.iload 5, 2) := by decide +kernel
theorem d_Mo_never_54 : decode M_Mo_never.2.1 54 = .ok (.iload_n 3, 1) := by decide +kernel
theorem d_Mo_never_55 : decode M_Mo_never.2.1 55 = .ok (.invokevirtual 209, 3) := by decide +kernel
theorem d_Mo_never_58 : decode M_Mo_never.2.1 58 = .ok (.ifCond .eq 7, 3) := by decide +kernel
theorem d_Mo_never_61 : decode M_Mo_never.2.1 61 = .ok (.iconst 1, 1) := by decide +kernel
theorem d_Mo_never_62 : decode M_Mo_never.2.1 62 = .ok (.goto 4, 3) := by decide +kernel
theorem d_Mo_never_65 : decode M_Mo_never.2.1 65 = .ok (.iconst 0, 1) := by decide +kernel
theorem d_Mo_never_66 : decode M_Mo_never.2.1 66 = .ok (.istore 4, 2) := by decide +kernel
theorem d_Mo_never_68 : decode M_Mo_never.2.1 68 = .ok (.iinc 5 1, 3) := by decide +kernel
theorem d_Mo_never_71 : decode M_Mo_never.2.1 71 = .ok (.goto (-44), 3) := by decide +kernel
theorem d_Mo_never_74 : decode M_Mo_never.2.1 74 = .ok (.iload 4, 2) := by decide +kernel
theorem d_Mo_never_76 : decode M_Mo_never.2.1 76 = .ok (.ifCond .ne 6, 3) := by decide +kernel
theorem d_Mo_never_79 : decode M_Mo_never.2.1 79 = .ok (.goto 12, 3) := by decide +kernel
theorem d_Mo_never_82 : decode M_Mo_never.2.1 82 = .ok (.iload_n 2, 1) := by decide +kernel
theorem d_Mo_never_83 : decode M_Mo_never.2.1 83 = .ok (.ifCond .ne 5, 3) := by decide +kernel
theorem d_Mo_never_86 : decode M_Mo_never.2.1 86 = .ok (.iload_n 3, 1) := by decide +kernel
theorem d_Mo_never_87 : decode M_Mo_never.2.1 87 = .ok (.ireturn, 1) := by decide +kernel
theorem d_Mo_never_88 : decode M_Mo_never.2.1 88 = .ok (.iinc 2 (-1), 3) := by decide +kernel
theorem d_Mo_never_91 : decode M_Mo_never.2.1 91 = .ok (.iinc 3 1, 3) := by decide +kernel
theorem d_Mo_never_94 : decode M_Mo_never.2.1 94 = .ok (.goto (-85), 3) := by decide +kernel
theorem d_Mo_never_97 : decode M_Mo_never.2.1 97 = .ok (.iconst (-1), 1) := by decide +kernel
theorem d_Mo_never_98 : decode M_Mo_never.2.1 98 = .ok (.ireturn, 1) := by decide +kernel
theorem d_Mo_clash_0 : decode M_Mo_clash.2.1 0 = .ok (.aload_n 0, 1) := by decide +kernel
theorem d_Mo_clash_1 : decode M_Mo_clash.2.1 1 = .ok (.iload_n 2, 1) := by decide +kernel
theorem d_Mo_clash_2 : decode M_Mo_clash.2.1 2 = .ok (.ifCond .eq 8, 3) := by decide +kernel
theorem d_Mo_clash_5 : decode M_Mo_clash.2.1 5 = .ok (.iload_n 2, 1) := by decide +kernel
theorem d_Mo_clash_6 : decode M_Mo_clash.2.1 6 = .ok (.iconst 1, 1) := by decide +kernel
theorem d_Mo_clash_7 : decode M_Mo_clash.2.1 7 = .ok (.if_icmp .ne 7, 3) := by decide +kernel
theorem d_Mo_clash_10 : decode M_Mo_clash.2.1 10 = .ok (.iconst 0, 1) := by decide +kernel
theorem d_Mo_clash_11 : decode M_Mo_clash.2.1 11 = .ok (.goto 4, 3) := by decide +kernel
theorem d_Mo_clash_14 : decode M_Mo_clash.2.1 14 = .ok (.iconst 1, 1) := by decide +kernel
theorem d_Mo_clash_15 : decode M_Mo_clash.2.1 15 = .ok (.putfield 39, 3) := by decide +kernel
theorem d_Mo_clash_18 : decode M_Mo_clash.2.1 18 = .ok (.iload_n 1, 1) := by decide +kernel
theorem d_Mo_clash_19 : decode M_Mo_clash.2.1 19 = .ok (.istore_n 3, 1) := by decide +kernel
theorem d_Mo_clash_20 : decode M_Mo_clash.2.1 20 = .ok (.iconst 0, 1) := by decide +kernel
theorem d_Mo_clash_21 : decode M_Mo_clash.2.1 21 = .ok (.istore 4, 2) := by decide +kernel
theorem d_Mo_clash_23 : decode M_Mo_clash.2.1 23 = .ok (.iload 4, 2) := by decide +kernel
theorem d_Mo_clash_25 : decode M_Mo_clash.2.1 25 = .ok (.aload_n 0, 1) := by decide +kernel
theorem d_Mo_clash_26 : decode M_Mo_clash.2.1 26 = .ok (.getfield 189, 3) := by decide +kernel
theorem d_Mo_clash_29 : decode M_Mo_clash.2.1 29 = .ok (.if_icmp .ge 74, 3) := by decide +kernel
theorem d_Mo_clash_32 : decode M_Mo_clash.2.1 32 = .ok (.iload_n 1, 1) := by decide +kernel
theorem d_Mo_clash_33 : decode M_Mo_clash.2.1 33 = .ok (.ifCond .lt 70, 3) := by decide +kernel
theorem d_Mo_clash_36 : decode M_Mo_clash.2.1 36 = .ok (.aload_n 0, 1) := by decide +kernel
theorem d_Mo_clash_37 : decode M_Mo_clash.2.1 37 = .ok (.getfield 39, 3) := by decide +kernel
theorem d_Mo_clash_40 : decode M_Mo_clash.2.1 40 = .ok (.ifCond .ne 63, 3) := by decide +kernel
theorem d_Mo_clash_43 : decode M_Mo_clash.2.1 43 = .ok (.iload 4, 2) := by decide +kernel
theorem d_Mo_clash_45 : decode M_Mo_clash.2.1 45 = .ok (.iconst 1, 1) := by decide +kernel
theorem d_Mo_clash_46 : decode M_Mo_clash.2.1 46 = .ok (.iadd, 1) := by decide +kernel
theorem d_Mo_clash_47 : decode M_Mo_clash.2.1 47 = .ok (.istore 5, 2) := by decide +kernel
theorem d_Mo_clash_49 : decode M_Mo_clash.2.1 49 = .ok (.iload 5, 2) := by decide +kernel
theorem d_Mo_clash_51 : decode M_Mo_clash.2.1 51 = .ok (.aload_n 0, 1) := by decide +kernel
theorem d_Mo_clash_52 : decode M_Mo_clash.2.1 52 = .ok (.getfield 189, 3) := by decide +kernel
theorem d_Mo_clash_55 : decode M_Mo_clash.2.1 55 = .ok (.if_icmp .ge 42, 3) := by decide +kernel
theorem d_Mo_clash_58 : decode M_Mo_clash.2.1 58 = .ok (.aload_n 0, 1) := by decide +kernel
theorem d_Mo_clash_59 : decode M_Mo_clash.2.1 59 = .ok (.iload 4, 2) := by decide +kernel
theorem d_Mo_clash_61 : decode M_Mo_clash.2.1 61 = .ok (.iload 5, 2) := by decide +kernel
theorem d_Mo_clash_63 : decode M_Mo_clash.2.1 63 = .ok (.invokevirtual 212, 3) := by decide +kernel
theorem d_Mo_clash_66 : decode M_Mo_clash.2.1 66 = .ok (.ifCond .ne 6, 3) := by decide +kernel
theorem d_Mo_clash_69 : decode M_Mo_clash.2.1 69 = .ok (.goto 22, 3) := by decide +kernel
theorem d_Mo_clash_72 : decode M_Mo_clash.2.1 72 = .ok (.iload_n 3, 1) := by decide +kernel
theorem d_Mo_clash_73 : decode M_Mo_clash.2.1 73 = .ok (.ifCond .ne 15, 3) := by decide +kernel
theorem d_Mo_clash_76 : decode M_Mo_clash.2.1 76 = .ok (.iload_n 2, 1) := by decide +kernel
theorem d_Mo_clash_77 : decode M_Mo_clash.2.1 77 = .ok (.ifCond .ne 8, 3) := by decide +kernel
theorem d_Mo_clash_80 : decode M_Mo_clash.2.1 80 = .ok (.iload 4, 2) := by decide +kernel
theorem d_Mo_clash_82 : decode M_Mo_clash.2.1 82 = .ok (.goto 5, 3) := by decide +kernel
theorem d_Mo_clash_85 : decode M_Mo_clash.2.1 85 = .ok (.iload 5, 2) := by decide +kernel
theorem d_Mo_clash_87 : decode M_Mo_clash.2.1 87 = .ok (.ireturn, 1) := by decide +kernel
theorem d_Mo_clash_88 : decode M_Mo_clash.2.1 88 = .ok (.iinc 3 (-1), 3) := by decide +kernel
theorem d_Mo_clash_91 : decode M_Mo_clash.2.1 91 = .ok (.iinc 5 1, 3) := by decide +kernel
theorem d_Mo_clash_94 : decode M_Mo_clash.2.1 94 = .ok (.goto (-45), 3) := by decide +kernel
theorem d_Mo_clash_97 : decode M_Mo_clash.2.1 97 = .ok (.iinc 4 1, 3) := by decide +kernel
theorem d_Mo_clash_100 : decode M_Mo_clash.2.1 100 = .ok (.goto (-77), 3) := by decide +kernel
theorem d_Mo_clash_103 : decode M_Mo_clash.2.1 103 = .ok (.aload_n 0, 1) := by decide +kernel
theorem d_Mo_clash_104 : decode M_Mo_clash.2.1 104 = .ok (.getfield 39, 3) := by decide +kernel
theorem d_Mo_clash_107 : decode M_Mo_clash.2.1 107 = .ok (.ifCond .ne 7, 3) := by decide +kernel
theorem d_Mo_clash_110 : decode M_Mo_clash.2.1 110 = .ok (.iconst (-1), 1) := by decide +kernel
theorem d_Mo_clash_111 : decode M_Mo_clash.2.1 111 = .ok (.goto 4, 3) := by decide +kernel
theorem d_Mo_clash_114 : decode M_Mo_clash.2.1 114 = .ok (.iconst 0, 1) := by decide +kernel
theorem d_Mo_clash_115 : decode M_Mo_clash.2.1 115 = .ok (.ireturn, 1) := by decide +kernel
theorem d_Mo_kinds_0 : decode M_Mo_kinds.2.1 0 = .ok (.aload_n 0, 1) := by decide +kernel
theorem d_Mo_kinds_1 : decode M_Mo_kinds.2.1 1 = .ok (.iconst 0, 1) := by decide +kernel
theorem d_Mo_kinds_2 : decode M_Mo_kinds.2.1 2 = .ok (.putfield 39, 3) := by decide +kernel
theorem d_Mo_kinds_5 : decode M_Mo_kinds.2.1 5 = .ok (.iconst 0, 1) := by decide +kernel
theorem d_Mo_kinds_6 : decode M_Mo_kinds.2.1 6 = .ok (.istore_n 1, 1) := by decide +kernel
theorem d_Mo_kinds_7 : decode M_Mo_kinds.2.1 7 = .ok (.iconst 0, 1) := by decide +kernel
theorem d_Mo_kinds_8 : decode M_Mo_kinds.2.1 8 = .ok (.istore_n 2, 1) := by decide +kernel
theorem d_Mo_kinds_9 : decode M_Mo_kinds.2.1 9 = .ok (.iload_n 2, 1) := by decide +kernel
theorem d_Mo_kinds_10 : decode M_Mo_kinds.2.1 10 = .ok (.aload_n 0, 1) := by decide +kernel
theorem d_Mo_kinds_11 : decode M_Mo_kinds.2.1 11 = .ok (.getfield 189, 3) := by decide +kernel
theorem d_Mo_kinds_14 : decode M_Mo_kinds.2.1 14 = .ok (.if_icmp .ge 24, 3) := by decide +kernel
theorem d_Mo_kinds_17 : decode M_Mo_kinds.2.1 17 = .ok (.iload_n 1, 1) := by decide +kernel
theorem d_Mo_kinds_18 : decode M_Mo_kinds.2.1 18 = .ok (.iconst 1, 1) := by decide +kernel
theorem d_Mo_kinds_19 : decode M_Mo_kinds.2.1 19 = .ok (.aload_n 0, 1) := by decide +kernel
theorem d_Mo_kinds_20 : decode M_Mo_kinds.2.1 20 = .ok (.getfield 27, 3) := by decide +kernel
theorem d_Mo_kinds_23 : decode M_Mo_kinds.2.1 23 = .ok (.bipush 12, 2) := by decide +kernel
theorem d_Mo_kinds_25 : decode M_Mo_kinds.2.1 25 = .ok (.iload_n 2, 1) := by decide +kernel
theorem d_Mo_kinds_26 : decode M_Mo_kinds.2.1 26 = .ok (.imul, 1) := by decide +kernel
theorem d_Mo_kinds_27 : decode M_Mo_kinds.2.1 27 = .ok (.laload, 1) := by decide +kernel
theorem d_Mo_kinds_28 : decode M_Mo_kinds.2.1 28 = .ok (.l2i, 1) := by decide +kernel
theorem d_Mo_kinds_29 : decode M_Mo_kinds.2.1 29 = .ok (.ishl, 1) := by decide +kernel
theorem d_Mo_kinds_30 : decode M_Mo_kinds.2.1 30 = .ok (.ior, 1) := by decide +kernel
theorem d_Mo_kinds_31 : decode M_Mo_kinds.2.1 31 = .ok (.istore_n 1, 1) := by decide +kernel
theorem d_Mo_kinds_32 : decode M_Mo_kinds.2.1 32 = .ok (.iinc 2 1, 3) := by decide +kernel
theorem d_Mo_kinds_35 : decode M_Mo_kinds.2.1 35 = .ok (.goto (-26), 3) := by decide +kernel
theorem d_Mo_kinds_38 : decode M_Mo_kinds.2.1 38 = .ok (.iconst 0, 1) := by decide +kernel
theorem d_Mo_kinds_39 : decode M_Mo_kinds.2.1 39 = .ok (.istore_n 2, 1) := by decide +kernel
theorem d_Mo_kinds_40 : decode M_Mo_kinds.2.1 40 = .ok (.iload_n 1, 1) := by decide +kernel
theorem d_Mo_kinds_41 : decode M_Mo_kinds.2.1 41 = .ok (.ifCond .eq 16, 3) := by decide +kernel
theorem d_Mo_kinds_44 : decode M_Mo_kinds.2.1 44 = .ok (.iload_n 2, 1) := by decide +kernel
theorem d_Mo_kinds_45 : decode M_Mo_kinds.2.1 45 = .ok (.iload_n 1, 1) := by decide +kernel
theorem d_Mo_kinds_46 : decode M_Mo_kinds.2.1 46 = .ok (.iconst 1, 1) := by decide +kernel
theorem d_Mo_kinds_47 : decode M_Mo_kinds.2.1 47 = .ok (.iand, 1) := by decide +kernel
theorem d_Mo_kinds_48 : decode M_Mo_kinds.2.1 48 = .ok (.iadd, 1) := by decide +kernel
theorem d_Mo_kinds_49 : decode M_Mo_kinds.2.1 49 = .ok (.istore_n 2, 1) := by decide +kernel
theorem d_Mo_kinds_50 : decode M_Mo_kinds.2.1 50 = .ok (.iload_n 1, 1) := by decide +kernel
theorem d_Mo_kinds_51 : decode M_Mo_kinds.2.1 51 = .ok (.iconst 1, 1) := by decide +kernel
theorem d_Mo_kinds_52 : decode M_Mo_kinds.2.1 52 = .ok (.ishr, 1) := by decide +kernel
theorem d_Mo_kinds_53 : decode M_Mo_kinds.2.1 53 = .ok (.istore_n 1, 1) := by decide +kernel
theorem d_Mo_kinds_54 : decode M_Mo_kinds.2.1 54 = .ok (.goto (-14), 3) := by decide +kernel
theorem d_Mo_kinds_57 : decode M_Mo_kinds.2.1 57 = .ok (.iload_n 2, 1) := by decide +kernel
theorem d_Mo_kinds_58 : decode M_Mo_kinds.2.1 58 = .ok (.ireturn, 1) := by decide +kernel
noncomputable def cF (P : Nat → Prop) : Nat → Nat → Nat
  | 0, _ => 0
  | f + 1, i => @ite _ (P i) (Classical.propDecidable _) 1 0 + cF P f (i + 1)
noncomputable def nthF (P : Nat → Prop) : Nat → Nat → Nat → Option Nat
  | 0, _, _ => none
  | f + 1, i, c => @ite _ (P i) (Classical.propDecidable _) (if c = 0 then some i else nthF P f (i + 1) (c - 1)) (nthF P f (i + 1) c)
noncomputable def nthB (P : Nat → Prop) : Nat → Nat → Nat → Nat ⊕ Nat
  | 0, _, c => .inr c
  | f + 1, i, c => @ite _ (P i) (Classical.propDecidable _) (if c = 0 then .inl i else nthB P f (i + 1) (c - 1)) (nthB P f (i + 1) c)
noncomputable def nthA (P : Nat → Nat → Prop) (n : Nat) : Nat → Nat → Nat → Option (Nat × Nat)
  | 0, _, _ => none
  | f + 1, a, c => match nthB (P a) (n - (a + 1)) (a + 1) c with
    | .inl b => some (a, b)
    | .inr c' => nthA P n f (a + 1) c'
def exB (P : Nat → Prop) (i : Nat) : Prop := ∃ j, j < i ∧ P j
theorem exB_0 (P : Nat → Prop) : ¬ exB P 0 := fun ⟨j, h, _⟩ => by omega
theorem exB_s (P : Nat → Prop) (i : Nat) : exB P (i + 1) ↔ exB P i ∨ P i := by
  constructor
  · rintro ⟨j, h1, h2⟩
    by_cases e : j = i
    · subst e; exact Or.inr h2
    · exact Or.inl ⟨j, by omega, h2⟩
  · rintro (⟨j, h1, h2⟩ | h)
    · exact ⟨j, by omega, h2⟩
    · exact ⟨i, by omega, h⟩
def oR : Option Nat → Int32
  | none => -1
  | some i => nI i
def oP (w : Nat) : Option (Nat × Nat) → Int32
  | none => -1
  | some q => if w = 0 then nI q.1 else nI q.2
theorem nm_dec {c : Nat} (h : ¬ c = 0) : nI c + Int32.ofInt (-1) = nI (c - 1) := by
  obtain ⟨k, rfl⟩ : ∃ k, c = k + 1 := ⟨c - 1, by omega⟩
  rw [← nI_add, Nat.add_sub_cancel, Int32.add_assoc, show nI 1 + Int32.ofInt (-1) = 0 from rfl, Int32.add_zero]
theorem cF_congr {P Q : Nat → Prop} {n : Nat} : ∀ f i, i + f ≤ n → (∀ j, j < n → (P j ↔ Q j)) → cF P f i = cF Q f i
  | 0, _, _, _ => rfl
  | f + 1, i, hi, h => by
    unfold cF
    rw [cF_congr f (i + 1) (by omega) h]
    by_cases q : P i
    · rw [if_pos q, if_pos ((h i (by omega)).mp q)]
    · rw [if_neg q, if_neg (fun z => q ((h i (by omega)).mpr z))]
theorem nthF_congr {P Q : Nat → Prop} {n : Nat} : ∀ f i c, i + f ≤ n → (∀ j, j < n → (P j ↔ Q j)) → nthF P f i c = nthF Q f i c
  | 0, _, _, _, _ => rfl
  | f + 1, i, c, hi, h => by
    unfold nthF
    rw [nthF_congr f (i + 1) _ (by omega) h, nthF_congr f (i + 1) _ (by omega) h]
    by_cases q : P i
    · rw [if_pos q, if_pos ((h i (by omega)).mp q)]
    · rw [if_neg q, if_neg (fun z => q ((h i (by omega)).mpr z))]
theorem nthB_congr {P Q : Nat → Prop} {n : Nat} : ∀ f i c, i + f ≤ n → (∀ j, j < n → i ≤ j → (P j ↔ Q j)) → nthB P f i c = nthB Q f i c
  | 0, _, _, _, _ => rfl
  | f + 1, i, c, hi, h => by
    unfold nthB
    rw [nthB_congr f (i + 1) _ (by omega) (fun j a b => h j a (by omega)), nthB_congr f (i + 1) _ (by omega) (fun j a b => h j a (by omega))]
    by_cases q : P i
    · rw [if_pos q, if_pos ((h i (by omega) (by omega)).mp q)]
    · rw [if_neg q, if_neg (fun z => q ((h i (by omega) (by omega)).mpr z))]
theorem nthA_congr {P Q : Nat → Nat → Prop} {n : Nat} : ∀ f a c, a + f ≤ n → (∀ i j, i < n → j < n → i < j → (P i j ↔ Q i j)) → nthA P n f a c = nthA Q n f a c
  | 0, _, _, _, _ => rfl
  | f + 1, a, c, hi, h => by
    unfold nthA
    rw [nthB_congr (n := n) (n - (a + 1)) (a + 1) c (by omega) (fun j x y => h a j (by omega) x (by omega))]
    split
    · rfl
    · exact nthA_congr f (a + 1) _ (by omega) h
section
variable {nx : Nat} {ct : Nat → Nat × Nat} {mi : Nat → Nat → Int32} {ml : Nat → Nat → Int64} {mr : Nat → Nat → Option Nat}
theorem sp_Mo_rank {n k : Nat} (hL : LAY nx ct mr) (hn : mi 398 7 = nI n) (hn2 : n ≤ 60) (hk : k < n) : rx_Calls y_Mo_rank M_Mo_rank 1 0 0 [.ref 398, .int (nI k)] (nx, ct, mi, ml, mr) (fun v τ => v = some (.int (nI (cF (fun i => aheadM (ml 404) i k) n 0))) ∧ τ = (nx, ct, rx_u mi 398 0 0, ml, mr)) := by
  refine rx_enter (by decide) rfl rfl (Nat.le_of_ble_eq_true rfl) ?_
  have hn' : rx_u mi 398 0 0 398 7 = nI n := by rw [rx_u_k _ _ (by decide)]; exact hn
  have loop : ∀ f i c, i ≤ n → f = n - i → rx_W M_Mo_rank 1 0 0 21 [(0, .ref 398), (1, .int (nI k)), (2, .int (nI c)), (3, .int (nI i))] [] (nx, ct, rx_u mi 398 0 0, ml, mr) (pR (fun v τ => v = some (.int (nI (c + cF (fun i => aheadM (ml 404) i k) f i))) ∧ τ = (nx, ct, rx_u mi 398 0 0, ml, mr))) := by
    intro f
    induction f with
    | zero =>
      intro i c hi hf
      refine ru_aload_n d_Mo_rank_21 rfl rfl ?_
      refine ru_getI d_Mo_rank_22 lf_Mo_39 (ly hL 398 9 0) rfl ?_
      rw [rx_u_same]
      refine ru_if_ne (tgt := 59) d_Mo_rank_25 (by decide) (fun h25 => absurd h25 (by decide)) (fun h25 => ?_)
      refine ru_iload_n d_Mo_rank_28 rfl rfl ?_
      refine ru_aload_n d_Mo_rank_29 rfl rfl ?_
      refine ru_getI d_Mo_rank_30 lf_Mo_189 (ly hL 398 9 0) rfl ?_
      rw [rx_u_k _ _ (by decide)]
      refine ru_eqi hn ?_
      refine ru_icmp_ge (tgt := 59) d_Mo_rank_33 (by decide) (fun h33 => ?_) (fun h33 => absurd (nI_le (by omega) (by omega)) h33)
      replace h33 := nm_le (a := n) (b := i) (by omega) (by omega) h33
      refine ru_iload_n d_Mo_rank_59 rfl rfl ?_
      refine ru_iret d_Mo_rank_60 rfl ?_
      exact ⟨rfl, rfl⟩
    | succ f ih =>
      intro i c hi hf
      unfold cF
      refine ru_aload_n d_Mo_rank_21 rfl rfl ?_
      refine ru_getI d_Mo_rank_22 lf_Mo_39 (ly hL 398 9 0) rfl ?_
      rw [rx_u_same]
      refine ru_if_ne (tgt := 59) d_Mo_rank_25 (by decide) (fun h25 => absurd h25 (by decide)) (fun h25 => ?_)
      refine ru_iload_n d_Mo_rank_28 rfl rfl ?_
      refine ru_aload_n d_Mo_rank_29 rfl rfl ?_
      refine ru_getI d_Mo_rank_30 lf_Mo_189 (ly hL 398 9 0) rfl ?_
      rw [rx_u_k _ _ (by decide)]
      refine ru_eqi hn ?_
      refine ru_icmp_ge (tgt := 59) d_Mo_rank_33 (by decide) (fun h33 => absurd h33 (nI_ge (by omega) (by omega))) (fun h33 => ?_)
      replace h33 := nm_nle (a := n) (b := i) (by omega) (by omega) h33
      refine ru_iload_n d_Mo_rank_36 rfl rfl ?_
      refine ru_aload_n d_Mo_rank_37 rfl rfl ?_
      refine ru_iload_n d_Mo_rank_38 rfl rfl ?_
      refine ru_iload_n d_Mo_rank_39 rfl rfl ?_
      refine ru_callV (mc := 0) (ms := 0) d_Mo_rank_40 lm_Mo_197 (sp_Mo_isAhead hL (by omega) (by omega)) (rx_recv_is (ly hL 398 9 0) kx_Mo) (by decide) rfl (Nat.le_of_ble_eq_true rfl) ?_
      intro v τ h
      obtain ⟨rfl, rfl⟩ := h
      refine ru_if_eq (tgt := 50) d_Mo_rank_43 (by decide) (fun h43 => ?_) (fun h43 => ?_)
      · skip
        replace h43 := bI_eq0.mp h43
        refine ru_iconst (v := 0) d_Mo_rank_50 (by decide) ?_
        refine ru_iadd d_Mo_rank_51 ?_
        refine ru_eqi (nm_add c 0 : _ = nI (c + 0)) ?_
        refine ru_istore_n d_Mo_rank_52 rfl (by decide) ?_
        refine ru_iinc (v := nI (i + 1)) d_Mo_rank_53 rfl (nm_inc _ 1) (by decide) ?_
        refine ru_goto (tgt := 21) d_Mo_rank_56 (by decide) ?_
        first | rw [if_pos h43] | rw [if_neg h43]
        rw [← Nat.add_assoc]
        exact ru_to (ih (i + 1) _ (by omega) (by omega)) ⟨rfl, rfl, rfl, rfl, trivial⟩
      · skip
        replace h43 := bI_ne0.mp h43
        refine ru_iconst (v := 1) d_Mo_rank_46 (by decide) ?_
        refine ru_goto (tgt := 51) d_Mo_rank_47 (by decide) ?_
        refine ru_iadd d_Mo_rank_51 ?_
        refine ru_eqi (nm_add c 1 : _ = nI (c + 1)) ?_
        refine ru_istore_n d_Mo_rank_52 rfl (by decide) ?_
        refine ru_iinc (v := nI (i + 1)) d_Mo_rank_53 rfl (nm_inc _ 1) (by decide) ?_
        refine ru_goto (tgt := 21) d_Mo_rank_56 (by decide) ?_
        first | rw [if_pos h43] | rw [if_neg h43]
        rw [← Nat.add_assoc]
        exact ru_to (ih (i + 1) _ (by omega) (by omega)) ⟨rfl, rfl, rfl, rfl, trivial⟩
  refine ru_aload_n d_Mo_rank_0 rfl rfl ?_
  refine ru_aload_n d_Mo_rank_1 rfl rfl ?_
  refine ru_iload_n d_Mo_rank_2 rfl rfl ?_
  refine ru_callV (mc := 0) (ms := 0) d_Mo_rank_3 lm_Mo_192 (sp_Mo_isRuleN hL hn hn2 (by omega)) (rx_recv_is (ly hL 398 9 0) kx_Mo) (by decide) rfl (Nat.le_of_ble_eq_true rfl) ?_
  intro v τ h
  obtain ⟨rfl, rfl⟩ := h
  refine ru_if_eq (tgt := 13) d_Mo_rank_6 (by decide) (fun h6 => absurd h6 (bI_ne0.mpr hk)) (fun h6 => ?_)
  replace h6 := bI_ne0.mp h6
  refine ru_iconst (v := 0) d_Mo_rank_9 (by decide) ?_
  refine ru_goto (tgt := 14) d_Mo_rank_10 (by decide) ?_
  refine ru_putI d_Mo_rank_14 lf_Mo_39 (ly hL 398 9 0) rfl (fun q hq => by cases hq; exact Or.inl rfl) ⟨rfl, rfl⟩ ?_
  refine ru_iconst (v := 0) d_Mo_rank_17 (by decide) ?_
  refine ru_istore_n d_Mo_rank_18 rfl (by decide) ?_
  refine ru_iconst (v := 0) d_Mo_rank_19 (by decide) ?_
  refine ru_istore_n d_Mo_rank_20 rfl (by decide) ?_
  have z := loop n 0 0 (by omega) rfl
  rw [Nat.zero_add] at z
  exact ru_to z ⟨rfl, rfl, rfl, rfl, trivial⟩
theorem sp_Mo_rank0 {n : Nat} {k : Int32} (hL : LAY nx ct mr) (hn : mi 398 7 = nI n) (hn2 : n ≤ 60) (hk : ¬ (0 ≤ k.toInt ∧ k.toInt < n)) : rx_Calls y_Mo_rank M_Mo_rank 1 0 0 [.ref 398, .int k] (nx, ct, mi, ml, mr) (fun v τ => v = some (.int 0) ∧ τ = (nx, ct, rx_u mi 398 0 1, ml, mr)) := by
  refine rx_enter (by decide) rfl rfl (Nat.le_of_ble_eq_true rfl) ?_
  refine ru_aload_n d_Mo_rank_0 rfl rfl ?_
  refine ru_aload_n d_Mo_rank_1 rfl rfl ?_
  refine ru_iload_n d_Mo_rank_2 rfl rfl ?_
  refine ru_callV (mc := 0) (ms := 0) d_Mo_rank_3 lm_Mo_192 (sp_Mo_isRule hL k hn hn2) (rx_recv_is (ly hL 398 9 0) kx_Mo) (by decide) rfl (Nat.le_of_ble_eq_true rfl) ?_
  intro v τ h
  obtain ⟨rfl, rfl⟩ := h
  refine ru_if_eq (tgt := 13) d_Mo_rank_6 (by decide) (fun h6 => ?_) (fun h6 => ?_)
  · skip
    replace h6 := bI_eq0.mp h6
    refine ru_iconst (v := 1) d_Mo_rank_13 (by decide) ?_
    refine ru_putI d_Mo_rank_14 lf_Mo_39 (ly hL 398 9 0) rfl (fun q hq => by cases hq; exact Or.inl rfl) ⟨rfl, rfl⟩ ?_
    refine ru_iconst (v := 0) d_Mo_rank_17 (by decide) ?_
    refine ru_istore_n d_Mo_rank_18 rfl (by decide) ?_
    refine ru_iconst (v := 0) d_Mo_rank_19 (by decide) ?_
    refine ru_istore_n d_Mo_rank_20 rfl (by decide) ?_
    refine ru_aload_n d_Mo_rank_21 rfl rfl ?_
    refine ru_getI d_Mo_rank_22 lf_Mo_39 (ly hL 398 9 0) rfl ?_
    rw [rx_u_same]
    refine ru_if_ne (tgt := 59) d_Mo_rank_25 (by decide) (fun h25 => ?_) (fun h25 => absurd h25 (by decide))
    refine ru_iload_n d_Mo_rank_59 rfl rfl ?_
    refine ru_iret d_Mo_rank_60 rfl ?_
    exact ⟨rfl, rfl⟩
  · skip
    replace h6 := bI_ne0.mp h6
    exact absurd h6 hk
def beatM (S : Nat → Int32) (Q R : Nat → Int64) (z : Nat → Int32) (n r : Nat) : Prop := exB (fun q => aheadM R q r ∧ coversM S Q R (z q) (z r) q r) n
theorem sp_Mo_never {n K : Nat} {z : Nat → Int32} (hL : LAY nx ct mr) (hn : mi 398 7 = nI n) (hn2 : n ≤ 60) (hK : K < 2 ^ 31) (hz : ∀ k, k < n → ml 404 (12 * k + 6) = (z k).toInt64 ∧ isArea (z k)) : rx_Calls y_Mo_never M_Mo_never 2 0 0 [.ref 398, .int (nI K)] (nx, ct, mi, ml, mr) (fun v τ => v = some (.int (oR (nthF (beatM (mi 402) (ml 403) (ml 404) z n) n 0 K))) ∧ τ = (nx, ct, rx_u mi 398 0 0, ml, mr)) := by
  refine rx_enter (by decide) rfl rfl (Nat.le_of_ble_eq_true rfl) ?_
  have hn' : rx_u mi 398 0 0 398 7 = nI n := by rw [rx_u_k _ _ (by decide)]; exact hn
  have hS : rx_u mi 398 0 0 402 = mi 402 := rx_u_r _ _ (by decide)
  generalize hm : rx_u mi 398 0 0 = m1 at hn' hS ⊢
  have inner : ∀ (post : rx_End) (r c : Nat), r < n → (∀ g : Int32, g = bI (beatM (mi 402) (ml 403) (ml 404) z n r) → rx_W M_Mo_never 2 0 0 74 [(0, .ref 398), (1, .int (nI K)), (2, .int (nI c)), (3, .int (nI r)), (4, .int g)] [] (nx, ct, m1, ml, mr) post) → ∀ f i, i ≤ n → f = n - i → rx_W M_Mo_never 2 0 0 27 [(0, .ref 398), (1, .int (nI K)), (2, .int (nI c)), (3, .int (nI r)), (4, .int (bI (exB (fun q => aheadM (ml 404) q r ∧ coversM (mi 402) (ml 403) (ml 404) (z q) (z r) q r) i))), (5, .int (nI i))] [] (nx, ct, m1, ml, mr) post := by
    intro post r c hr hk f
    induction f with
    | zero =>
      intro i hi hf
      have hi2 : i = n := by omega
      subst hi2
      refine ru_iload d_Mo_never_27 rfl ?_
      refine ru_aload_n d_Mo_never_29 rfl rfl ?_
      refine ru_getI d_Mo_never_30 lf_Mo_189 (ly hL 398 9 0) rfl ?_
      refine ru_eqi hn' ?_
      refine ru_icmp_ge (tgt := 74) d_Mo_never_33 (by decide) (fun h33 => ?_) (fun h33 => absurd (nI_le (by omega) (by omega)) h33)
      replace h33 := nm_le (a := i) (b := i) (by omega) (by omega) h33
      exact ru_to (hk _ rfl) ⟨rfl, rfl, rfl, rfl, rfl, trivial⟩
    | succ f ih =>
      intro i hi hf
      have e := exB_s (fun q => aheadM (ml 404) q r ∧ coversM (mi 402) (ml 403) (ml 404) (z q) (z r) q r) i
      have ih' := ih (i + 1) (by omega) (by omega)
      refine ru_iload d_Mo_never_27 rfl ?_
      refine ru_aload_n d_Mo_never_29 rfl rfl ?_
      refine ru_getI d_Mo_never_30 lf_Mo_189 (ly hL 398 9 0) rfl ?_
      refine ru_eqi hn' ?_
      refine ru_icmp_ge (tgt := 74) d_Mo_never_33 (by decide) (fun h33 => absurd h33 (nI_ge (by omega) (by omega))) (fun h33 => ?_)
      replace h33 := nm_nle (a := n) (b := i) (by omega) (by omega) h33
      refine ru_iload d_Mo_never_36 rfl ?_
      refine ru_if_ne (tgt := 61) d_Mo_never_38 (by decide) (fun h38 => ?_) (fun h38 => ?_)
      · skip
        replace h38 := bI_ne0.mp h38
        refine ru_iconst (v := 1) d_Mo_never_61 (by decide) ?_
        refine ru_goto (tgt := 66) d_Mo_never_62 (by decide) ?_
        refine ru_istore d_Mo_never_66 (by decide) ?_
        refine ru_iinc (v := nI (i + 1)) d_Mo_never_68 rfl (nm_inc _ 1) (by decide) ?_
        refine ru_goto (tgt := 27) d_Mo_never_71 (by decide) ?_
        first | rw [bI_t (e.mpr (Or.inl h38))] at ih' | rw [bI_t (e.mpr (Or.inr ⟨h48, h58⟩))] at ih' | rw [bI_f (fun q => (e.mp q).elim h38 (fun x => h48 x.1))] at ih' | rw [bI_f (fun q => (e.mp q).elim h38 (fun x => h58 x.2))] at ih'
        exact ru_to ih' ⟨rfl, rfl, rfl, rfl, rfl, rfl, trivial⟩
      · skip
        replace h38 := bI_eq0.mp h38
        refine ru_aload_n d_Mo_never_41 rfl rfl ?_
        refine ru_iload d_Mo_never_42 rfl ?_
        refine ru_iload_n d_Mo_never_44 rfl rfl ?_
        refine ru_callV (mc := 0) (ms := 0) d_Mo_never_45 lm_Mo_197 (sp_Mo_isAhead hL (by omega) (by omega)) (rx_recv_is (ly hL 398 9 0) kx_Mo) (by decide) rfl (Nat.le_of_ble_eq_true rfl) ?_
        intro v τ h
        obtain ⟨rfl, rfl⟩ := h
        refine ru_if_eq (tgt := 65) d_Mo_never_48 (by decide) (fun h48 => ?_) (fun h48 => ?_)
        · skip
          replace h48 := bI_eq0.mp h48
          refine ru_iconst (v := 0) d_Mo_never_65 (by decide) ?_
          refine ru_istore d_Mo_never_66 (by decide) ?_
          refine ru_iinc (v := nI (i + 1)) d_Mo_never_68 rfl (nm_inc _ 1) (by decide) ?_
          refine ru_goto (tgt := 27) d_Mo_never_71 (by decide) ?_
          first | rw [bI_t (e.mpr (Or.inl h38))] at ih' | rw [bI_t (e.mpr (Or.inr ⟨h48, h58⟩))] at ih' | rw [bI_f (fun q => (e.mp q).elim h38 (fun x => h48 x.1))] at ih' | rw [bI_f (fun q => (e.mp q).elim h38 (fun x => h58 x.2))] at ih'
          exact ru_to ih' ⟨rfl, rfl, rfl, rfl, rfl, rfl, trivial⟩
        · skip
          replace h48 := bI_ne0.mp h48
          refine ru_aload_n d_Mo_never_51 rfl rfl ?_
          refine ru_iload d_Mo_never_52 rfl ?_
          refine ru_iload_n d_Mo_never_54 rfl rfl ?_
          refine ru_callV (mc := 0) (ms := 0) d_Mo_never_55 lm_Mo_209 (sp_Mo_covers hL (by omega) (by omega) (hz i (by omega)).1 (hz r hr).1 (hz i (by omega)).2 (hz r hr).2) (rx_recv_is (ly hL 398 9 0) kx_Mo) (by decide) rfl (Nat.le_of_ble_eq_true rfl) ?_
          rw [hS]
          intro v τ h
          obtain ⟨rfl, rfl⟩ := h
          refine ru_if_eq (tgt := 65) d_Mo_never_58 (by decide) (fun h58 => ?_) (fun h58 => ?_)
          · skip
            replace h58 := bI_eq0.mp h58
            refine ru_iconst (v := 0) d_Mo_never_65 (by decide) ?_
            refine ru_istore d_Mo_never_66 (by decide) ?_
            refine ru_iinc (v := nI (i + 1)) d_Mo_never_68 rfl (nm_inc _ 1) (by decide) ?_
            refine ru_goto (tgt := 27) d_Mo_never_71 (by decide) ?_
            first | rw [bI_t (e.mpr (Or.inl h38))] at ih' | rw [bI_t (e.mpr (Or.inr ⟨h48, h58⟩))] at ih' | rw [bI_f (fun q => (e.mp q).elim h38 (fun x => h48 x.1))] at ih' | rw [bI_f (fun q => (e.mp q).elim h38 (fun x => h58 x.2))] at ih'
            exact ru_to ih' ⟨rfl, rfl, rfl, rfl, rfl, rfl, trivial⟩
          · skip
            replace h58 := bI_ne0.mp h58
            refine ru_iconst (v := 1) d_Mo_never_61 (by decide) ?_
            refine ru_goto (tgt := 66) d_Mo_never_62 (by decide) ?_
            refine ru_istore d_Mo_never_66 (by decide) ?_
            refine ru_iinc (v := nI (i + 1)) d_Mo_never_68 rfl (nm_inc _ 1) (by decide) ?_
            refine ru_goto (tgt := 27) d_Mo_never_71 (by decide) ?_
            first | rw [bI_t (e.mpr (Or.inl h38))] at ih' | rw [bI_t (e.mpr (Or.inr ⟨h48, h58⟩))] at ih' | rw [bI_f (fun q => (e.mp q).elim h38 (fun x => h48 x.1))] at ih' | rw [bI_f (fun q => (e.mp q).elim h38 (fun x => h58 x.2))] at ih'
            exact ru_to ih' ⟨rfl, rfl, rfl, rfl, rfl, rfl, trivial⟩
  have outer : ∀ f r c, r ≤ n → f = n - r → c < 2 ^ 31 → rx_W M_Mo_never 2 0 0 9 [(0, .ref 398), (1, .int (nI K)), (2, .int (nI c)), (3, .int (nI r))] [] (nx, ct, m1, ml, mr) (pR (fun v τ => v = some (.int (oR (nthF (beatM (mi 402) (ml 403) (ml 404) z n) f r c))) ∧ τ = (nx, ct, m1, ml, mr))) := by
    intro f
    induction f with
    | zero =>
      intro r c hr hf hc
      refine ru_iload_n d_Mo_never_9 rfl rfl ?_
      refine ru_aload_n d_Mo_never_10 rfl rfl ?_
      refine ru_getI d_Mo_never_11 lf_Mo_189 (ly hL 398 9 0) rfl ?_
      refine ru_eqi hn' ?_
      refine ru_icmp_ge (tgt := 97) d_Mo_never_14 (by decide) (fun h14 => ?_) (fun h14 => absurd (nI_le (by omega) (by omega)) h14)
      replace h14 := nm_le (a := n) (b := r) (by omega) (by omega) h14
      refine ru_iconst (v := (-1)) d_Mo_never_97 (by decide) ?_
      refine ru_iret d_Mo_never_98 rfl ?_
      exact ⟨rfl, rfl⟩
    | succ f ih =>
      intro r c hr hf hc
      unfold nthF
      refine ru_iload_n d_Mo_never_9 rfl rfl ?_
      refine ru_aload_n d_Mo_never_10 rfl rfl ?_
      refine ru_getI d_Mo_never_11 lf_Mo_189 (ly hL 398 9 0) rfl ?_
      refine ru_eqi hn' ?_
      refine ru_icmp_ge (tgt := 97) d_Mo_never_14 (by decide) (fun h14 => absurd h14 (nI_ge (by omega) (by omega))) (fun h14 => ?_)
      replace h14 := nm_nle (a := n) (b := r) (by omega) (by omega) h14
      refine ru_iload_n d_Mo_never_17 rfl rfl ?_
      refine ru_if_lt (tgt := 97) d_Mo_never_18 (by decide) (fun h18 => absurd h18 (nI_pos hK)) (fun h18 => ?_)
      replace h18 := nm_nlt (a := K) (b := 0) (by omega) (by omega) h18
      refine ru_iconst (v := 0) d_Mo_never_21 (by decide) ?_
      refine ru_istore d_Mo_never_22 (by decide) ?_
      refine ru_iconst (v := 0) d_Mo_never_24 (by decide) ?_
      refine ru_istore d_Mo_never_25 (by decide) ?_
      refine ru_to (inner _ r c (by omega) ?_ n 0 (by omega) rfl) ⟨rfl, rfl, rfl, rfl, by rw [bI_f (exB_0 _)]; rfl, rfl, trivial⟩
      intro g hg
      subst hg
      refine ru_iload d_Mo_never_74 rfl ?_
      refine ru_if_ne (tgt := 82) d_Mo_never_76 (by decide) (fun h76 => ?_) (fun h76 => ?_)
      · skip
        replace h76 := bI_ne0.mp h76
        refine ru_iload_n d_Mo_never_82 rfl rfl ?_
        refine ru_if_ne (tgt := 88) d_Mo_never_83 (by decide) (fun h83 => ?_) (fun h83 => ?_)
        · skip
          replace h83 := nm_ne (a := c) (b := 0) (by omega) (by omega) h83
          refine ru_iinc (v := nI (c - 1)) d_Mo_never_88 rfl (nm_dec h83) (by decide) ?_
          refine ru_iinc (v := nI (r + 1)) d_Mo_never_91 rfl (nm_inc _ 1) (by decide) ?_
          refine ru_goto (tgt := 9) d_Mo_never_94 (by decide) ?_
          first | rw [if_neg h76] | rw [if_pos h76, if_neg h83]
          exact ru_to (ih (r + 1) _ (by omega) (by omega) (by omega)) ⟨rfl, rfl, rfl, rfl, trivial⟩
        · skip
          replace h83 := nm_eq (a := c) (b := 0) (by omega) (by omega) h83
          refine ru_iload_n d_Mo_never_86 rfl rfl ?_
          refine ru_iret d_Mo_never_87 rfl ?_
          rw [if_pos h76, if_pos h83]
          exact ⟨rfl, rfl⟩
      · skip
        replace h76 := bI_eq0.mp h76
        refine ru_goto (tgt := 91) d_Mo_never_79 (by decide) ?_
        refine ru_iinc (v := nI (r + 1)) d_Mo_never_91 rfl (nm_inc _ 1) (by decide) ?_
        refine ru_goto (tgt := 9) d_Mo_never_94 (by decide) ?_
        first | rw [if_neg h76] | rw [if_pos h76, if_neg h83]
        exact ru_to (ih (r + 1) _ (by omega) (by omega) (by omega)) ⟨rfl, rfl, rfl, rfl, trivial⟩
  refine ru_aload_n d_Mo_never_0 rfl rfl ?_
  refine ru_iconst (v := 0) d_Mo_never_1 (by decide) ?_
  refine ru_putI d_Mo_never_2 lf_Mo_39 (ly hL 398 9 0) rfl (fun q hq => by cases hq; exact Or.inl rfl) ⟨rfl, rfl⟩ ?_
  rw [hm]
  refine ru_iload_n d_Mo_never_5 rfl rfl ?_
  refine ru_istore_n d_Mo_never_6 rfl (by decide) ?_
  refine ru_iconst (v := 0) d_Mo_never_7 (by decide) ?_
  refine ru_istore_n d_Mo_never_8 rfl (by decide) ?_
  exact ru_to (outer n 0 K (by omega) rfl hK) ⟨rfl, rfl, rfl, rfl, trivial⟩
theorem sp_Mo_never0 {n : Nat} {k : Int32} (hL : LAY nx ct mr) (hn : mi 398 7 = nI n) (hk : k < 0) : rx_Calls y_Mo_never M_Mo_never 2 0 0 [.ref 398, .int k] (nx, ct, mi, ml, mr) (fun v τ => v = some (.int (-1)) ∧ τ = (nx, ct, rx_u mi 398 0 0, ml, mr)) := by
  refine rx_enter (by decide) rfl rfl (Nat.le_of_ble_eq_true rfl) ?_
  refine ru_aload_n d_Mo_never_0 rfl rfl ?_
  refine ru_iconst (v := 0) d_Mo_never_1 (by decide) ?_
  refine ru_putI d_Mo_never_2 lf_Mo_39 (ly hL 398 9 0) rfl (fun q hq => by cases hq; exact Or.inl rfl) ⟨rfl, rfl⟩ ?_
  refine ru_iload_n d_Mo_never_5 rfl rfl ?_
  refine ru_istore_n d_Mo_never_6 rfl (by decide) ?_
  refine ru_iconst (v := 0) d_Mo_never_7 (by decide) ?_
  refine ru_istore_n d_Mo_never_8 rfl (by decide) ?_
  refine ru_iload_n d_Mo_never_9 rfl rfl ?_
  refine ru_aload_n d_Mo_never_10 rfl rfl ?_
  refine ru_getI d_Mo_never_11 lf_Mo_189 (ly hL 398 9 0) rfl ?_
  rw [rx_u_k _ _ (by decide)]
  refine ru_icmp_ge (tgt := 97) d_Mo_never_14 (by decide) (fun h14 => ?_) (fun h14 => ?_)
  · skip
    refine ru_iconst (v := (-1)) d_Mo_never_97 (by decide) ?_
    refine ru_iret d_Mo_never_98 rfl ?_
    exact ⟨rfl, rfl⟩
  · skip
    refine ru_iload_n d_Mo_never_17 rfl rfl ?_
    refine ru_if_lt (tgt := 97) d_Mo_never_18 (by decide) (fun h18 => ?_) (fun h18 => absurd hk h18)
    refine ru_iconst (v := (-1)) d_Mo_never_97 (by decide) ?_
    refine ru_iret d_Mo_never_98 rfl ?_
    exact ⟨rfl, rfl⟩
theorem sp_Mo_clash0 {n : Nat} {k w : Int32} (hL : LAY nx ct mr) (hn : mi 398 7 = nI n) (hw : ¬ (w = 0 ∨ w = 1)) : rx_Calls y_Mo_clash M_Mo_clash 3 0 0 [.ref 398, .int k, .int w] (nx, ct, mi, ml, mr) (fun v τ => v = some (.int 0) ∧ τ = (nx, ct, rx_u mi 398 0 1, ml, mr)) := by
  refine rx_enter (by decide) rfl rfl (Nat.le_of_ble_eq_true rfl) ?_
  refine ru_aload_n d_Mo_clash_0 rfl rfl ?_
  refine ru_iload_n d_Mo_clash_1 rfl rfl ?_
  refine ru_if_eq (tgt := 10) d_Mo_clash_2 (by decide) (fun h2 => ?_) (fun h2 => ?_)
  · skip
    exfalso; grind
  · skip
    refine ru_iload_n d_Mo_clash_5 rfl rfl ?_
    refine ru_iconst (v := 1) d_Mo_clash_6 (by decide) ?_
    refine ru_icmp_ne (tgt := 14) d_Mo_clash_7 (by decide) (fun h7 => ?_) (fun h7 => ?_)
    · skip
      refine ru_iconst (v := 1) d_Mo_clash_14 (by decide) ?_
      refine ru_putI d_Mo_clash_15 lf_Mo_39 (ly hL 398 9 0) rfl (fun q hq => by cases hq; exact Or.inl rfl) ⟨rfl, rfl⟩ ?_
      refine ru_iload_n d_Mo_clash_18 rfl rfl ?_
      refine ru_istore_n d_Mo_clash_19 rfl (by decide) ?_
      refine ru_iconst (v := 0) d_Mo_clash_20 (by decide) ?_
      refine ru_istore d_Mo_clash_21 (by decide) ?_
      refine ru_iload d_Mo_clash_23 rfl ?_
      refine ru_aload_n d_Mo_clash_25 rfl rfl ?_
      refine ru_getI d_Mo_clash_26 lf_Mo_189 (ly hL 398 9 0) rfl ?_
      rw [rx_u_k _ _ (by decide)]
      refine ru_icmp_ge (tgt := 103) d_Mo_clash_29 (by decide) (fun h29 => ?_) (fun h29 => ?_)
      · skip
        refine ru_aload_n d_Mo_clash_103 rfl rfl ?_
        refine ru_getI d_Mo_clash_104 lf_Mo_39 (ly hL 398 9 0) rfl ?_
        rw [rx_u_same]
        refine ru_if_ne (tgt := 114) d_Mo_clash_107 (by decide) (fun h107 => ?_) (fun h107 => absurd h107 (by decide))
        refine ru_iconst (v := 0) d_Mo_clash_114 (by decide) ?_
        refine ru_iret d_Mo_clash_115 rfl ?_
        exact ⟨rfl, rfl⟩
      · skip
        refine ru_iload_n d_Mo_clash_32 rfl rfl ?_
        refine ru_if_lt (tgt := 103) d_Mo_clash_33 (by decide) (fun h33 => ?_) (fun h33 => ?_)
        · skip
          refine ru_aload_n d_Mo_clash_103 rfl rfl ?_
          refine ru_getI d_Mo_clash_104 lf_Mo_39 (ly hL 398 9 0) rfl ?_
          rw [rx_u_same]
          refine ru_if_ne (tgt := 114) d_Mo_clash_107 (by decide) (fun h107 => ?_) (fun h107 => absurd h107 (by decide))
          refine ru_iconst (v := 0) d_Mo_clash_114 (by decide) ?_
          refine ru_iret d_Mo_clash_115 rfl ?_
          exact ⟨rfl, rfl⟩
        · skip
          refine ru_aload_n d_Mo_clash_36 rfl rfl ?_
          refine ru_getI d_Mo_clash_37 lf_Mo_39 (ly hL 398 9 0) rfl ?_
          rw [rx_u_same]
          refine ru_if_ne (tgt := 103) d_Mo_clash_40 (by decide) (fun h40 => ?_) (fun h40 => absurd h40 (by decide))
          refine ru_aload_n d_Mo_clash_103 rfl rfl ?_
          refine ru_getI d_Mo_clash_104 lf_Mo_39 (ly hL 398 9 0) rfl ?_
          rw [rx_u_same]
          refine ru_if_ne (tgt := 114) d_Mo_clash_107 (by decide) (fun h107 => ?_) (fun h107 => absurd h107 (by decide))
          refine ru_iconst (v := 0) d_Mo_clash_114 (by decide) ?_
          refine ru_iret d_Mo_clash_115 rfl ?_
          exact ⟨rfl, rfl⟩
    · skip
      exfalso; grind
theorem sp_Mo_clashN {n w : Nat} {k : Int32} (hL : LAY nx ct mr) (hn : mi 398 7 = nI n) (hk : k < 0) (hw : w < 2) : rx_Calls y_Mo_clash M_Mo_clash 3 0 0 [.ref 398, .int k, .int (nI w)] (nx, ct, mi, ml, mr) (fun v τ => v = some (.int (-1)) ∧ τ = (nx, ct, rx_u mi 398 0 0, ml, mr)) := by
  refine rx_enter (by decide) rfl rfl (Nat.le_of_ble_eq_true rfl) ?_
  refine ru_aload_n d_Mo_clash_0 rfl rfl ?_
  refine ru_iload_n d_Mo_clash_1 rfl rfl ?_
  refine ru_if_eq (tgt := 10) d_Mo_clash_2 (by decide) (fun h2 => ?_) (fun h2 => ?_)
  · skip
    replace h2 := nm_eq (a := w) (b := 0) (by omega) (by omega) h2
    refine ru_iconst (v := 0) d_Mo_clash_10 (by decide) ?_
    refine ru_goto (tgt := 15) d_Mo_clash_11 (by decide) ?_
    refine ru_putI d_Mo_clash_15 lf_Mo_39 (ly hL 398 9 0) rfl (fun q hq => by cases hq; exact Or.inl rfl) ⟨rfl, rfl⟩ ?_
    refine ru_iload_n d_Mo_clash_18 rfl rfl ?_
    refine ru_istore_n d_Mo_clash_19 rfl (by decide) ?_
    refine ru_iconst (v := 0) d_Mo_clash_20 (by decide) ?_
    refine ru_istore d_Mo_clash_21 (by decide) ?_
    refine ru_iload d_Mo_clash_23 rfl ?_
    refine ru_aload_n d_Mo_clash_25 rfl rfl ?_
    refine ru_getI d_Mo_clash_26 lf_Mo_189 (ly hL 398 9 0) rfl ?_
    rw [rx_u_k _ _ (by decide)]
    refine ru_icmp_ge (tgt := 103) d_Mo_clash_29 (by decide) (fun h29 => ?_) (fun h29 => ?_)
    · skip
      refine ru_aload_n d_Mo_clash_103 rfl rfl ?_
      refine ru_getI d_Mo_clash_104 lf_Mo_39 (ly hL 398 9 0) rfl ?_
      rw [rx_u_same]
      refine ru_if_ne (tgt := 114) d_Mo_clash_107 (by decide) (fun h107 => absurd h107 (by decide)) (fun h107 => ?_)
      refine ru_iconst (v := (-1)) d_Mo_clash_110 (by decide) ?_
      refine ru_goto (tgt := 115) d_Mo_clash_111 (by decide) ?_
      refine ru_iret d_Mo_clash_115 rfl ?_
      exact ⟨rfl, rfl⟩
    · skip
      refine ru_iload_n d_Mo_clash_32 rfl rfl ?_
      refine ru_if_lt (tgt := 103) d_Mo_clash_33 (by decide) (fun h33 => ?_) (fun h33 => absurd hk h33)
      refine ru_aload_n d_Mo_clash_103 rfl rfl ?_
      refine ru_getI d_Mo_clash_104 lf_Mo_39 (ly hL 398 9 0) rfl ?_
      rw [rx_u_same]
      refine ru_if_ne (tgt := 114) d_Mo_clash_107 (by decide) (fun h107 => absurd h107 (by decide)) (fun h107 => ?_)
      refine ru_iconst (v := (-1)) d_Mo_clash_110 (by decide) ?_
      refine ru_goto (tgt := 115) d_Mo_clash_111 (by decide) ?_
      refine ru_iret d_Mo_clash_115 rfl ?_
      exact ⟨rfl, rfl⟩
  · skip
    replace h2 := nm_ne (a := w) (b := 0) (by omega) (by omega) h2
    refine ru_iload_n d_Mo_clash_5 rfl rfl ?_
    refine ru_iconst (v := 1) d_Mo_clash_6 (by decide) ?_
    refine ru_icmp_ne (tgt := 14) d_Mo_clash_7 (by decide) (fun h7 => ?_) (fun h7 => ?_)
    · skip
      replace h7 := nm_ne (a := w) (b := 1) (by omega) (by omega) h7
      exfalso; omega
    · skip
      replace h7 := nm_eq (a := w) (b := 1) (by omega) (by omega) h7
      refine ru_iconst (v := 0) d_Mo_clash_10 (by decide) ?_
      refine ru_goto (tgt := 15) d_Mo_clash_11 (by decide) ?_
      refine ru_putI d_Mo_clash_15 lf_Mo_39 (ly hL 398 9 0) rfl (fun q hq => by cases hq; exact Or.inl rfl) ⟨rfl, rfl⟩ ?_
      refine ru_iload_n d_Mo_clash_18 rfl rfl ?_
      refine ru_istore_n d_Mo_clash_19 rfl (by decide) ?_
      refine ru_iconst (v := 0) d_Mo_clash_20 (by decide) ?_
      refine ru_istore d_Mo_clash_21 (by decide) ?_
      refine ru_iload d_Mo_clash_23 rfl ?_
      refine ru_aload_n d_Mo_clash_25 rfl rfl ?_
      refine ru_getI d_Mo_clash_26 lf_Mo_189 (ly hL 398 9 0) rfl ?_
      rw [rx_u_k _ _ (by decide)]
      refine ru_icmp_ge (tgt := 103) d_Mo_clash_29 (by decide) (fun h29 => ?_) (fun h29 => ?_)
      · skip
        refine ru_aload_n d_Mo_clash_103 rfl rfl ?_
        refine ru_getI d_Mo_clash_104 lf_Mo_39 (ly hL 398 9 0) rfl ?_
        rw [rx_u_same]
        refine ru_if_ne (tgt := 114) d_Mo_clash_107 (by decide) (fun h107 => absurd h107 (by decide)) (fun h107 => ?_)
        refine ru_iconst (v := (-1)) d_Mo_clash_110 (by decide) ?_
        refine ru_goto (tgt := 115) d_Mo_clash_111 (by decide) ?_
        refine ru_iret d_Mo_clash_115 rfl ?_
        exact ⟨rfl, rfl⟩
      · skip
        refine ru_iload_n d_Mo_clash_32 rfl rfl ?_
        refine ru_if_lt (tgt := 103) d_Mo_clash_33 (by decide) (fun h33 => ?_) (fun h33 => absurd hk h33)
        refine ru_aload_n d_Mo_clash_103 rfl rfl ?_
        refine ru_getI d_Mo_clash_104 lf_Mo_39 (ly hL 398 9 0) rfl ?_
        rw [rx_u_same]
        refine ru_if_ne (tgt := 114) d_Mo_clash_107 (by decide) (fun h107 => absurd h107 (by decide)) (fun h107 => ?_)
        refine ru_iconst (v := (-1)) d_Mo_clash_110 (by decide) ?_
        refine ru_goto (tgt := 115) d_Mo_clash_111 (by decide) ?_
        refine ru_iret d_Mo_clash_115 rfl ?_
        exact ⟨rfl, rfl⟩
theorem sp_Mo_clash {n K w : Nat} {z : Nat → Int32} (hL : LAY nx ct mr) (hn : mi 398 7 = nI n) (hn2 : n ≤ 60) (hK : K < 2 ^ 31) (hw : w < 2) (hz : ∀ k, k < n → ml 404 (12 * k + 6) = (z k).toInt64 ∧ isArea (z k)) : rx_Calls y_Mo_clash M_Mo_clash 3 0 0 [.ref 398, .int (nI K), .int (nI w)] (nx, ct, mi, ml, mr) (fun v τ => v = some (.int (oP w (nthA (fun a b => clashM (mi 402) (ml 403) (ml 404) (z a) (z b) a b) n n 0 K))) ∧ τ = (nx, ct, rx_u mi 398 0 0, ml, mr)) := by
  refine rx_enter (by decide) rfl rfl (Nat.le_of_ble_eq_true rfl) ?_
  have hn' : rx_u mi 398 0 0 398 7 = nI n := by rw [rx_u_k _ _ (by decide)]; exact hn
  have hS : rx_u mi 398 0 0 402 = mi 402 := rx_u_r _ _ (by decide)
  have h0 : rx_u mi 398 0 0 398 0 = 0 := rx_u_same _ _ _ _
  generalize hm : rx_u mi 398 0 0 = m1 at hn' hS h0 ⊢
  have inner : ∀ (post : Option Value → rx_S → Prop) (a : Nat), a < n → ∀ f i c, i ≤ n → a < i → f = n - i → c < 2 ^ 31 → (∀ c', c' < 2 ^ 31 → nthB (fun b => clashM (mi 402) (ml 403) (ml 404) (z a) (z b) a b) f i c = .inr c' → rx_W M_Mo_clash 3 0 0 97 [(0, .ref 398), (1, .int (nI K)), (2, .int (nI w)), (3, .int (nI c')), (4, .int (nI a))] [] (nx, ct, m1, ml, mr) (pR post)) →
      (∀ b, nthB (fun b => clashM (mi 402) (ml 403) (ml 404) (z a) (z b) a b) f i c = .inl b → post (some (.int (oP w (some (a, b))))) (nx, ct, m1, ml, mr)) → rx_W M_Mo_clash 3 0 0 49 [(0, .ref 398), (1, .int (nI K)), (2, .int (nI w)), (3, .int (nI c)), (4, .int (nI a)), (5, .int (nI i))] [] (nx, ct, m1, ml, mr) (pR post) := by
    intro post a ha f
    induction f with
    | zero =>
      intro i c hi hai hf hc h1 h2
      refine ru_iload d_Mo_clash_49 rfl ?_
      refine ru_aload_n d_Mo_clash_51 rfl rfl ?_
      refine ru_getI d_Mo_clash_52 lf_Mo_189 (ly hL 398 9 0) rfl ?_
      refine ru_eqi hn' ?_
      refine ru_icmp_ge (tgt := 97) d_Mo_clash_55 (by decide) (fun h55 => ?_) (fun h55 => absurd (nI_le (by omega) (by omega)) h55)
      replace h55 := nm_le (a := n) (b := i) (by omega) (by omega) h55
      exact ru_to (h1 c hc rfl) ⟨rfl, rfl, rfl, rfl, rfl, trivial⟩
    | succ f ih =>
      intro i c hi hai hf hc h1 h2
      unfold nthB at h1 h2
      refine ru_iload d_Mo_clash_49 rfl ?_
      refine ru_aload_n d_Mo_clash_51 rfl rfl ?_
      refine ru_getI d_Mo_clash_52 lf_Mo_189 (ly hL 398 9 0) rfl ?_
      refine ru_eqi hn' ?_
      refine ru_icmp_ge (tgt := 97) d_Mo_clash_55 (by decide) (fun h55 => absurd h55 (nI_ge (by omega) (by omega))) (fun h55 => ?_)
      replace h55 := nm_nle (a := n) (b := i) (by omega) (by omega) h55
      refine ru_aload_n d_Mo_clash_58 rfl rfl ?_
      refine ru_iload d_Mo_clash_59 rfl ?_
      refine ru_iload d_Mo_clash_61 rfl ?_
      refine ru_callV (mc := 0) (ms := 0) d_Mo_clash_63 lm_Mo_212 (sp_Mo_isClash hL (by omega) (by omega) (hz a (by omega)).1 (hz i (by omega)).1 (hz a (by omega)).2 (hz i (by omega)).2) (rx_recv_is (ly hL 398 9 0) kx_Mo) (by decide) rfl (Nat.le_of_ble_eq_true rfl) ?_
      rw [hS]
      intro v τ h
      obtain ⟨rfl, rfl⟩ := h
      refine ru_if_ne (tgt := 72) d_Mo_clash_66 (by decide) (fun h66 => ?_) (fun h66 => ?_)
      · skip
        replace h66 := bI_ne0.mp h66
        refine ru_iload_n d_Mo_clash_72 rfl rfl ?_
        refine ru_if_ne (tgt := 88) d_Mo_clash_73 (by decide) (fun h73 => ?_) (fun h73 => ?_)
        · skip
          replace h73 := nm_ne (a := c) (b := 0) (by omega) (by omega) h73
          refine ru_iinc (v := nI (c - 1)) d_Mo_clash_88 rfl (nm_dec h73) (by decide) ?_
          refine ru_iinc (v := nI (i + 1)) d_Mo_clash_91 rfl (nm_inc _ 1) (by decide) ?_
          refine ru_goto (tgt := 49) d_Mo_clash_94 (by decide) ?_
          first | rw [if_neg h66] at h1 h2 | rw [if_pos h66, if_neg h73] at h1 h2
          exact ru_to (ih (i + 1) _ (by omega) (by omega) (by omega) (by omega) h1 h2) ⟨rfl, rfl, rfl, rfl, rfl, rfl, trivial⟩
        · skip
          replace h73 := nm_eq (a := c) (b := 0) (by omega) (by omega) h73
          refine ru_iload_n d_Mo_clash_76 rfl rfl ?_
          refine ru_if_ne (tgt := 85) d_Mo_clash_77 (by decide) (fun h77 => ?_) (fun h77 => ?_)
          · skip
            replace h77 := nm_ne (a := w) (b := 0) (by omega) (by omega) h77
            refine ru_iload d_Mo_clash_85 rfl ?_
            refine ru_iret d_Mo_clash_87 rfl ?_
            rw [if_pos h66, if_pos h73] at h2
            have q := h2 i rfl
            simp only [oP] at q
            first | (rw [if_pos h77] at q; exact q) | (rw [if_neg h77] at q; exact q)
          · skip
            replace h77 := nm_eq (a := w) (b := 0) (by omega) (by omega) h77
            refine ru_iload d_Mo_clash_80 rfl ?_
            refine ru_goto (tgt := 87) d_Mo_clash_82 (by decide) ?_
            refine ru_iret d_Mo_clash_87 rfl ?_
            rw [if_pos h66, if_pos h73] at h2
            have q := h2 i rfl
            simp only [oP] at q
            first | (rw [if_pos h77] at q; exact q) | (rw [if_neg h77] at q; exact q)
      · skip
        replace h66 := bI_eq0.mp h66
        refine ru_goto (tgt := 91) d_Mo_clash_69 (by decide) ?_
        refine ru_iinc (v := nI (i + 1)) d_Mo_clash_91 rfl (nm_inc _ 1) (by decide) ?_
        refine ru_goto (tgt := 49) d_Mo_clash_94 (by decide) ?_
        first | rw [if_neg h66] at h1 h2 | rw [if_pos h66, if_neg h73] at h1 h2
        exact ru_to (ih (i + 1) _ (by omega) (by omega) (by omega) (by omega) h1 h2) ⟨rfl, rfl, rfl, rfl, rfl, rfl, trivial⟩
  have outer : ∀ f a c, a ≤ n → f = n - a → c < 2 ^ 31 → rx_W M_Mo_clash 3 0 0 23 [(0, .ref 398), (1, .int (nI K)), (2, .int (nI w)), (3, .int (nI c)), (4, .int (nI a))] [] (nx, ct, m1, ml, mr) (pR (fun v τ => v = some (.int (oP w (nthA (fun a b => clashM (mi 402) (ml 403) (ml 404) (z a) (z b) a b) n f a c))) ∧ τ = (nx, ct, m1, ml, mr))) := by
    intro f
    induction f with
    | zero =>
      intro a c ha hf hc
      refine ru_iload d_Mo_clash_23 rfl ?_
      refine ru_aload_n d_Mo_clash_25 rfl rfl ?_
      refine ru_getI d_Mo_clash_26 lf_Mo_189 (ly hL 398 9 0) rfl ?_
      refine ru_eqi hn' ?_
      refine ru_icmp_ge (tgt := 103) d_Mo_clash_29 (by decide) (fun h29 => ?_) (fun h29 => absurd (nI_le (by omega) (by omega)) h29)
      replace h29 := nm_le (a := n) (b := a) (by omega) (by omega) h29
      refine ru_aload_n d_Mo_clash_103 rfl rfl ?_
      refine ru_getI d_Mo_clash_104 lf_Mo_39 (ly hL 398 9 0) rfl ?_
      refine ru_eqi h0 ?_
      refine ru_if_ne (tgt := 114) d_Mo_clash_107 (by decide) (fun h107 => absurd h107 (by decide)) (fun h107 => ?_)
      refine ru_iconst (v := (-1)) d_Mo_clash_110 (by decide) ?_
      refine ru_goto (tgt := 115) d_Mo_clash_111 (by decide) ?_
      refine ru_iret d_Mo_clash_115 rfl ?_
      exact ⟨rfl, rfl⟩
    | succ f ih =>
      intro a c ha hf hc
      unfold nthA
      refine ru_iload d_Mo_clash_23 rfl ?_
      refine ru_aload_n d_Mo_clash_25 rfl rfl ?_
      refine ru_getI d_Mo_clash_26 lf_Mo_189 (ly hL 398 9 0) rfl ?_
      refine ru_eqi hn' ?_
      refine ru_icmp_ge (tgt := 103) d_Mo_clash_29 (by decide) (fun h29 => absurd h29 (nI_ge (by omega) (by omega))) (fun h29 => ?_)
      replace h29 := nm_nle (a := n) (b := a) (by omega) (by omega) h29
      refine ru_iload_n d_Mo_clash_32 rfl rfl ?_
      refine ru_if_lt (tgt := 103) d_Mo_clash_33 (by decide) (fun h33 => absurd h33 (nI_pos hK)) (fun h33 => ?_)
      replace h33 := nm_nlt (a := K) (b := 0) (by omega) (by omega) h33
      refine ru_aload_n d_Mo_clash_36 rfl rfl ?_
      refine ru_getI d_Mo_clash_37 lf_Mo_39 (ly hL 398 9 0) rfl ?_
      refine ru_eqi h0 ?_
      refine ru_if_ne (tgt := 103) d_Mo_clash_40 (by decide) (fun h40 => absurd h40 (by decide)) (fun h40 => ?_)
      refine ru_iload d_Mo_clash_43 rfl ?_
      refine ru_iconst (v := 1) d_Mo_clash_45 (by decide) ?_
      refine ru_iadd d_Mo_clash_46 ?_
      refine ru_eqi (nm_add a 1 : _ = nI (a + 1)) ?_
      refine ru_istore d_Mo_clash_47 (by decide) ?_
      refine ru_to (inner _ a (by omega) (n - (a + 1)) (a + 1) c (by omega) (by omega) rfl hc ?_ ?_) ⟨rfl, rfl, rfl, rfl, rfl, rfl, trivial⟩
      · intro c' hc' e
        rw [e]
        refine ru_iinc (v := nI (a + 1)) d_Mo_clash_97 rfl (nm_inc _ 1) (by decide) ?_
        refine ru_goto (tgt := 23) d_Mo_clash_100 (by decide) ?_
        exact ru_to (ih (a + 1) c' (by omega) (by omega) hc') ⟨rfl, rfl, rfl, rfl, rfl, trivial⟩
      · intro b e
        rw [e]
        exact ⟨rfl, rfl⟩
  refine ru_aload_n d_Mo_clash_0 rfl rfl ?_
  refine ru_iload_n d_Mo_clash_1 rfl rfl ?_
  refine ru_if_eq (tgt := 10) d_Mo_clash_2 (by decide) (fun h2 => ?_) (fun h2 => ?_)
  · skip
    replace h2 := nm_eq (a := w) (b := 0) (by omega) (by omega) h2
    refine ru_iconst (v := 0) d_Mo_clash_10 (by decide) ?_
    refine ru_goto (tgt := 15) d_Mo_clash_11 (by decide) ?_
    refine ru_putI d_Mo_clash_15 lf_Mo_39 (ly hL 398 9 0) rfl (fun q hq => by cases hq; exact Or.inl rfl) ⟨rfl, rfl⟩ ?_
    rw [hm]
    refine ru_iload_n d_Mo_clash_18 rfl rfl ?_
    refine ru_istore_n d_Mo_clash_19 rfl (by decide) ?_
    refine ru_iconst (v := 0) d_Mo_clash_20 (by decide) ?_
    refine ru_istore d_Mo_clash_21 (by decide) ?_
    exact ru_to (outer n 0 K (by omega) rfl hK) ⟨rfl, rfl, rfl, rfl, rfl, trivial⟩
  · skip
    replace h2 := nm_ne (a := w) (b := 0) (by omega) (by omega) h2
    refine ru_iload_n d_Mo_clash_5 rfl rfl ?_
    refine ru_iconst (v := 1) d_Mo_clash_6 (by decide) ?_
    refine ru_icmp_ne (tgt := 14) d_Mo_clash_7 (by decide) (fun h7 => ?_) (fun h7 => ?_)
    · skip
      replace h7 := nm_ne (a := w) (b := 1) (by omega) (by omega) h7
      exfalso; omega
    · skip
      replace h7 := nm_eq (a := w) (b := 1) (by omega) (by omega) h7
      refine ru_iconst (v := 0) d_Mo_clash_10 (by decide) ?_
      refine ru_goto (tgt := 15) d_Mo_clash_11 (by decide) ?_
      refine ru_putI d_Mo_clash_15 lf_Mo_39 (ly hL 398 9 0) rfl (fun q hq => by cases hq; exact Or.inl rfl) ⟨rfl, rfl⟩ ?_
      rw [hm]
      refine ru_iload_n d_Mo_clash_18 rfl rfl ?_
      refine ru_istore_n d_Mo_clash_19 rfl (by decide) ?_
      refine ru_iconst (v := 0) d_Mo_clash_20 (by decide) ?_
      refine ru_istore d_Mo_clash_21 (by decide) ?_
      exact ru_to (outer n 0 K (by omega) rfl hK) ⟨rfl, rfl, rfl, rfl, rfl, trivial⟩
end
/-- which kinds there are, as bits; how many bits there are -/
def seenF (κ : Nat → Nat) : Nat → Nat → Nat → Nat
  | 0, _, s => s
  | f + 1, i, s => seenF κ f (i + 1) (s ||| 2 ^ κ i)
def popF : Nat → Nat → Nat
  | 0, _ => 0
  | f + 1, s => s % 2 + popF f (s / 2)
theorem seenF_lt (κ : Nat → Nat) : ∀ f i s, (∀ j, i ≤ j → j < i + f → κ j < 13) → s < 8192 → seenF κ f i s < 8192
  | 0, _, _, _, h => h
  | f + 1, i, s, hk, h => seenF_lt κ f (i + 1) _ (fun j a b => hk j (by omega) (by omega)) (Nat.or_lt_two_pow (n := 13) h (Nat.pow_lt_pow_right (by decide) (hk i (by omega) (by omega))))
theorem seenF_congr {κ κ' : Nat → Nat} : ∀ f i s, (∀ j, i ≤ j → j < i + f → κ j = κ' j) → seenF κ f i s = seenF κ' f i s
  | 0, _, _, _ => rfl
  | f + 1, i, s, hk => by
    unfold seenF
    rw [hk i (by omega) (by omega)]
    exact seenF_congr f (i + 1) _ (fun j a b => hk j (by omega) (by omega))
theorem nm_or (a b : Nat) : nI a ||| nI b = nI (a ||| b) := by
  apply Int32.toBitVec_inj.mp
  show BitVec.ofNat 32 a ||| BitVec.ofNat 32 b = BitVec.ofNat 32 (a ||| b)
  exact (BitVec.ofNat_or).symm
theorem nm_bit : ∀ κ, κ < 13 → (1 : Int32) <<< (nI κ &&& 31) = nI (2 ^ κ) := by decide
theorem nm_half' : ∀ a, a < 128 → ∀ b, b < 64 → nI (64 * a + b) >>> ((1 : Int32) &&& 31) = nI ((64 * a + b) / 2) ∧ nI (64 * a + b) &&& 1 = nI ((64 * a + b) % 2) := by decide +kernel
theorem nm_half (s : Nat) (h : s < 8192) : nI s >>> ((1 : Int32) &&& 31) = nI (s / 2) ∧ nI s &&& 1 = nI (s % 2) := by
  have := nm_half' (s / 64) (by omega) (s % 64) (by omega)
  rwa [Nat.div_add_mod] at this
theorem popF_0 : ∀ f, popF f 0 = 0
  | 0 => rfl
  | f + 1 => by unfold popF; rw [Nat.zero_mod, Nat.zero_div, popF_0 f]
section
variable {nx : Nat} {ct : Nat → Nat × Nat} {mi : Nat → Nat → Int32} {ml : Nat → Nat → Int64} {mr : Nat → Nat → Option Nat}
theorem sp_Mo_kinds {n : Nat} {κ : Nat → Nat} (hL : LAY nx ct mr) (hn : mi 398 7 = nI n) (hn2 : n ≤ 60) (hκ : ∀ k, k < n → ml 404 (12 * k) = (nI (κ k)).toInt64 ∧ κ k < 13) : rx_Calls y_Mo_kinds M_Mo_kinds 0 0 0 [.ref 398] (nx, ct, mi, ml, mr) (fun v τ => v = some (.int (nI (popF 13 (seenF κ n 0 0)))) ∧ τ = (nx, ct, rx_u mi 398 0 0, ml, mr)) := by
  refine rx_enter (by decide) rfl rfl (Nat.le_of_ble_eq_true rfl) ?_
  have hn' : rx_u mi 398 0 0 398 7 = nI n := by rw [rx_u_k _ _ (by decide)]; exact hn
  generalize hm : rx_u mi 398 0 0 = m1 at hn' ⊢
  have pop : ∀ (post : Option Value → rx_S → Prop) f s c, s < 2 ^ f → s < 8192 → post (some (.int (nI (c + popF f s)))) (nx, ct, m1, ml, mr) → rx_W M_Mo_kinds 0 0 0 40 [(1, .int (nI s)), (2, .int (nI c))] [] (nx, ct, m1, ml, mr) (pR post) := by
    intro post f
    induction f with
    | zero =>
      intro s c h1 h2 hp
      have e : s = 0 := by omega
      subst e
      refine ru_iload_n d_Mo_kinds_40 rfl rfl ?_
      refine ru_if_eq (tgt := 57) d_Mo_kinds_41 (by decide) (fun h41 => ?_) (fun h41 => absurd h41 (by decide))
      refine ru_iload_n d_Mo_kinds_57 rfl rfl ?_
      refine ru_iret d_Mo_kinds_58 rfl ?_
      exact hp
    | succ f ih =>
      intro s c h1 h2 hp
      have e := nm_half s h2
      refine ru_iload_n d_Mo_kinds_40 rfl rfl ?_
      refine ru_if_eq (tgt := 57) d_Mo_kinds_41 (by decide) (fun h41 => ?_) (fun h41 => ?_)
      · skip
        replace h41 := nm_eq (a := s) (b := 0) (by omega) (by omega) h41
        refine ru_iload_n d_Mo_kinds_57 rfl rfl ?_
        refine ru_iret d_Mo_kinds_58 rfl ?_
        subst h41
        rw [popF_0] at hp
        exact hp
      · skip
        replace h41 := nm_ne (a := s) (b := 0) (by omega) (by omega) h41
        refine ru_iload_n d_Mo_kinds_44 rfl rfl ?_
        refine ru_iload_n d_Mo_kinds_45 rfl rfl ?_
        refine ru_iconst (v := 1) d_Mo_kinds_46 (by decide) ?_
        refine ru_iand d_Mo_kinds_47 ?_
        refine ru_eqi e.2 ?_
        refine ru_iadd d_Mo_kinds_48 ?_
        refine ru_eqi (nm_add c (s%2) : _ = nI (c + (s%2))) ?_
        refine ru_istore_n d_Mo_kinds_49 rfl (by decide) ?_
        refine ru_iload_n d_Mo_kinds_50 rfl rfl ?_
        refine ru_iconst (v := 1) d_Mo_kinds_51 (by decide) ?_
        refine ru_ishr d_Mo_kinds_52 ?_
        refine ru_eqi e.1 ?_
        refine ru_istore_n d_Mo_kinds_53 rfl (by decide) ?_
        refine ru_goto (tgt := 40) d_Mo_kinds_54 (by decide) ?_
        refine ru_to (ih (s / 2) (c + s % 2) (by rw [Nat.pow_succ] at h1; omega) (by omega) ?_) ⟨rfl, rfl, trivial⟩
        rw [Nat.add_assoc]
        exact hp
  have loop : ∀ f i s, i ≤ n → f = n - i → s < 8192 → rx_W M_Mo_kinds 0 0 0 9 [(0, .ref 398), (1, .int (nI s)), (2, .int (nI i))] [] (nx, ct, m1, ml, mr) (pR (fun v τ => v = some (.int (nI (popF 13 (seenF κ f i s)))) ∧ τ = (nx, ct, m1, ml, mr))) := by
    intro f
    induction f with
    | zero =>
      intro i s hi hf hs
      refine ru_iload_n d_Mo_kinds_9 rfl rfl ?_
      refine ru_aload_n d_Mo_kinds_10 rfl rfl ?_
      refine ru_getI d_Mo_kinds_11 lf_Mo_189 (ly hL 398 9 0) rfl ?_
      refine ru_eqi hn' ?_
      refine ru_icmp_ge (tgt := 38) d_Mo_kinds_14 (by decide) (fun h14 => ?_) (fun h14 => absurd (nI_le (by omega) (by omega)) h14)
      replace h14 := nm_le (a := n) (b := i) (by omega) (by omega) h14
      refine ru_iconst (v := 0) d_Mo_kinds_38 (by decide) ?_
      refine ru_istore_n d_Mo_kinds_39 rfl (by decide) ?_
      refine ru_to (pop _ 13 s 0 hs hs ?_) ⟨rfl, rfl, trivial⟩
      rw [Nat.zero_add]
      exact ⟨rfl, rfl⟩
    | succ f ih =>
      intro i s hi hf hs
      have hk := hκ i (by omega)
      unfold seenF
      refine ru_iload_n d_Mo_kinds_9 rfl rfl ?_
      refine ru_aload_n d_Mo_kinds_10 rfl rfl ?_
      refine ru_getI d_Mo_kinds_11 lf_Mo_189 (ly hL 398 9 0) rfl ?_
      refine ru_eqi hn' ?_
      refine ru_icmp_ge (tgt := 38) d_Mo_kinds_14 (by decide) (fun h14 => absurd h14 (nI_ge (by omega) (by omega))) (fun h14 => ?_)
      replace h14 := nm_nle (a := n) (b := i) (by omega) (by omega) h14
      refine ru_iload_n d_Mo_kinds_17 rfl rfl ?_
      refine ru_iconst (v := 1) d_Mo_kinds_18 (by decide) ?_
      refine ru_aload_n d_Mo_kinds_19 rfl rfl ?_
      refine ru_getR d_Mo_kinds_20 lf_Mo_27 (ly hL 398 9 0) rfl (lr hL 398 8 404) ?_
      refine ru_bipush (v := 12) d_Mo_kinds_23 (by decide) ?_
      refine ru_iload_n d_Mo_kinds_25 rfl rfl ?_
      refine ru_imul d_Mo_kinds_26 ?_
      refine ru_eqi (nm_mul 12 i : _ = nI (12 * i)) ?_
      refine ru_laldN (j := (12 * i)) d_Mo_kinds_27 (ly hL 404 104 1440) (by omega) (by decide) ?_
      refine ru_eql hk.1 ?_
      refine ru_l2i d_Mo_kinds_28 ?_
      refine ru_eqi (ll_32 _) ?_
      refine ru_ishl d_Mo_kinds_29 ?_
      refine ru_eqi (nm_bit _ hk.2) ?_
      refine ru_ior d_Mo_kinds_30 ?_
      refine ru_eqi (nm_or _ _) ?_
      refine ru_istore_n d_Mo_kinds_31 rfl (by decide) ?_
      refine ru_iinc (v := nI (i + 1)) d_Mo_kinds_32 rfl (nm_inc _ 1) (by decide) ?_
      refine ru_goto (tgt := 9) d_Mo_kinds_35 (by decide) ?_
      exact ru_to (ih (i + 1) _ (by omega) (by omega) (Nat.or_lt_two_pow (n := 13) hs (Nat.pow_lt_pow_right (by decide) hk.2))) ⟨rfl, rfl, rfl, trivial⟩
  refine ru_aload_n d_Mo_kinds_0 rfl rfl ?_
  refine ru_iconst (v := 0) d_Mo_kinds_1 (by decide) ?_
  refine ru_putI d_Mo_kinds_2 lf_Mo_39 (ly hL 398 9 0) rfl (fun q hq => by cases hq; exact Or.inl rfl) ⟨rfl, rfl⟩ ?_
  rw [hm]
  refine ru_iconst (v := 0) d_Mo_kinds_5 (by decide) ?_
  refine ru_istore_n d_Mo_kinds_6 rfl (by decide) ?_
  refine ru_iconst (v := 0) d_Mo_kinds_7 (by decide) ?_
  refine ru_istore_n d_Mo_kinds_8 rfl (by decide) ?_
  exact ru_to (loop n 0 0 (by omega) rfl (by decide)) ⟨rfl, rfl, rfl, trivial⟩
end
end
section
/-! The reference: name, shape; a word spelt -/
theorem d_Mo_name_0 : decode M_Mo_name.2.1 0 = .ok (.aload_n 0, 1) := by decide +kernel
theorem d_Mo_name_1 : decode M_Mo_name.2.1 1 = .ok (.iload_n 1, 1) := by decide +kernel
theorem d_Mo_name_2 : decode M_Mo_name.2.1 2 = .ok (.ifCond .lt 18, 3) := by decide +kernel
theorem d_Mo_name_5 : decode M_Mo_name.2.1 5 = .ok (.iload_n 1, 1) := by decide +kernel
theorem d_Mo_name_6 : decode M_Mo_name.2.1 6 = .ok (.iconst 2, 1) := by decide +kernel
theorem d_Mo_name_7 : decode M_Mo_name.2.1 7 = .ok (.if_icmp .gt 13, 3) := by decide +kernel
theorem d_Mo_name_10 : decode M_Mo_name.2.1 10 = .ok (.iload_n 2, 1) := by decide +kernel
theorem d_Mo_name_11 : decode M_Mo_name.2.1 11 = .ok (.ifCond .lt 9, 3) := by decide +kernel
theorem d_Mo_name_14 : decode M_Mo_name.2.1 14 = .ok (.iload_n 2, 1) := by decide +kernel
theorem d_Mo_name_15 : decode M_Mo_name.2.1 15 = .ok (.bipush 15, 2) := by decide +kernel
theorem d_Mo_name_17 : decode M_Mo_name.2.1 17 = .ok (.if_icmp .le 7, 3) := by decide +kernel
theorem d_Mo_name_20 : decode M_Mo_name.2.1 20 = .ok (.iconst 1, 1) := by decide +kernel
theorem d_Mo_name_21 : decode M_Mo_name.2.1 21 = .ok (.goto 4, 3) := by decide +kernel
theorem d_Mo_name_24 : decode M_Mo_name.2.1 24 = .ok (.iconst 0, 1) := by decide +kernel
theorem d_Mo_name_25 : decode M_Mo_name.2.1 25 = .ok (.putfield 39, 3) := by decide +kernel
theorem d_Mo_name_28 : decode M_Mo_name.2.1 28 = .ok (.aload_n 0, 1) := by decide +kernel
theorem d_Mo_name_29 : decode M_Mo_name.2.1 29 = .ok (.getfield 39, 3) := by decide +kernel
theorem d_Mo_name_32 : decode M_Mo_name.2.1 32 = .ok (.ifCond .eq 5, 3) := by decide +kernel
theorem d_Mo_name_35 : decode M_Mo_name.2.1 35 = .ok (.iconst 0, 1) := by decide +kernel
theorem d_Mo_name_36 : decode M_Mo_name.2.1 36 = .ok (.ireturn, 1) := by decide +kernel
theorem d_Mo_name_37 : decode M_Mo_name.2.1 37 = .ok (.bipush 16, 2) := by decide +kernel
theorem d_Mo_name_39 : decode M_Mo_name.2.1 39 = .ok (.iload_n 1, 1) := by decide +kernel
theorem d_Mo_name_40 : decode M_Mo_name.2.1 40 = .ok (.imul, 1) := by decide +kernel
theorem d_Mo_name_41 : decode M_Mo_name.2.1 41 = .ok (.iload_n 2, 1) := by decide +kernel
theorem d_Mo_name_42 : decode M_Mo_name.2.1 42 = .ok (.iadd, 1) := by decide +kernel
theorem d_Mo_name_43 : decode M_Mo_name.2.1 43 = .ok (.istore 4, 2) := by decide +kernel
theorem d_Mo_name_45 : decode M_Mo_name.2.1 45 = .ok (.iload_n 3, 1) := by decide +kernel
theorem d_Mo_name_46 : decode M_Mo_name.2.1 46 = .ok (.invokestatic 43, 3) := by decide +kernel
theorem d_Mo_name_49 : decode M_Mo_name.2.1 49 = .ok (.ifCond .ne 10, 3) := by decide +kernel
theorem d_Mo_name_52 : decode M_Mo_name.2.1 52 = .ok (.iload_n 3, 1) := by decide +kernel
theorem d_Mo_name_53 : decode M_Mo_name.2.1 53 = .ok (.invokestatic 47, 3) := by decide +kernel
theorem d_Mo_name_56 : decode M_Mo_name.2.1 56 = .ok (.ifCond .eq 15, 3) := by decide +kernel
theorem d_Mo_name_59 : decode M_Mo_name.2.1 59 = .ok (.aload_n 0, 1) := by decide +kernel
theorem d_Mo_name_60 : decode M_Mo_name.2.1 60 = .ok (.getfield 13, 3) := by decide +kernel
theorem d_Mo_name_63 : decode M_Mo_name.2.1 63 = .ok (.iload 4, 2) := by decide +kernel
theorem d_Mo_name_65 : decode M_Mo_name.2.1 65 = .ok (.iaload, 1) := by decide +kernel
theorem d_Mo_name_66 : decode M_Mo_name.2.1 66 = .ok (.bipush 8, 2) := by decide +kernel
theorem d_Mo_name_68 : decode M_Mo_name.2.1 68 = .ok (.if_icmp .ne 5, 3) := by decide +kernel
theorem d_Mo_name_71 : decode M_Mo_name.2.1 71 = .ok (.iconst 0, 1) := by decide +kernel
theorem d_Mo_name_72 : decode M_Mo_name.2.1 72 = .ok (.ireturn, 1) := by decide +kernel
theorem d_Mo_name_73 : decode M_Mo_name.2.1 73 = .ok (.aload_n 0, 1) := by decide +kernel
theorem d_Mo_name_74 : decode M_Mo_name.2.1 74 = .ok (.getfield 16, 3) := by decide +kernel
theorem d_Mo_name_77 : decode M_Mo_name.2.1 77 = .ok (.bipush 8, 2) := by decide +kernel
theorem d_Mo_name_79 : decode M_Mo_name.2.1 79 = .ok (.iload 4, 2) := by decide +kernel
theorem d_Mo_name_81 : decode M_Mo_name.2.1 81 = .ok (.imul, 1) := by decide +kernel
theorem d_Mo_name_82 : decode M_Mo_name.2.1 82 = .ok (.aload_n 0, 1) := by decide +kernel
theorem d_Mo_name_83 : decode M_Mo_name.2.1 83 = .ok (.getfield 13, 3) := by decide +kernel
theorem d_Mo_name_86 : decode M_Mo_name.2.1 86 = .ok (.iload 4, 2) := by decide +kernel
theorem d_Mo_name_88 : decode M_Mo_name.2.1 88 = .ok (.iaload, 1) := by decide +kernel
theorem d_Mo_name_89 : decode M_Mo_name.2.1 89 = .ok (.iadd, 1) := by decide +kernel
theorem d_Mo_name_90 : decode M_Mo_name.2.1 90 = .ok (.iload_n 3, 1) := by decide +kernel
theorem d_Mo_name_91 : decode M_Mo_name.2.1 91 = .ok (.iastore, 1) := by decide +kernel
theorem d_Mo_name_92 : decode M_Mo_name.2.1 92 = .ok (.aload_n 0, 1) := by decide +kernel
theorem d_Mo_name_93 : decode M_Mo_name.2.1 93 = .ok (.getfield 13, 3) := by decide +kernel
theorem d_Mo_name_96 : decode M_Mo_name.2.1 96 = .ok (.iload 4, 2) := by decide +kernel
theorem d_Mo_name_98 : decode M_Mo_name.2.1 98 = .ok (.dup2, 1) := by decide +kernel
theorem d_Mo_name_99 : decode M_Mo_name.2.1 99 = .ok (.iaload, 1) := by decide +kernel
theorem d_Mo_name_100 : decode M_Mo_name.2.1 100 = .ok (.iconst 1, 1) := by decide +kernel
theorem d_Mo_name_101 : decode M_Mo_name.2.1 101 = .ok (.iadd, 1) := by decide +kernel
theorem d_Mo_name_102 : decode M_Mo_name.2.1 102 = .ok (.iastore, 1) := by decide +kernel
theorem d_Mo_name_103 : decode M_Mo_name.2.1 103 = .ok (.iconst 1, 1) := by decide +kernel
theorem d_Mo_name_104 : decode M_Mo_name.2.1 104 = .ok (.ireturn, 1) := by decide +kernel
theorem d_Mo_shape_0 : decode M_Mo_shape.2.1 0 = .ok (.aload_n 0, 1) := by decide +kernel
theorem d_Mo_shape_1 : decode M_Mo_shape.2.1 1 = .ok (.iload_n 1, 1) := by decide +kernel
theorem d_Mo_shape_2 : decode M_Mo_shape.2.1 2 = .ok (.ifCond .lt 9, 3) := by decide +kernel
theorem d_Mo_shape_5 : decode M_Mo_shape.2.1 5 = .ok (.iload_n 1, 1) := by decide +kernel
theorem d_Mo_shape_6 : decode M_Mo_shape.2.1 6 = .ok (.bipush 15, 2) := by decide +kernel
theorem d_Mo_shape_8 : decode M_Mo_shape.2.1 8 = .ok (.if_icmp .le 7, 3) := by decide +kernel
theorem d_Mo_shape_11 : decode M_Mo_shape.2.1 11 = .ok (.iconst 1, 1) := by decide +kernel
theorem d_Mo_shape_12 : decode M_Mo_shape.2.1 12 = .ok (.goto 4, 3) := by decide +kernel
theorem d_Mo_shape_15 : decode M_Mo_shape.2.1 15 = .ok (.iconst 0, 1) := by decide +kernel
theorem d_Mo_shape_16 : decode M_Mo_shape.2.1 16 = .ok (.putfield 39, 3) := by decide +kernel
theorem d_Mo_shape_19 : decode M_Mo_shape.2.1 19 = .ok (.aload_n 0, 1) := by decide +kernel
theorem d_Mo_shape_20 : decode M_Mo_shape.2.1 20 = .ok (.getfield 39, 3) := by decide +kernel
theorem d_Mo_shape_23 : decode M_Mo_shape.2.1 23 = .ok (.ifCond .ne 18, 3) := by decide +kernel
theorem d_Mo_shape_26 : decode M_Mo_shape.2.1 26 = .ok (.lload_n 2, 1) := by decide +kernel
theorem d_Mo_shape_27 : decode M_Mo_shape.2.1 27 = .ok (.lload 6, 2) := by decide +kernel
theorem d_Mo_shape_29 : decode M_Mo_shape.2.1 29 = .ok (.lcmp, 1) := by decide +kernel
theorem d_Mo_shape_30 : decode M_Mo_shape.2.1 30 = .ok (.ifCond .gt 11, 3) := by decide +kernel
theorem d_Mo_shape_33 : decode M_Mo_shape.2.1 33 = .ok (.lload 4, 2) := by decide +kernel
theorem d_Mo_shape_35 : decode M_Mo_shape.2.1 35 = .ok (.lload 8, 2) := by decide +kernel
theorem d_Mo_shape_37 : decode M_Mo_shape.2.1 37 = .ok (.lcmp, 1) := by decide +kernel
theorem d_Mo_shape_38 : decode M_Mo_shape.2.1 38 = .ok (.ifCond .le 5, 3) := by decide +kernel
theorem d_Mo_shape_41 : decode M_Mo_shape.2.1 41 = .ok (.iconst 0, 1) := by decide +kernel
theorem d_Mo_shape_42 : decode M_Mo_shape.2.1 42 = .ok (.ireturn, 1) := by decide +kernel
theorem d_Mo_shape_43 : decode M_Mo_shape.2.1 43 = .ok (.aload_n 0, 1) := by decide +kernel
theorem d_Mo_shape_44 : decode M_Mo_shape.2.1 44 = .ok (.getfield 19, 3) := by decide +kernel
theorem d_Mo_shape_47 : decode M_Mo_shape.2.1 47 = .ok (.iload_n 1, 1) := by decide +kernel
theorem d_Mo_shape_48 : decode M_Mo_shape.2.1 48 = .ok (.iconst 1, 1) := by decide +kernel
theorem d_Mo_shape_49 : decode M_Mo_shape.2.1 49 = .ok (.bastore, 1) := by decide +kernel
theorem d_Mo_shape_50 : decode M_Mo_shape.2.1 50 = .ok (.aload_n 0, 1) := by decide +kernel
theorem d_Mo_shape_51 : decode M_Mo_shape.2.1 51 = .ok (.getfield 23, 3) := by decide +kernel
theorem d_Mo_shape_54 : decode M_Mo_shape.2.1 54 = .ok (.iconst 4, 1) := by decide +kernel
theorem d_Mo_shape_55 : decode M_Mo_shape.2.1 55 = .ok (.iload_n 1, 1) := by decide +kernel
theorem d_Mo_shape_56 : decode M_Mo_shape.2.1 56 = .ok (.imul, 1) := by decide +kernel
theorem d_Mo_shape_57 : decode M_Mo_shape.2.1 57 = .ok (.lload_n 2, 1) := by decide +kernel
theorem d_Mo_shape_58 : decode M_Mo_shape.2.1 58 = .ok (.lastore, 1) := by decide +kernel
theorem d_Mo_shape_59 : decode M_Mo_shape.2.1 59 = .ok (.aload_n 0, 1) := by decide +kernel
theorem d_Mo_shape_60 : decode M_Mo_shape.2.1 60 = .ok (.getfield 23, 3) := by decide +kernel
theorem d_Mo_shape_63 : decode M_Mo_shape.2.1 63 = .ok (.iconst 4, 1) := by decide +kernel
theorem d_Mo_shape_64 : decode M_Mo_shape.2.1 64 = .ok (.iload_n 1, 1) := by decide +kernel
theorem d_Mo_shape_65 : decode M_Mo_shape.2.1 65 = .ok (.imul, 1) := by decide +kernel
theorem d_Mo_shape_66 : decode M_Mo_shape.2.1 66 = .ok (.iconst 1, 1) := by decide +kernel
theorem d_Mo_shape_67 : decode M_Mo_shape.2.1 67 = .ok (.iadd, 1) := by decide +kernel
theorem d_Mo_shape_68 : decode M_Mo_shape.2.1 68 = .ok (.lload 4, 2) := by decide +kernel
theorem d_Mo_shape_70 : decode M_Mo_shape.2.1 70 = .ok (.lastore, 1) := by decide +kernel
theorem d_Mo_shape_71 : decode M_Mo_shape.2.1 71 = .ok (.aload_n 0, 1) := by decide +kernel
theorem d_Mo_shape_72 : decode M_Mo_shape.2.1 72 = .ok (.getfield 23, 3) := by decide +kernel
theorem d_Mo_shape_75 : decode M_Mo_shape.2.1 75 = .ok (.iconst 4, 1) := by decide +kernel
theorem d_Mo_shape_76 : decode M_Mo_shape.2.1 76 = .ok (.iload_n 1, 1) := by decide +kernel
theorem d_Mo_shape_77 : decode M_Mo_shape.2.1 77 = .ok (.imul, 1) := by decide +kernel
theorem d_Mo_shape_78 : decode M_Mo_shape.2.1 78 = .ok (.iconst 2, 1) := by decide +kernel
theorem d_Mo_shape_79 : decode M_Mo_shape.2.1 79 = .ok (.iadd, 1) := by decide +kernel
theorem d_Mo_shape_80 : decode M_Mo_shape.2.1 80 = .ok (.lload 6, 2) := by decide +kernel
theorem d_Mo_shape_82 : decode M_Mo_shape.2.1 82 = .ok (.lastore, 1) := by decide +kernel
theorem d_Mo_shape_83 : decode M_Mo_shape.2.1 83 = .ok (.aload_n 0, 1) := by decide +kernel
theorem d_Mo_shape_84 : decode M_Mo_shape.2.1 84 = .ok (.getfield 23, 3) := by decide +kernel
theorem d_Mo_shape_87 : decode M_Mo_shape.2.1 87 = .ok (.iconst 4, 1) := by decide +kernel
theorem d_Mo_shape_88 : decode M_Mo_shape.2.1 88 = .ok (.iload_n 1, 1) := by decide +kernel
theorem d_Mo_shape_89 : decode M_Mo_shape.2.1 89 = .ok (.imul, 1) := by decide +kernel
theorem d_Mo_shape_90 : decode M_Mo_shape.2.1 90 = .ok (.iconst 3, 1) := by decide +kernel
theorem d_Mo_shape_91 : decode M_Mo_shape.2.1 91 = .ok (.iadd, 1) := by decide +kernel
theorem d_Mo_shape_92 : decode M_Mo_shape.2.1 92 = .ok (.lload 8, 2) := by decide +kernel
theorem d_Mo_shape_94 : decode M_Mo_shape.2.1 94 = .ok (.lastore, 1) := by decide +kernel
theorem d_Mo_shape_95 : decode M_Mo_shape.2.1 95 = .ok (.iconst 1, 1) := by decide +kernel
theorem d_Mo_shape_96 : decode M_Mo_shape.2.1 96 = .ok (.ireturn, 1) := by decide +kernel
section
variable {nx : Nat} {ct : Nat → Nat × Nat} {mi : Nat → Nat → Int32} {ml : Nat → Nat → Int64} {mr : Nat → Nat → Option Nat}
theorem sp_Mo_name {a b L : Nat} {u : Int32} (hL : LAY nx ct mr) (ha : a < 3) (hb : b < 16) (hl : mi 400 (16 * a + b) = nI L) (hl2 : L ≤ 8) : rx_Calls y_Mo_name M_Mo_name 1 0 0 [.ref 398, .int (nI a), .int (nI b), .int u] (nx, ct, mi, ml, mr) (fun v τ => v = some (.int (bI (isLD u ∧ L < 8))) ∧ τ = (nx, ct, @ite _ (isLD u ∧ L < 8) (Classical.propDecidable _) (rx_u (rx_u (rx_u mi 398 0 0) 401 (8 * (16 * a + b) + L) u) 400 (16 * a + b) (nI (L + 1))) (rx_u mi 398 0 0), ml, mr)) := by
  refine rx_enter (by decide) rfl rfl (Nat.le_of_ble_eq_true rfl) ?_
  refine ru_aload_n d_Mo_name_0 rfl rfl ?_
  refine ru_iload_n d_Mo_name_1 rfl rfl ?_
  refine ru_if_lt (tgt := 20) d_Mo_name_2 (by decide) (fun h2 => ?_) (fun h2 => ?_)
  · skip
    replace h2 := nm_lt (a := a) (b := 0) (by omega) (by omega) h2
    exfalso; omega
  · skip
    replace h2 := nm_nlt (a := a) (b := 0) (by omega) (by omega) h2
    refine ru_iload_n d_Mo_name_5 rfl rfl ?_
    refine ru_iconst (v := 2) d_Mo_name_6 (by decide) ?_
    refine ru_icmp_gt (tgt := 20) d_Mo_name_7 (by decide) (fun h7 => ?_) (fun h7 => ?_)
    · skip
      replace h7 := nm_lt (a := 2) (b := a) (by omega) (by omega) h7
      exfalso; omega
    · skip
      replace h7 := nm_nlt (a := 2) (b := a) (by omega) (by omega) h7
      refine ru_iload_n d_Mo_name_10 rfl rfl ?_
      refine ru_if_lt (tgt := 20) d_Mo_name_11 (by decide) (fun h11 => ?_) (fun h11 => ?_)
      · skip
        replace h11 := nm_lt (a := b) (b := 0) (by omega) (by omega) h11
        exfalso; omega
      · skip
        replace h11 := nm_nlt (a := b) (b := 0) (by omega) (by omega) h11
        refine ru_iload_n d_Mo_name_14 rfl rfl ?_
        refine ru_bipush (v := 15) d_Mo_name_15 (by decide) ?_
        refine ru_icmp_le (tgt := 24) d_Mo_name_17 (by decide) (fun h17 => ?_) (fun h17 => ?_)
        · skip
          replace h17 := nm_le (a := b) (b := 15) (by omega) (by omega) h17
          refine ru_iconst (v := 0) d_Mo_name_24 (by decide) ?_
          refine ru_putI d_Mo_name_25 lf_Mo_39 (ly hL 398 9 0) rfl (fun q hq => by cases hq; exact Or.inl rfl) ⟨rfl, rfl⟩ ?_
          refine ru_aload_n d_Mo_name_28 rfl rfl ?_
          refine ru_getI d_Mo_name_29 lf_Mo_39 (ly hL 398 9 0) rfl ?_
          rw [rx_u_same]
          refine ru_if_eq (tgt := 37) d_Mo_name_32 (by decide) (fun h32 => ?_) (fun h32 => absurd h32 (by decide))
          refine ru_bipush (v := 16) d_Mo_name_37 (by decide) ?_
          refine ru_iload_n d_Mo_name_39 rfl rfl ?_
          refine ru_imul d_Mo_name_40 ?_
          refine ru_eqi (nm_mul 16 a : _ = nI (16 * a)) ?_
          refine ru_iload_n d_Mo_name_41 rfl rfl ?_
          refine ru_iadd d_Mo_name_42 ?_
          refine ru_eqi (nm_add (16 * a) b : _ = nI ((16 * a) + b)) ?_
          refine ru_istore d_Mo_name_43 (by decide) ?_
          refine ru_iload_n d_Mo_name_45 rfl rfl ?_
          refine ru_callS (mc := 0) (ms := 0) d_Mo_name_46 lm_Mo_43 (sp_Mo_isLetter u _) (by decide) rfl (Nat.le_of_ble_eq_true rfl) ?_
          intro v τ h
          obtain ⟨rfl, rfl⟩ := h
          refine ru_if_ne (tgt := 59) d_Mo_name_49 (by decide) (fun h49 => ?_) (fun h49 => ?_)
          · skip
            replace h49 := bI_ne0.mp h49
            refine ru_aload_n d_Mo_name_59 rfl rfl ?_
            refine ru_getR d_Mo_name_60 lf_Mo_13 (ly hL 398 9 0) rfl (lr hL 398 3 400) ?_
            refine ru_iload d_Mo_name_63 rfl ?_
            refine ru_ialdN (j := ((16 * a) + b)) d_Mo_name_65 (ly hL 400 100 48) (by omega) (by decide) ?_
            rw [rx_u_r _ _ (by decide)]
            refine ru_eqi hl ?_
            refine ru_bipush (v := 8) d_Mo_name_66 (by decide) ?_
            refine ru_icmp_ne (tgt := 73) d_Mo_name_68 (by decide) (fun h68 => ?_) (fun h68 => ?_)
            · skip
              replace h68 := nm_ne (a := L) (b := 8) (by omega) (by omega) h68
              refine ru_aload_n d_Mo_name_73 rfl rfl ?_
              refine ru_getR d_Mo_name_74 lf_Mo_16 (ly hL 398 9 0) rfl (lr hL 398 4 401) ?_
              refine ru_bipush (v := 8) d_Mo_name_77 (by decide) ?_
              refine ru_iload d_Mo_name_79 rfl ?_
              refine ru_imul d_Mo_name_81 ?_
              refine ru_eqi (nm_mul 8 ((16 * a) + b) : _ = nI (8 * ((16 * a) + b))) ?_
              refine ru_aload_n d_Mo_name_82 rfl rfl ?_
              refine ru_getR d_Mo_name_83 lf_Mo_13 (ly hL 398 9 0) rfl (lr hL 398 3 400) ?_
              refine ru_iload d_Mo_name_86 rfl ?_
              refine ru_ialdN (j := ((16 * a) + b)) d_Mo_name_88 (ly hL 400 100 48) (by omega) (by decide) ?_
              rw [rx_u_r _ _ (by decide)]
              refine ru_eqi hl ?_
              refine ru_iadd d_Mo_name_89 ?_
              refine ru_eqi (nm_add (8 * ((16 * a) + b)) L : _ = nI ((8 * ((16 * a) + b)) + L)) ?_
              refine ru_iload_n d_Mo_name_90 rfl rfl ?_
              refine ru_iastN (j := ((8 * ((16 * a) + b)) + L)) d_Mo_name_91 (ly hL 401 100 384) (by omega) (by decide) ?_
              refine ru_aload_n d_Mo_name_92 rfl rfl ?_
              refine ru_getR d_Mo_name_93 lf_Mo_13 (ly hL 398 9 0) rfl (lr hL 398 3 400) ?_
              refine ru_iload d_Mo_name_96 rfl ?_
              refine ru_dup2 d_Mo_name_98 rfl rfl ?_
              refine ru_ialdN (j := ((16 * a) + b)) d_Mo_name_99 (ly hL 400 100 48) (by omega) (by decide) ?_
              rw [rx_u_r _ _ (by decide), rx_u_r _ _ (by decide)]
              refine ru_eqi hl ?_
              refine ru_iconst (v := 1) d_Mo_name_100 (by decide) ?_
              refine ru_iadd d_Mo_name_101 ?_
              refine ru_eqi (nm_add L 1 : _ = nI (L + 1)) ?_
              refine ru_iastN (j := ((16 * a) + b)) d_Mo_name_102 (ly hL 400 100 48) (by omega) (by decide) ?_
              refine ru_iconst (v := 1) d_Mo_name_103 (by decide) ?_
              refine ru_zret (ty := .boolean) d_Mo_name_104 rfl rfl ?_
              first | (have q : isLD u ∧ L < 8 := ⟨by ((try simp only [isLet, isDig, isLD, isTC, il, ie, iq, i_m1, i_0, i_1, i_2, i_7, i_8, i_10, i_15, i_32, i_46, i_48, i_57, i_59, i_97, i_122] at *); omega), by omega⟩; rw [bI_t q, if_pos q]; exact ⟨rfl, rfl⟩) | (have q : ¬ (isLD u ∧ L < 8) := (by ((try simp only [isLet, isDig, isLD, isTC, il, ie, iq, i_m1, i_0, i_1, i_2, i_7, i_8, i_10, i_15, i_32, i_46, i_48, i_57, i_59, i_97, i_122] at *); omega)); rw [bI_f q, if_neg q]; exact ⟨rfl, rfl⟩)
            · skip
              replace h68 := nm_eq (a := L) (b := 8) (by omega) (by omega) h68
              refine ru_iconst (v := 0) d_Mo_name_71 (by decide) ?_
              refine ru_zret (ty := .boolean) d_Mo_name_72 rfl rfl ?_
              first | (have q : isLD u ∧ L < 8 := ⟨by ((try simp only [isLet, isDig, isLD, isTC, il, ie, iq, i_m1, i_0, i_1, i_2, i_7, i_8, i_10, i_15, i_32, i_46, i_48, i_57, i_59, i_97, i_122] at *); omega), by omega⟩; rw [bI_t q, if_pos q]; exact ⟨rfl, rfl⟩) | (have q : ¬ (isLD u ∧ L < 8) := (by ((try simp only [isLet, isDig, isLD, isTC, il, ie, iq, i_m1, i_0, i_1, i_2, i_7, i_8, i_10, i_15, i_32, i_46, i_48, i_57, i_59, i_97, i_122] at *); omega)); rw [bI_f q, if_neg q]; exact ⟨rfl, rfl⟩)
          · skip
            replace h49 := bI_eq0.mp h49
            refine ru_iload_n d_Mo_name_52 rfl rfl ?_
            refine ru_callS (mc := 0) (ms := 0) d_Mo_name_53 lm_Mo_47 (sp_Mo_isDigit u _) (by decide) rfl (Nat.le_of_ble_eq_true rfl) ?_
            intro v τ h
            obtain ⟨rfl, rfl⟩ := h
            refine ru_if_eq (tgt := 71) d_Mo_name_56 (by decide) (fun h56 => ?_) (fun h56 => ?_)
            · skip
              replace h56 := bI_eq0.mp h56
              refine ru_iconst (v := 0) d_Mo_name_71 (by decide) ?_
              refine ru_zret (ty := .boolean) d_Mo_name_72 rfl rfl ?_
              first | (have q : isLD u ∧ L < 8 := ⟨by ((try simp only [isLet, isDig, isLD, isTC, il, ie, iq, i_m1, i_0, i_1, i_2, i_7, i_8, i_10, i_15, i_32, i_46, i_48, i_57, i_59, i_97, i_122] at *); omega), by omega⟩; rw [bI_t q, if_pos q]; exact ⟨rfl, rfl⟩) | (have q : ¬ (isLD u ∧ L < 8) := (by ((try simp only [isLet, isDig, isLD, isTC, il, ie, iq, i_m1, i_0, i_1, i_2, i_7, i_8, i_10, i_15, i_32, i_46, i_48, i_57, i_59, i_97, i_122] at *); omega)); rw [bI_f q, if_neg q]; exact ⟨rfl, rfl⟩)
            · skip
              replace h56 := bI_ne0.mp h56
              refine ru_aload_n d_Mo_name_59 rfl rfl ?_
              refine ru_getR d_Mo_name_60 lf_Mo_13 (ly hL 398 9 0) rfl (lr hL 398 3 400) ?_
              refine ru_iload d_Mo_name_63 rfl ?_
              refine ru_ialdN (j := ((16 * a) + b)) d_Mo_name_65 (ly hL 400 100 48) (by omega) (by decide) ?_
              rw [rx_u_r _ _ (by decide)]
              refine ru_eqi hl ?_
              refine ru_bipush (v := 8) d_Mo_name_66 (by decide) ?_
              refine ru_icmp_ne (tgt := 73) d_Mo_name_68 (by decide) (fun h68 => ?_) (fun h68 => ?_)
              · skip
                replace h68 := nm_ne (a := L) (b := 8) (by omega) (by omega) h68
                refine ru_aload_n d_Mo_name_73 rfl rfl ?_
                refine ru_getR d_Mo_name_74 lf_Mo_16 (ly hL 398 9 0) rfl (lr hL 398 4 401) ?_
                refine ru_bipush (v := 8) d_Mo_name_77 (by decide) ?_
                refine ru_iload d_Mo_name_79 rfl ?_
                refine ru_imul d_Mo_name_81 ?_
                refine ru_eqi (nm_mul 8 ((16 * a) + b) : _ = nI (8 * ((16 * a) + b))) ?_
                refine ru_aload_n d_Mo_name_82 rfl rfl ?_
                refine ru_getR d_Mo_name_83 lf_Mo_13 (ly hL 398 9 0) rfl (lr hL 398 3 400) ?_
                refine ru_iload d_Mo_name_86 rfl ?_
                refine ru_ialdN (j := ((16 * a) + b)) d_Mo_name_88 (ly hL 400 100 48) (by omega) (by decide) ?_
                rw [rx_u_r _ _ (by decide)]
                refine ru_eqi hl ?_
                refine ru_iadd d_Mo_name_89 ?_
                refine ru_eqi (nm_add (8 * ((16 * a) + b)) L : _ = nI ((8 * ((16 * a) + b)) + L)) ?_
                refine ru_iload_n d_Mo_name_90 rfl rfl ?_
                refine ru_iastN (j := ((8 * ((16 * a) + b)) + L)) d_Mo_name_91 (ly hL 401 100 384) (by omega) (by decide) ?_
                refine ru_aload_n d_Mo_name_92 rfl rfl ?_
                refine ru_getR d_Mo_name_93 lf_Mo_13 (ly hL 398 9 0) rfl (lr hL 398 3 400) ?_
                refine ru_iload d_Mo_name_96 rfl ?_
                refine ru_dup2 d_Mo_name_98 rfl rfl ?_
                refine ru_ialdN (j := ((16 * a) + b)) d_Mo_name_99 (ly hL 400 100 48) (by omega) (by decide) ?_
                rw [rx_u_r _ _ (by decide), rx_u_r _ _ (by decide)]
                refine ru_eqi hl ?_
                refine ru_iconst (v := 1) d_Mo_name_100 (by decide) ?_
                refine ru_iadd d_Mo_name_101 ?_
                refine ru_eqi (nm_add L 1 : _ = nI (L + 1)) ?_
                refine ru_iastN (j := ((16 * a) + b)) d_Mo_name_102 (ly hL 400 100 48) (by omega) (by decide) ?_
                refine ru_iconst (v := 1) d_Mo_name_103 (by decide) ?_
                refine ru_zret (ty := .boolean) d_Mo_name_104 rfl rfl ?_
                first | (have q : isLD u ∧ L < 8 := ⟨by ((try simp only [isLet, isDig, isLD, isTC, il, ie, iq, i_m1, i_0, i_1, i_2, i_7, i_8, i_10, i_15, i_32, i_46, i_48, i_57, i_59, i_97, i_122] at *); omega), by omega⟩; rw [bI_t q, if_pos q]; exact ⟨rfl, rfl⟩) | (have q : ¬ (isLD u ∧ L < 8) := (by ((try simp only [isLet, isDig, isLD, isTC, il, ie, iq, i_m1, i_0, i_1, i_2, i_7, i_8, i_10, i_15, i_32, i_46, i_48, i_57, i_59, i_97, i_122] at *); omega)); rw [bI_f q, if_neg q]; exact ⟨rfl, rfl⟩)
              · skip
                replace h68 := nm_eq (a := L) (b := 8) (by omega) (by omega) h68
                refine ru_iconst (v := 0) d_Mo_name_71 (by decide) ?_
                refine ru_zret (ty := .boolean) d_Mo_name_72 rfl rfl ?_
                first | (have q : isLD u ∧ L < 8 := ⟨by ((try simp only [isLet, isDig, isLD, isTC, il, ie, iq, i_m1, i_0, i_1, i_2, i_7, i_8, i_10, i_15, i_32, i_46, i_48, i_57, i_59, i_97, i_122] at *); omega), by omega⟩; rw [bI_t q, if_pos q]; exact ⟨rfl, rfl⟩) | (have q : ¬ (isLD u ∧ L < 8) := (by ((try simp only [isLet, isDig, isLD, isTC, il, ie, iq, i_m1, i_0, i_1, i_2, i_7, i_8, i_10, i_15, i_32, i_46, i_48, i_57, i_59, i_97, i_122] at *); omega)); rw [bI_f q, if_neg q]; exact ⟨rfl, rfl⟩)
        · skip
          replace h17 := nm_nle (a := b) (b := 15) (by omega) (by omega) h17
          exfalso; omega
theorem sp_Mo_name0 {a b u : Int32} (hL : LAY nx ct mr) (h : ¬ ((0 ≤ a.toInt ∧ a.toInt < 3) ∧ 0 ≤ b.toInt ∧ b.toInt < 16)) : rx_Calls y_Mo_name M_Mo_name 1 0 0 [.ref 398, .int a, .int b, .int u] (nx, ct, mi, ml, mr) (fun v τ => v = some (.int 0) ∧ τ = (nx, ct, rx_u mi 398 0 1, ml, mr)) := by
  refine rx_enter (by decide) rfl rfl (Nat.le_of_ble_eq_true rfl) ?_
  refine ru_aload_n d_Mo_name_0 rfl rfl ?_
  refine ru_iload_n d_Mo_name_1 rfl rfl ?_
  refine ru_if_lt (tgt := 20) d_Mo_name_2 (by decide) (fun h2 => ?_) (fun h2 => ?_)
  · skip
    refine ru_iconst (v := 1) d_Mo_name_20 (by decide) ?_
    refine ru_goto (tgt := 25) d_Mo_name_21 (by decide) ?_
    refine ru_putI d_Mo_name_25 lf_Mo_39 (ly hL 398 9 0) rfl (fun q hq => by cases hq; exact Or.inl rfl) ⟨rfl, rfl⟩ ?_
    refine ru_aload_n d_Mo_name_28 rfl rfl ?_
    refine ru_getI d_Mo_name_29 lf_Mo_39 (ly hL 398 9 0) rfl ?_
    rw [rx_u_same]
    refine ru_if_eq (tgt := 37) d_Mo_name_32 (by decide) (fun h32 => absurd h32 (by decide)) (fun h32 => ?_)
    refine ru_iconst (v := 0) d_Mo_name_35 (by decide) ?_
    refine ru_zret (ty := .boolean) d_Mo_name_36 rfl rfl ?_
    exact ⟨rfl, rfl⟩
  · skip
    refine ru_iload_n d_Mo_name_5 rfl rfl ?_
    refine ru_iconst (v := 2) d_Mo_name_6 (by decide) ?_
    refine ru_icmp_gt (tgt := 20) d_Mo_name_7 (by decide) (fun h7 => ?_) (fun h7 => ?_)
    · skip
      refine ru_iconst (v := 1) d_Mo_name_20 (by decide) ?_
      refine ru_goto (tgt := 25) d_Mo_name_21 (by decide) ?_
      refine ru_putI d_Mo_name_25 lf_Mo_39 (ly hL 398 9 0) rfl (fun q hq => by cases hq; exact Or.inl rfl) ⟨rfl, rfl⟩ ?_
      refine ru_aload_n d_Mo_name_28 rfl rfl ?_
      refine ru_getI d_Mo_name_29 lf_Mo_39 (ly hL 398 9 0) rfl ?_
      rw [rx_u_same]
      refine ru_if_eq (tgt := 37) d_Mo_name_32 (by decide) (fun h32 => absurd h32 (by decide)) (fun h32 => ?_)
      refine ru_iconst (v := 0) d_Mo_name_35 (by decide) ?_
      refine ru_zret (ty := .boolean) d_Mo_name_36 rfl rfl ?_
      exact ⟨rfl, rfl⟩
    · skip
      refine ru_iload_n d_Mo_name_10 rfl rfl ?_
      refine ru_if_lt (tgt := 20) d_Mo_name_11 (by decide) (fun h11 => ?_) (fun h11 => ?_)
      · skip
        refine ru_iconst (v := 1) d_Mo_name_20 (by decide) ?_
        refine ru_goto (tgt := 25) d_Mo_name_21 (by decide) ?_
        refine ru_putI d_Mo_name_25 lf_Mo_39 (ly hL 398 9 0) rfl (fun q hq => by cases hq; exact Or.inl rfl) ⟨rfl, rfl⟩ ?_
        refine ru_aload_n d_Mo_name_28 rfl rfl ?_
        refine ru_getI d_Mo_name_29 lf_Mo_39 (ly hL 398 9 0) rfl ?_
        rw [rx_u_same]
        refine ru_if_eq (tgt := 37) d_Mo_name_32 (by decide) (fun h32 => absurd h32 (by decide)) (fun h32 => ?_)
        refine ru_iconst (v := 0) d_Mo_name_35 (by decide) ?_
        refine ru_zret (ty := .boolean) d_Mo_name_36 rfl rfl ?_
        exact ⟨rfl, rfl⟩
      · skip
        refine ru_iload_n d_Mo_name_14 rfl rfl ?_
        refine ru_bipush (v := 15) d_Mo_name_15 (by decide) ?_
        refine ru_icmp_le (tgt := 24) d_Mo_name_17 (by decide) (fun h17 => ?_) (fun h17 => ?_)
        · skip
          exfalso; ((try simp only [isLet, isDig, isLD, isTC, il, ie, iq, i_m1, i_0, i_1, i_2, i_7, i_8, i_10, i_15, i_32, i_46, i_48, i_57, i_59, i_97, i_122] at *); omega)
        · skip
          refine ru_iconst (v := 1) d_Mo_name_20 (by decide) ?_
          refine ru_goto (tgt := 25) d_Mo_name_21 (by decide) ?_
          refine ru_putI d_Mo_name_25 lf_Mo_39 (ly hL 398 9 0) rfl (fun q hq => by cases hq; exact Or.inl rfl) ⟨rfl, rfl⟩ ?_
          refine ru_aload_n d_Mo_name_28 rfl rfl ?_
          refine ru_getI d_Mo_name_29 lf_Mo_39 (ly hL 398 9 0) rfl ?_
          rw [rx_u_same]
          refine ru_if_eq (tgt := 37) d_Mo_name_32 (by decide) (fun h32 => absurd h32 (by decide)) (fun h32 => ?_)
          refine ru_iconst (v := 0) d_Mo_name_35 (by decide) ?_
          refine ru_zret (ty := .boolean) d_Mo_name_36 rfl rfl ?_
          exact ⟨rfl, rfl⟩
theorem sp_Mo_shape {a : Nat} {x0 y0 x1 y1 : Int64} (hL : LAY nx ct mr) (ha : a < 16) : rx_Calls y_Mo_shape M_Mo_shape 0 0 0 [.ref 398, .int (nI a), .long x0, .long y0, .long x1, .long y1] (nx, ct, mi, ml, mr) (fun v τ => v = some (.int (bI (x0 ≤ x1 ∧ y0 ≤ y1))) ∧ τ = (nx, ct, @ite _ (x0 ≤ x1 ∧ y0 ≤ y1) (Classical.propDecidable _) (rx_u (rx_u mi 398 0 0) 402 a 1) (rx_u mi 398 0 0), @ite _ (x0 ≤ x1 ∧ y0 ≤ y1) (Classical.propDecidable _) (rx_u (rx_u (rx_u (rx_u ml 403 (4 * a) x0) 403 (4 * a + 1) y0) 403 (4 * a + 2) x1) 403 (4 * a + 3) y1) ml, mr)) := by
  refine rx_enter (by decide) rfl rfl (Nat.le_of_ble_eq_true rfl) ?_
  refine ru_aload_n d_Mo_shape_0 rfl rfl ?_
  refine ru_iload_n d_Mo_shape_1 rfl rfl ?_
  refine ru_if_lt (tgt := 11) d_Mo_shape_2 (by decide) (fun h2 => ?_) (fun h2 => ?_)
  · skip
    replace h2 := nm_lt (a := a) (b := 0) (by omega) (by omega) h2
    exfalso; omega
  · skip
    replace h2 := nm_nlt (a := a) (b := 0) (by omega) (by omega) h2
    refine ru_iload_n d_Mo_shape_5 rfl rfl ?_
    refine ru_bipush (v := 15) d_Mo_shape_6 (by decide) ?_
    refine ru_icmp_le (tgt := 15) d_Mo_shape_8 (by decide) (fun h8 => ?_) (fun h8 => ?_)
    · skip
      replace h8 := nm_le (a := a) (b := 15) (by omega) (by omega) h8
      refine ru_iconst (v := 0) d_Mo_shape_15 (by decide) ?_
      refine ru_putI d_Mo_shape_16 lf_Mo_39 (ly hL 398 9 0) rfl (fun q hq => by cases hq; exact Or.inl rfl) ⟨rfl, rfl⟩ ?_
      refine ru_aload_n d_Mo_shape_19 rfl rfl ?_
      refine ru_getI d_Mo_shape_20 lf_Mo_39 (ly hL 398 9 0) rfl ?_
      rw [rx_u_same]
      refine ru_if_ne (tgt := 41) d_Mo_shape_23 (by decide) (fun h23 => absurd h23 (by decide)) (fun h23 => ?_)
      refine ru_lload_n d_Mo_shape_26 rfl rfl ?_
      refine ru_lload d_Mo_shape_27 rfl ?_
      refine ru_lcmp d_Mo_shape_29 ?_
      refine ru_if_gt (tgt := 41) d_Mo_shape_30 (by decide) (fun h30 => ?_) (fun h30 => ?_)
      · skip
        replace h30 := (lg_cmp_gt _ _).mp h30
        refine ru_iconst (v := 0) d_Mo_shape_41 (by decide) ?_
        refine ru_zret (ty := .boolean) d_Mo_shape_42 rfl rfl ?_
        first | (have q : x0 ≤ x1 ∧ y0 ≤ y1 := ⟨Int64.not_lt.mp h30, h38⟩; rw [bI_t q, if_pos q, if_pos q]; exact ⟨rfl, rfl⟩) | (have q : ¬ (x0 ≤ x1 ∧ y0 ≤ y1) := (fun q => h38 q.2); rw [bI_f q, if_neg q, if_neg q]; exact ⟨rfl, rfl⟩) | (have q : ¬ (x0 ≤ x1 ∧ y0 ≤ y1) := (fun q => Int64.not_lt.mpr q.1 h30); rw [bI_f q, if_neg q, if_neg q]; exact ⟨rfl, rfl⟩)
      · skip
        replace h30 := fun q => h30 ((lg_cmp_gt _ _).mpr q)
        refine ru_lload d_Mo_shape_33 rfl ?_
        refine ru_lload d_Mo_shape_35 rfl ?_
        refine ru_lcmp d_Mo_shape_37 ?_
        refine ru_if_le (tgt := 43) d_Mo_shape_38 (by decide) (fun h38 => ?_) (fun h38 => ?_)
        · skip
          replace h38 := (lg_cmp_le _ _).mp h38
          refine ru_aload_n d_Mo_shape_43 rfl rfl ?_
          refine ru_getR d_Mo_shape_44 lf_Mo_19 (ly hL 398 9 0) rfl (lr hL 398 5 402) ?_
          refine ru_iload_n d_Mo_shape_47 rfl rfl ?_
          refine ru_iconst (v := 1) d_Mo_shape_48 (by decide) ?_
          refine ru_zastN (j := a) d_Mo_shape_49 (ly hL 402 102 16) (by omega) (by decide) ?_
          refine ru_aload_n d_Mo_shape_50 rfl rfl ?_
          refine ru_getR d_Mo_shape_51 lf_Mo_23 (ly hL 398 9 0) rfl (lr hL 398 6 403) ?_
          refine ru_iconst (v := 4) d_Mo_shape_54 (by decide) ?_
          refine ru_iload_n d_Mo_shape_55 rfl rfl ?_
          refine ru_imul d_Mo_shape_56 ?_
          refine ru_eqi (nm_mul 4 a : _ = nI (4 * a)) ?_
          refine ru_lload_n d_Mo_shape_57 rfl rfl ?_
          refine ru_lastN (j := (4 * a)) d_Mo_shape_58 (ly hL 403 104 64) (by omega) (by decide) ?_
          refine ru_aload_n d_Mo_shape_59 rfl rfl ?_
          refine ru_getR d_Mo_shape_60 lf_Mo_23 (ly hL 398 9 0) rfl (lr hL 398 6 403) ?_
          refine ru_iconst (v := 4) d_Mo_shape_63 (by decide) ?_
          refine ru_iload_n d_Mo_shape_64 rfl rfl ?_
          refine ru_imul d_Mo_shape_65 ?_
          refine ru_eqi (nm_mul 4 a : _ = nI (4 * a)) ?_
          refine ru_iconst (v := 1) d_Mo_shape_66 (by decide) ?_
          refine ru_iadd d_Mo_shape_67 ?_
          refine ru_eqi (nm_add (4 * a) 1 : _ = nI ((4 * a) + 1)) ?_
          refine ru_lload d_Mo_shape_68 rfl ?_
          refine ru_lastN (j := ((4 * a) + 1)) d_Mo_shape_70 (ly hL 403 104 64) (by omega) (by decide) ?_
          refine ru_aload_n d_Mo_shape_71 rfl rfl ?_
          refine ru_getR d_Mo_shape_72 lf_Mo_23 (ly hL 398 9 0) rfl (lr hL 398 6 403) ?_
          refine ru_iconst (v := 4) d_Mo_shape_75 (by decide) ?_
          refine ru_iload_n d_Mo_shape_76 rfl rfl ?_
          refine ru_imul d_Mo_shape_77 ?_
          refine ru_eqi (nm_mul 4 a : _ = nI (4 * a)) ?_
          refine ru_iconst (v := 2) d_Mo_shape_78 (by decide) ?_
          refine ru_iadd d_Mo_shape_79 ?_
          refine ru_eqi (nm_add (4 * a) 2 : _ = nI ((4 * a) + 2)) ?_
          refine ru_lload d_Mo_shape_80 rfl ?_
          refine ru_lastN (j := ((4 * a) + 2)) d_Mo_shape_82 (ly hL 403 104 64) (by omega) (by decide) ?_
          refine ru_aload_n d_Mo_shape_83 rfl rfl ?_
          refine ru_getR d_Mo_shape_84 lf_Mo_23 (ly hL 398 9 0) rfl (lr hL 398 6 403) ?_
          refine ru_iconst (v := 4) d_Mo_shape_87 (by decide) ?_
          refine ru_iload_n d_Mo_shape_88 rfl rfl ?_
          refine ru_imul d_Mo_shape_89 ?_
          refine ru_eqi (nm_mul 4 a : _ = nI (4 * a)) ?_
          refine ru_iconst (v := 3) d_Mo_shape_90 (by decide) ?_
          refine ru_iadd d_Mo_shape_91 ?_
          refine ru_eqi (nm_add (4 * a) 3 : _ = nI ((4 * a) + 3)) ?_
          refine ru_lload d_Mo_shape_92 rfl ?_
          refine ru_lastN (j := ((4 * a) + 3)) d_Mo_shape_94 (ly hL 403 104 64) (by omega) (by decide) ?_
          refine ru_iconst (v := 1) d_Mo_shape_95 (by decide) ?_
          refine ru_zret (ty := .boolean) d_Mo_shape_96 rfl rfl ?_
          first | (have q : x0 ≤ x1 ∧ y0 ≤ y1 := ⟨Int64.not_lt.mp h30, h38⟩; rw [bI_t q, if_pos q, if_pos q]; exact ⟨rfl, rfl⟩) | (have q : ¬ (x0 ≤ x1 ∧ y0 ≤ y1) := (fun q => h38 q.2); rw [bI_f q, if_neg q, if_neg q]; exact ⟨rfl, rfl⟩) | (have q : ¬ (x0 ≤ x1 ∧ y0 ≤ y1) := (fun q => Int64.not_lt.mpr q.1 h30); rw [bI_f q, if_neg q, if_neg q]; exact ⟨rfl, rfl⟩)
        · skip
          replace h38 := fun q => h38 ((lg_cmp_le _ _).mpr q)
          refine ru_iconst (v := 0) d_Mo_shape_41 (by decide) ?_
          refine ru_zret (ty := .boolean) d_Mo_shape_42 rfl rfl ?_
          first | (have q : x0 ≤ x1 ∧ y0 ≤ y1 := ⟨Int64.not_lt.mp h30, h38⟩; rw [bI_t q, if_pos q, if_pos q]; exact ⟨rfl, rfl⟩) | (have q : ¬ (x0 ≤ x1 ∧ y0 ≤ y1) := (fun q => h38 q.2); rw [bI_f q, if_neg q, if_neg q]; exact ⟨rfl, rfl⟩) | (have q : ¬ (x0 ≤ x1 ∧ y0 ≤ y1) := (fun q => Int64.not_lt.mpr q.1 h30); rw [bI_f q, if_neg q, if_neg q]; exact ⟨rfl, rfl⟩)
    · skip
      replace h8 := nm_nle (a := a) (b := 15) (by omega) (by omega) h8
      exfalso; omega
theorem sp_Mo_shape0 {a : Int32} {x0 y0 x1 y1 : Int64} (hL : LAY nx ct mr) (h : ¬ (0 ≤ a.toInt ∧ a.toInt < 16)) : rx_Calls y_Mo_shape M_Mo_shape 0 0 0 [.ref 398, .int a, .long x0, .long y0, .long x1, .long y1] (nx, ct, mi, ml, mr) (fun v τ => v = some (.int 0) ∧ τ = (nx, ct, rx_u mi 398 0 1, ml, mr)) := by
  refine rx_enter (by decide) rfl rfl (Nat.le_of_ble_eq_true rfl) ?_
  refine ru_aload_n d_Mo_shape_0 rfl rfl ?_
  refine ru_iload_n d_Mo_shape_1 rfl rfl ?_
  refine ru_if_lt (tgt := 11) d_Mo_shape_2 (by decide) (fun h2 => ?_) (fun h2 => ?_)
  · skip
    refine ru_iconst (v := 1) d_Mo_shape_11 (by decide) ?_
    refine ru_goto (tgt := 16) d_Mo_shape_12 (by decide) ?_
    refine ru_putI d_Mo_shape_16 lf_Mo_39 (ly hL 398 9 0) rfl (fun q hq => by cases hq; exact Or.inl rfl) ⟨rfl, rfl⟩ ?_
    refine ru_aload_n d_Mo_shape_19 rfl rfl ?_
    refine ru_getI d_Mo_shape_20 lf_Mo_39 (ly hL 398 9 0) rfl ?_
    rw [rx_u_same]
    refine ru_if_ne (tgt := 41) d_Mo_shape_23 (by decide) (fun h23 => ?_) (fun h23 => absurd h23 (by decide))
    refine ru_iconst (v := 0) d_Mo_shape_41 (by decide) ?_
    refine ru_zret (ty := .boolean) d_Mo_shape_42 rfl rfl ?_
    exact ⟨rfl, rfl⟩
  · skip
    refine ru_iload_n d_Mo_shape_5 rfl rfl ?_
    refine ru_bipush (v := 15) d_Mo_shape_6 (by decide) ?_
    refine ru_icmp_le (tgt := 15) d_Mo_shape_8 (by decide) (fun h8 => ?_) (fun h8 => ?_)
    · skip
      exfalso; ((try simp only [isLet, isDig, isLD, isTC, il, ie, iq, i_m1, i_0, i_1, i_2, i_7, i_8, i_10, i_15, i_32, i_46, i_48, i_57, i_59, i_97, i_122] at *); omega)
    · skip
      refine ru_iconst (v := 1) d_Mo_shape_11 (by decide) ?_
      refine ru_goto (tgt := 16) d_Mo_shape_12 (by decide) ?_
      refine ru_putI d_Mo_shape_16 lf_Mo_39 (ly hL 398 9 0) rfl (fun q hq => by cases hq; exact Or.inl rfl) ⟨rfl, rfl⟩ ?_
      refine ru_aload_n d_Mo_shape_19 rfl rfl ?_
      refine ru_getI d_Mo_shape_20 lf_Mo_39 (ly hL 398 9 0) rfl ?_
      rw [rx_u_same]
      refine ru_if_ne (tgt := 41) d_Mo_shape_23 (by decide) (fun h23 => ?_) (fun h23 => absurd h23 (by decide))
      refine ru_iconst (v := 0) d_Mo_shape_41 (by decide) ?_
      refine ru_zret (ty := .boolean) d_Mo_shape_42 rfl rfl ?_
      exact ⟨rfl, rfl⟩
end
end
section
/-! The text's words; the reference finds them -/
theorem d_Mo_findWords_0 : decode M_Mo_findWords.2.1 0 = .ok (.aload_n 0, 1) := by decide +kernel
theorem d_Mo_findWords_1 : decode M_Mo_findWords.2.1 1 = .ok (.iconst 0, 1) := by decide +kernel
theorem d_Mo_findWords_2 : decode M_Mo_findWords.2.1 2 = .ok (.putfield 53, 3) := by decide +kernel
theorem d_Mo_findWords_5 : decode M_Mo_findWords.2.1 5 = .ok (.iconst 0, 1) := by decide +kernel
theorem d_Mo_findWords_6 : decode M_Mo_findWords.2.1 6 = .ok (.istore_n 1, 1) := by decide +kernel
theorem d_Mo_findWords_7 : decode M_Mo_findWords.2.1 7 = .ok (.iload_n 1, 1) := by decide +kernel
theorem d_Mo_findWords_8 : decode M_Mo_findWords.2.1 8 = .ok (.aload_n 0, 1) := by decide +kernel
theorem d_Mo_findWords_9 : decode M_Mo_findWords.2.1 9 = .ok (.getfield 50, 3) := by decide +kernel
theorem d_Mo_findWords_12 : decode M_Mo_findWords.2.1 12 = .ok (.if_icmp .ge 94, 3) := by decide +kernel
theorem d_Mo_findWords_15 : decode M_Mo_findWords.2.1 15 = .ok (.iload_n 1, 1) := by decide +kernel
theorem d_Mo_findWords_16 : decode M_Mo_findWords.2.1 16 = .ok (.istore_n 2, 1) := by decide +kernel
theorem d_Mo_findWords_17 : decode M_Mo_findWords.2.1 17 = .ok (.iload_n 1, 1) := by decide +kernel
theorem d_Mo_findWords_18 : decode M_Mo_findWords.2.1 18 = .ok (.aload_n 0, 1) := by decide +kernel
theorem d_Mo_findWords_19 : decode M_Mo_findWords.2.1 19 = .ok (.getfield 50, 3) := by decide +kernel
theorem d_Mo_findWords_22 : decode M_Mo_findWords.2.1 22 = .ok (.if_icmp .ge 21, 3) := by decide +kernel
theorem d_Mo_findWords_25 : decode M_Mo_findWords.2.1 25 = .ok (.aload_n 0, 1) := by decide +kernel
theorem d_Mo_findWords_26 : decode M_Mo_findWords.2.1 26 = .ok (.getfield 7, 3) := by decide +kernel
theorem d_Mo_findWords_29 : decode M_Mo_findWords.2.1 29 = .ok (.iload_n 1, 1) := by decide +kernel
theorem d_Mo_findWords_30 : decode M_Mo_findWords.2.1 30 = .ok (.iaload, 1) := by decide +kernel
theorem d_Mo_findWords_31 : decode M_Mo_findWords.2.1 31 = .ok (.invokestatic 56, 3) := by decide +kernel
theorem d_Mo_findWords_34 : decode M_Mo_findWords.2.1 34 = .ok (.ifCond .eq 9, 3) := by decide +kernel
theorem d_Mo_findWords_37 : decode M_Mo_findWords.2.1 37 = .ok (.iinc 1 1, 3) := by decide +kernel
theorem d_Mo_findWords_40 : decode M_Mo_findWords.2.1 40 = .ok (.goto (-23), 3) := by decide +kernel
theorem d_Mo_findWords_43 : decode M_Mo_findWords.2.1 43 = .ok (.iload_n 1, 1) := by decide +kernel
theorem d_Mo_findWords_44 : decode M_Mo_findWords.2.1 44 = .ok (.iload_n 2, 1) := by decide +kernel
theorem d_Mo_findWords_45 : decode M_Mo_findWords.2.1 45 = .ok (.if_icmp .ne 17, 3) := by decide +kernel
theorem d_Mo_findWords_48 : decode M_Mo_findWords.2.1 48 = .ok (.aload_n 0, 1) := by decide +kernel
theorem d_Mo_findWords_49 : decode M_Mo_findWords.2.1 49 = .ok (.getfield 7, 3) := by decide +kernel
theorem d_Mo_findWords_52 : decode M_Mo_findWords.2.1 52 = .ok (.iload_n 1, 1) := by decide +kernel
theorem d_Mo_findWords_53 : decode M_Mo_findWords.2.1 53 = .ok (.iaload, 1) := by decide +kernel
theorem d_Mo_findWords_54 : decode M_Mo_findWords.2.1 54 = .ok (.bipush 59, 2) := by decide +kernel
theorem d_Mo_findWords_56 : decode M_Mo_findWords.2.1 56 = .ok (.if_icmp .ne 6, 3) := by decide +kernel
theorem d_Mo_findWords_59 : decode M_Mo_findWords.2.1 59 = .ok (.iinc 1 1, 3) := by decide +kernel
theorem d_Mo_findWords_62 : decode M_Mo_findWords.2.1 62 = .ok (.iload_n 1, 1) := by decide +kernel
theorem d_Mo_findWords_63 : decode M_Mo_findWords.2.1 63 = .ok (.iload_n 2, 1) := by decide +kernel
theorem d_Mo_findWords_64 : decode M_Mo_findWords.2.1 64 = .ok (.if_icmp .le 36, 3) := by decide +kernel
theorem d_Mo_findWords_67 : decode M_Mo_findWords.2.1 67 = .ok (.aload_n 0, 1) := by decide +kernel
theorem d_Mo_findWords_68 : decode M_Mo_findWords.2.1 68 = .ok (.getfield 30, 3) := by decide +kernel
theorem d_Mo_findWords_71 : decode M_Mo_findWords.2.1 71 = .ok (.aload_n 0, 1) := by decide +kernel
theorem d_Mo_findWords_72 : decode M_Mo_findWords.2.1 72 = .ok (.getfield 53, 3) := by decide +kernel
theorem d_Mo_findWords_75 : decode M_Mo_findWords.2.1 75 = .ok (.iload_n 2, 1) := by decide +kernel
theorem d_Mo_findWords_76 : decode M_Mo_findWords.2.1 76 = .ok (.iastore, 1) := by decide +kernel
theorem d_Mo_findWords_77 : decode M_Mo_findWords.2.1 77 = .ok (.aload_n 0, 1) := by decide +kernel
theorem d_Mo_findWords_78 : decode M_Mo_findWords.2.1 78 = .ok (.getfield 33, 3) := by decide +kernel
theorem d_Mo_findWords_81 : decode M_Mo_findWords.2.1 81 = .ok (.aload_n 0, 1) := by decide +kernel
theorem d_Mo_findWords_82 : decode M_Mo_findWords.2.1 82 = .ok (.getfield 53, 3) := by decide +kernel
theorem d_Mo_findWords_85 : decode M_Mo_findWords.2.1 85 = .ok (.iload_n 1, 1) := by decide +kernel
theorem d_Mo_findWords_86 : decode M_Mo_findWords.2.1 86 = .ok (.iastore, 1) := by decide +kernel
theorem d_Mo_findWords_87 : decode M_Mo_findWords.2.1 87 = .ok (.aload_n 0, 1) := by decide +kernel
theorem d_Mo_findWords_88 : decode M_Mo_findWords.2.1 88 = .ok (.dup, 1) := by decide +kernel
theorem d_Mo_findWords_89 : decode M_Mo_findWords.2.1 89 = .ok (.getfield 53, 3) := by decide +kernel
theorem d_Mo_findWords_92 : decode M_Mo_findWords.2.1 92 = .ok (.iconst 1, 1) := by decide +kernel
theorem d_Mo_findWords_93 : decode M_Mo_findWords.2.1 93 = .ok (.iadd, 1) := by decide +kernel
theorem d_Mo_findWords_94 : decode M_Mo_findWords.2.1 94 = .ok (.putfield 53, 3) := by decide +kernel
theorem d_Mo_findWords_97 : decode M_Mo_findWords.2.1 97 = .ok (.goto 6, 3) := by decide +kernel
theorem d_Mo_findWords_100 : decode M_Mo_findWords.2.1 100 = .ok (.iinc 1 1, 3) := by decide +kernel
theorem d_Mo_findWords_103 : decode M_Mo_findWords.2.1 103 = .ok (.goto (-96), 3) := by decide +kernel
theorem d_Mo_findWords_106 : decode M_Mo_findWords.2.1 106 = .ok (.return_, 1) := by decide +kernel
section
variable {n : Nat} {t : Nat → Int32}
theorem sk_step {i : Nat} (h : i < n) (hb : (t i).toInt ≤ 32) : sk n t (n - i) i = sk n t (n - (i + 1)) (i + 1) := by
  obtain ⟨f, hf⟩ : ∃ f, n - i = f + 1 := ⟨n - i - 1, by omega⟩
  rw [hf, show n - (i + 1) = f by omega]
  show (if i < n ∧ (t i).toInt ≤ 32 then _ else _) = _
  rw [if_pos ⟨h, hb⟩]
theorem sk_stop {i f : Nat} (h : ¬ (i < n ∧ (t i).toInt ≤ 32)) : sk n t f i = i := by
  cases f with
  | zero => rfl
  | succ f =>
    show (if i < n ∧ (t i).toInt ≤ 32 then _ else _) = _
    rw [if_neg h]
theorem we_step {i : Nat} (h : i < n) (hb : 32 < (t i).toInt ∧ (t i).toInt ≠ 59) : we n t (n - i) i = we n t (n - (i + 1)) (i + 1) := by
  obtain ⟨f, hf⟩ : ∃ f, n - i = f + 1 := ⟨n - i - 1, by omega⟩
  rw [hf, show n - (i + 1) = f by omega]
  show (if i < n ∧ 32 < (t i).toInt ∧ (t i).toInt ≠ 59 then _ else _) = _
  rw [if_pos ⟨h, hb⟩]
theorem we_stop {i f : Nat} (h : ¬ (i < n ∧ 32 < (t i).toInt ∧ (t i).toInt ≠ 59)) : we n t f i = i := by
  cases f with
  | zero => rfl
  | succ f =>
    show (if i < n ∧ 32 < (t i).toInt ∧ (t i).toInt ≠ 59 then _ else _) = _
    rw [if_neg h]
end
/-- the first word from b on -/
def tkF (n : Nat) (t : Nat → Int32) (b : Nat) : Nat × Nat := (sk n t (n - b) b, wordEnd n t (sk n t (n - b) b))
/-- word j: where it begins, where it ends -/
def tk (n : Nat) (t : Nat → Int32) : Nat → Nat × Nat
  | 0 => tkF n t 0
  | j + 1 => tkF n t (tk n t j).2
section
variable {n : Nat} {t : Nat → Int32}
theorem tkF_blank {p : Nat} (h : p < n) (hb : (t p).toInt ≤ 32) : tkF n t p = tkF n t (p + 1) := by
  unfold tkF
  rw [sk_step h hb]
theorem tkF_semi {p : Nat} (h : p < n) (hb : (t p).toInt = 59) : tkF n t p = (p, p + 1) := by
  unfold tkF wordEnd
  rw [sk_stop (by omega), if_pos ⟨h, hb⟩]
theorem tkF_sign {p : Nat} (h : p < n) (hb : 32 < (t p).toInt ∧ (t p).toInt ≠ 59) : tkF n t p = (p, we n t (n - p) p) := by
  unfold tkF wordEnd
  rw [sk_stop (by omega), if_neg (by omega)]
theorem tkF_end : tkF n t n = (n, n) := by
  unfold tkF wordEnd
  rw [sk_stop (by omega), if_neg (by omega), we_stop (by omega)]
theorem tkF_le {b : Nat} (h : b ≤ n) : b ≤ (tkF n t b).1 ∧ (tkF n t b).1 ≤ (tkF n t b).2 ∧ (tkF n t b).2 ≤ n := by
  have h1 := sk_le n t (n - b) b h
  have h2 := wordEnd_le t h1.2
  exact ⟨h1.1, h2.1, h2.2⟩
theorem tk_le : ∀ j, (tk n t j).1 ≤ (tk n t j).2 ∧ (tk n t j).2 ≤ n
  | 0 => (tkF_le (Nat.zero_le n)).2
  | j + 1 => (tkF_le (tk_le j).2).2
theorem tk_end {m : Nat} (h : tk n t m = (n, n)) : ∀ j, m ≤ j → tk n t j = (n, n) := by
  intro j hj
  induction j with
  | zero => rw [show m = 0 by omega] at h; exact h
  | succ j ih =>
    by_cases e : m = j + 1
    · subst e; exact h
    · show tkF n t (tk n t j).2 = _
      rw [ih (by omega)]
      exact tkF_end
end
theorem ws_iff {u : Int32} (h : isTC u) : isWS u ↔ 32 < u.toInt ∧ u.toInt ≠ 59 := by
  unfold isTC isLD at h
  unfold isWS isLet isDig
  omega
/-- how far the words are found -/
def fwI (n : Nat) (t : Nat → Int32) (mi m1 : Nat → Nat → Int32) (m p : Nat) : Prop :=
  (∀ r, r ≠ 398 → r ≠ 405 → r ≠ 406 → m1 r = mi r) ∧ (∀ k, k ≠ 9 → m1 398 k = mi 398 k) ∧ m1 398 9 = nI m ∧ m ≤ p ∧
  (∀ j, j < m → m1 405 j = nI (tk n t j).1 ∧ m1 406 j = nI (tk n t j).2 ∧ (tk n t j).1 < (tk n t j).2) ∧ tk n t m = tkF n t p
theorem fwI.rec_ {n : Nat} {t : Nat → Int32} {mi m1 : Nat → Nat → Int32} {m p p' : Nat} (h : fwI n t mi m1 m p) (e : tkF n t p = (p, p')) (hp : p < p') : fwI n t mi (rx_u (rx_u (rx_u m1 405 m (nI p)) 406 m (nI p')) 398 9 (nI (m + 1))) (m + 1) p' := by
  obtain ⟨h1, h2, h3, h4, h5, h6⟩ := h
  have h6' := h6.trans e
  refine ⟨fun r a b c => ?_, fun k hk => ?_, rx_u_same _ _ _ _, by omega, fun j hj => ?_, ?_⟩
  · rw [rx_u_r _ _ a, rx_u_r _ _ c, rx_u_r _ _ b]; exact h1 r a b c
  · rw [rx_u_k _ _ hk, rx_u_r _ _ (by decide), rx_u_r _ _ (by decide)]; exact h2 k hk
  · by_cases e2 : j = m
    · subst e2
      simp [rx_u, va_up, h6', hp]
    · have q := h5 j (by omega)
      simp [rx_u, va_up, e2, q]
  · show tkF n t (tk n t m).2 = _
    rw [h6']
section
variable {nx : Nat} {ct : Nat → Nat × Nat} {mi : Nat → Nat → Int32} {ml : Nat → Nat → Int64} {mr : Nat → Nat → Option Nat}
theorem sp_Mo_findWords {n : Nat} (hL : LAY nx ct mr) (hn : mi 398 2 = nI n) (hn2 : n ≤ 3000) (htc : ∀ i, i < n → isTC (mi 399 i)) : rx_Calls y_Mo_findWords M_Mo_findWords 2 0 0 [.ref 398] (nx, ct, mi, ml, mr) (fun v τ => v = none ∧ ∃ m m1, τ = (nx, ct, m1, ml, mr) ∧ fwI n (mi 399) mi m1 m n) := by
  refine rx_enter (by decide) rfl rfl (Nat.le_of_ble_eq_true rfl) ?_
  generalize ht : mi 399 = t at htc ⊢
  have inner : ∀ (m1 : Nat → Nat → Int32) (post : rx_End) (fr : Nat), m1 398 2 = nI n → m1 399 = t → ∀ f i, i ≤ n → f = n - i → rx_W M_Mo_findWords 2 0 0 43 [(0, .ref 398), (1, .int (nI (we n t (n - i) i))), (2, .int (nI fr))] [] (nx, ct, m1, ml, mr) post → rx_W M_Mo_findWords 2 0 0 17 [(0, .ref 398), (1, .int (nI i)), (2, .int (nI fr))] [] (nx, ct, m1, ml, mr) post := by
    intro m1 post fr h1 h2 f
    induction f with
    | zero =>
      intro i hi hf k
      rw [we_stop (by omega)] at k
      refine ru_iload_n d_Mo_findWords_17 rfl rfl ?_
      refine ru_aload_n d_Mo_findWords_18 rfl rfl ?_
      refine ru_getI d_Mo_findWords_19 lf_Mo_50 (ly hL 398 9 0) rfl ?_
      refine ru_eqi h1 ?_
      refine ru_icmp_ge (tgt := 43) d_Mo_findWords_22 (by decide) (fun h22 => ?_) (fun h22 => absurd (nI_le (by omega) (by omega)) h22)
      replace h22 := nm_le (a := n) (b := i) (by omega) (by omega) h22
      exact ru_to k ⟨rfl, rfl, rfl, trivial⟩
    | succ f ih =>
      intro i hi hf k
      have hw := ws_iff (htc i (by omega))
      refine ru_iload_n d_Mo_findWords_17 rfl rfl ?_
      refine ru_aload_n d_Mo_findWords_18 rfl rfl ?_
      refine ru_getI d_Mo_findWords_19 lf_Mo_50 (ly hL 398 9 0) rfl ?_
      refine ru_eqi h1 ?_
      refine ru_icmp_ge (tgt := 43) d_Mo_findWords_22 (by decide) (fun h22 => absurd h22 (nI_ge (by omega) (by omega))) (fun h22 => ?_)
      replace h22 := nm_nle (a := n) (b := i) (by omega) (by omega) h22
      refine ru_aload_n d_Mo_findWords_25 rfl rfl ?_
      refine ru_getR d_Mo_findWords_26 lf_Mo_7 (ly hL 398 9 0) rfl (lr hL 398 1 399) ?_
      refine ru_iload_n d_Mo_findWords_29 rfl rfl ?_
      refine ru_ialdN (j := i) d_Mo_findWords_30 (ly hL 399 100 3000) (by omega) (by decide) ?_
      rw [h2]
      refine ru_callS (mc := 0) (ms := 0) d_Mo_findWords_31 lm_Mo_56 (sp_Mo_isWordSign (t i) _) (by decide) rfl (Nat.le_of_ble_eq_true rfl) ?_
      intro v τ h
      obtain ⟨rfl, rfl⟩ := h
      refine ru_if_eq (tgt := 43) d_Mo_findWords_34 (by decide) (fun h34 => ?_) (fun h34 => ?_)
      · skip
        replace h34 := bI_eq0.mp h34
        rw [we_stop (fun q => h34 (hw.mpr q.2))] at k
        exact ru_to k ⟨rfl, rfl, rfl, trivial⟩
      · skip
        replace h34 := bI_ne0.mp h34
        refine ru_iinc (v := nI (i + 1)) d_Mo_findWords_37 rfl (nm_inc _ 1) (by decide) ?_
        refine ru_goto (tgt := 17) d_Mo_findWords_40 (by decide) ?_
        rw [we_step (by omega) (hw.mp h34)] at k
        exact ru_to (ih (i + 1) (by omega) (by omega) k) ⟨rfl, rfl, rfl, trivial⟩
  have outer : ∀ f p m (m1 : Nat → Nat → Int32), p ≤ n → n - p ≤ f → fwI n t mi m1 m p → rx_W M_Mo_findWords 2 0 0 7 [(0, .ref 398), (1, .int (nI p))] [] (nx, ct, m1, ml, mr) (pR (fun v τ => v = none ∧ ∃ m m1, τ = (nx, ct, m1, ml, mr) ∧ fwI n t mi m1 m n)) := by
    intro f
    induction f with
    | zero =>
      intro p m m1 hp hf I
      have e : p = n := by omega
      subst e
      have h1 : m1 398 2 = nI p := (I.2.1 2 (by decide)).trans hn
      refine ru_iload_n d_Mo_findWords_7 rfl rfl ?_
      refine ru_aload_n d_Mo_findWords_8 rfl rfl ?_
      refine ru_getI d_Mo_findWords_9 lf_Mo_50 (ly hL 398 9 0) rfl ?_
      refine ru_eqi h1 ?_
      refine ru_icmp_ge (tgt := 106) d_Mo_findWords_12 (by decide) (fun h12 => ?_) (fun h12 => absurd (nI_le (by omega) (by omega)) h12)
      replace h12 := nm_le (a := p) (b := p) (by omega) (by omega) h12
      refine ru_vret d_Mo_findWords_106 rfl ?_
      exact ⟨rfl, m, m1, rfl, I⟩
    | succ f ih =>
      intro p m m1 hp hf I
      have h1 : m1 398 2 = nI n := (I.2.1 2 (by decide)).trans hn
      have h2 : m1 399 = t := (I.1 399 (by decide) (by decide) (by decide)).trans ht
      have h9 : m1 398 9 = nI m := I.2.2.1
      have hmp : m ≤ p := I.2.2.2.1
      have mid : p < n → rx_W M_Mo_findWords 2 0 0 43 [(0, .ref 398), (1, .int (nI (we n t (n - p) p))), (2, .int (nI p))] [] (nx, ct, m1, ml, mr) (pR (fun v τ => v = none ∧ ∃ m m1, τ = (nx, ct, m1, ml, mr) ∧ fwI n t mi m1 m n)) := by
        intro hpn
        have hc := htc p hpn
        have rest : ∀ q', p < q' → q' ≤ n → tkF n t p = (p, q') → rx_W M_Mo_findWords 2 0 0 62 [(0, .ref 398), (1, .int (nI q')), (2, .int (nI p))] [] (nx, ct, m1, ml, mr) (pR (fun v τ => v = none ∧ ∃ m m1, τ = (nx, ct, m1, ml, mr) ∧ fwI n t mi m1 m n)) := by
          intro q' h3 h4 h5
          refine ru_iload_n d_Mo_findWords_62 rfl rfl ?_
          refine ru_iload_n d_Mo_findWords_63 rfl rfl ?_
          refine ru_icmp_le (tgt := 100) d_Mo_findWords_64 (by decide) (fun h64 => ?_) (fun h64 => ?_)
          · skip
            replace h64 := nm_le (a := q') (b := p) (by omega) (by omega) h64
            exfalso; omega
          · skip
            replace h64 := nm_nle (a := q') (b := p) (by omega) (by omega) h64
            refine ru_aload_n d_Mo_findWords_67 rfl rfl ?_
            refine ru_getR d_Mo_findWords_68 lf_Mo_30 (ly hL 398 9 0) rfl (lr hL 398 10 405) ?_
            refine ru_aload_n d_Mo_findWords_71 rfl rfl ?_
            refine ru_getI d_Mo_findWords_72 lf_Mo_53 (ly hL 398 9 0) rfl ?_
            refine ru_eqi h9 ?_
            refine ru_iload_n d_Mo_findWords_75 rfl rfl ?_
            refine ru_iastN (j := m) d_Mo_findWords_76 (ly hL 405 100 3001) (by omega) (by decide) ?_
            refine ru_aload_n d_Mo_findWords_77 rfl rfl ?_
            refine ru_getR d_Mo_findWords_78 lf_Mo_33 (ly hL 398 9 0) rfl (lr hL 398 11 406) ?_
            refine ru_aload_n d_Mo_findWords_81 rfl rfl ?_
            refine ru_getI d_Mo_findWords_82 lf_Mo_53 (ly hL 398 9 0) rfl ?_
            rw [rx_u_r _ _ (by decide)]
            refine ru_eqi h9 ?_
            refine ru_iload_n d_Mo_findWords_85 rfl rfl ?_
            refine ru_iastN (j := m) d_Mo_findWords_86 (ly hL 406 100 3001) (by omega) (by decide) ?_
            refine ru_aload_n d_Mo_findWords_87 rfl rfl ?_
            refine ru_dup d_Mo_findWords_88 rfl ?_
            refine ru_getI d_Mo_findWords_89 lf_Mo_53 (ly hL 398 9 0) rfl ?_
            rw [rx_u_r _ _ (by decide), rx_u_r _ _ (by decide)]
            refine ru_eqi h9 ?_
            refine ru_iconst (v := 1) d_Mo_findWords_92 (by decide) ?_
            refine ru_iadd d_Mo_findWords_93 ?_
            refine ru_eqi (nm_add m 1 : _ = nI (m + 1)) ?_
            refine ru_putI d_Mo_findWords_94 lf_Mo_53 (ly hL 398 9 0) rfl (fun q hq => by cases hq; exact Or.inl rfl) ⟨rfl, rfl⟩ ?_
            refine ru_goto (tgt := 103) d_Mo_findWords_97 (by decide) ?_
            refine ru_goto (tgt := 7) d_Mo_findWords_103 (by decide) ?_
            exact ru_to (ih q' (m + 1) _ h4 (by omega) (I.rec_ h5 h3)) ⟨rfl, rfl, trivial⟩
        by_cases hs : 32 < (t p).toInt ∧ (t p).toInt ≠ 59
        · have hlt : p < we n t (n - p) p := by
            rw [we_step hpn hs]
            exact (we_le n t (n - (p + 1)) (p + 1) (by omega)).1
          have hle := (we_le n t (n - p) p hp).2
          have e := tkF_sign hpn hs
          generalize we n t (n - p) p = q at hlt hle e ⊢
          refine ru_iload_n d_Mo_findWords_43 rfl rfl ?_
          refine ru_iload_n d_Mo_findWords_44 rfl rfl ?_
          refine ru_icmp_ne (tgt := 62) d_Mo_findWords_45 (by decide) (fun h45 => ?_) (fun h45 => ?_)
          · skip
            replace h45 := nm_ne (a := q) (b := p) (by omega) (by omega) h45
            exact ru_to (rest q hlt hle e) ⟨rfl, rfl, rfl, trivial⟩
          · skip
            replace h45 := nm_eq (a := q) (b := p) (by omega) (by omega) h45
            exfalso; omega
        · rw [we_stop (fun x => hs x.2)]
          by_cases h59 : (t p).toInt = 59
          · have e : t p = 59 := by rw [iq, i_59]; exact h59
            refine ru_iload_n d_Mo_findWords_43 rfl rfl ?_
            refine ru_iload_n d_Mo_findWords_44 rfl rfl ?_
            refine ru_icmp_ne (tgt := 62) d_Mo_findWords_45 (by decide) (fun h45 => absurd rfl h45) (fun h45 => ?_)
            replace h45 := nm_eq (a := p) (b := p) (by omega) (by omega) h45
            refine ru_aload_n d_Mo_findWords_48 rfl rfl ?_
            refine ru_getR d_Mo_findWords_49 lf_Mo_7 (ly hL 398 9 0) rfl (lr hL 398 1 399) ?_
            refine ru_iload_n d_Mo_findWords_52 rfl rfl ?_
            refine ru_ialdN (j := p) d_Mo_findWords_53 (ly hL 399 100 3000) (by omega) (by decide) ?_
            rw [h2, e]
            refine ru_bipush (v := 59) d_Mo_findWords_54 (by decide) ?_
            refine ru_icmp_ne (tgt := 62) d_Mo_findWords_56 (by decide) (fun h56 => absurd h56 (by decide)) (fun h56 => ?_)
            refine ru_iinc (v := nI (p + 1)) d_Mo_findWords_59 rfl (nm_inc _ 1) (by decide) ?_
            exact ru_to (rest (p + 1) (by omega) (by omega) (tkF_semi hpn h59)) ⟨rfl, rfl, rfl, trivial⟩
          · have e : ¬ t p = 59 := fun x => h59 (by rw [x, i_59])
            refine ru_iload_n d_Mo_findWords_43 rfl rfl ?_
            refine ru_iload_n d_Mo_findWords_44 rfl rfl ?_
            refine ru_icmp_ne (tgt := 62) d_Mo_findWords_45 (by decide) (fun h45 => absurd rfl h45) (fun h45 => ?_)
            replace h45 := nm_eq (a := p) (b := p) (by omega) (by omega) h45
            refine ru_aload_n d_Mo_findWords_48 rfl rfl ?_
            refine ru_getR d_Mo_findWords_49 lf_Mo_7 (ly hL 398 9 0) rfl (lr hL 398 1 399) ?_
            refine ru_iload_n d_Mo_findWords_52 rfl rfl ?_
            refine ru_ialdN (j := p) d_Mo_findWords_53 (ly hL 399 100 3000) (by omega) (by decide) ?_
            rw [h2]
            refine ru_bipush (v := 59) d_Mo_findWords_54 (by decide) ?_
            refine ru_icmp_ne (tgt := 62) d_Mo_findWords_56 (by decide) (fun h56 => ?_) (fun h56 => absurd h56 e)
            refine ru_iload_n d_Mo_findWords_62 rfl rfl ?_
            refine ru_iload_n d_Mo_findWords_63 rfl rfl ?_
            refine ru_icmp_le (tgt := 100) d_Mo_findWords_64 (by decide) (fun h64 => ?_) (fun h64 => absurd (nI_le (by omega) (by omega)) h64)
            replace h64 := nm_le (a := p) (b := p) (by omega) (by omega) h64
            refine ru_iinc (v := nI (p + 1)) d_Mo_findWords_100 rfl (nm_inc _ 1) (by decide) ?_
            refine ru_goto (tgt := 7) d_Mo_findWords_103 (by decide) ?_
            exact ru_to (ih (p + 1) m m1 (by omega) (by omega) ⟨I.1, I.2.1, h9, by omega, I.2.2.2.2.1, I.2.2.2.2.2.trans (tkF_blank hpn (by omega))⟩) ⟨rfl, rfl, trivial⟩
      refine ru_iload_n d_Mo_findWords_7 rfl rfl ?_
      refine ru_aload_n d_Mo_findWords_8 rfl rfl ?_
      refine ru_getI d_Mo_findWords_9 lf_Mo_50 (ly hL 398 9 0) rfl ?_
      refine ru_eqi h1 ?_
      refine ru_icmp_ge (tgt := 106) d_Mo_findWords_12 (by decide) (fun h12 => ?_) (fun h12 => ?_)
      · skip
        replace h12 := nm_le (a := n) (b := p) (by omega) (by omega) h12
        refine ru_vret d_Mo_findWords_106 rfl ?_
        have e : p = n := by omega
        subst e
        exact ⟨rfl, m, m1, rfl, I⟩
      · skip
        replace h12 := nm_nle (a := n) (b := p) (by omega) (by omega) h12
        refine ru_iload_n d_Mo_findWords_15 rfl rfl ?_
        refine ru_istore_n d_Mo_findWords_16 rfl (by decide) ?_
        exact ru_to (inner m1 _ p h1 h2 (n - p) p hp rfl (mid (by omega))) ⟨rfl, rfl, rfl, trivial⟩
  refine ru_aload_n d_Mo_findWords_0 rfl rfl ?_
  refine ru_iconst (v := 0) d_Mo_findWords_1 (by decide) ?_
  refine ru_putI d_Mo_findWords_2 lf_Mo_53 (ly hL 398 9 0) rfl (fun q hq => by cases hq; exact Or.inl rfl) ⟨rfl, rfl⟩ ?_
  refine ru_iconst (v := 0) d_Mo_findWords_5 (by decide) ?_
  refine ru_istore_n d_Mo_findWords_6 rfl (by decide) ?_
  refine ru_to (outer n 0 0 _ (by omega) (by omega) ?_) ⟨rfl, rfl, trivial⟩
  exact ⟨fun r a b c => rx_u_r _ _ a, fun k hk => rx_u_k _ _ hk, rx_u_same _ _ _ _, by omega, fun j hj => by omega, rfl⟩
end
end
section
/-! A word spelt by the reference -/
theorem d_Mo_spelt_0 : decode M_Mo_spelt.2.1 0 = .ok (.aload_n 0, 1) := by decide +kernel
theorem d_Mo_spelt_1 : decode M_Mo_spelt.2.1 1 = .ok (.invokevirtual 62, 3) := by decide +kernel
theorem d_Mo_spelt_4 : decode M_Mo_spelt.2.1 4 = .ok (.iconst 1, 1) := by decide +kernel
theorem d_Mo_spelt_5 : decode M_Mo_spelt.2.1 5 = .ok (.if_icmp .lt 12, 3) := by decide +kernel
theorem d_Mo_spelt_8 : decode M_Mo_spelt.2.1 8 = .ok (.aload_n 0, 1) := by decide +kernel
theorem d_Mo_spelt_9 : decode M_Mo_spelt.2.1 9 = .ok (.invokevirtual 62, 3) := by decide +kernel
theorem d_Mo_spelt_12 : decode M_Mo_spelt.2.1 12 = .ok (.bipush 7, 2) := by decide +kernel
theorem d_Mo_spelt_14 : decode M_Mo_spelt.2.1 14 = .ok (.if_icmp .le 7, 3) := by decide +kernel
theorem d_Mo_spelt_17 : decode M_Mo_spelt.2.1 17 = .ok (.ldc2_w 66, 3) := by decide +kernel
theorem d_Mo_spelt_20 : decode M_Mo_spelt.2.1 20 = .ok (.lreturn, 1) := by decide +kernel
theorem d_Mo_spelt_21 : decode M_Mo_spelt.2.1 21 = .ok (.lconst 0, 1) := by decide +kernel
theorem d_Mo_spelt_22 : decode M_Mo_spelt.2.1 22 = .ok (.lstore_n 1, 1) := by decide +kernel
theorem d_Mo_spelt_23 : decode M_Mo_spelt.2.1 23 = .ok (.aload_n 0, 1) := by decide +kernel
theorem d_Mo_spelt_24 : decode M_Mo_spelt.2.1 24 = .ok (.getfield 30, 3) := by decide +kernel
theorem d_Mo_spelt_27 : decode M_Mo_spelt.2.1 27 = .ok (.aload_n 0, 1) := by decide +kernel
theorem d_Mo_spelt_28 : decode M_Mo_spelt.2.1 28 = .ok (.getfield 59, 3) := by decide +kernel
theorem d_Mo_spelt_31 : decode M_Mo_spelt.2.1 31 = .ok (.iaload, 1) := by decide +kernel
theorem d_Mo_spelt_32 : decode M_Mo_spelt.2.1 32 = .ok (.istore_n 3, 1) := by decide +kernel
theorem d_Mo_spelt_33 : decode M_Mo_spelt.2.1 33 = .ok (.iload_n 3, 1) := by decide +kernel
theorem d_Mo_spelt_34 : decode M_Mo_spelt.2.1 34 = .ok (.aload_n 0, 1) := by decide +kernel
theorem d_Mo_spelt_35 : decode M_Mo_spelt.2.1 35 = .ok (.getfield 33, 3) := by decide +kernel
theorem d_Mo_spelt_38 : decode M_Mo_spelt.2.1 38 = .ok (.aload_n 0, 1) := by decide +kernel
theorem d_Mo_spelt_39 : decode M_Mo_spelt.2.1 39 = .ok (.getfield 59, 3) := by decide +kernel
theorem d_Mo_spelt_42 : decode M_Mo_spelt.2.1 42 = .ok (.iaload, 1) := by decide +kernel
theorem d_Mo_spelt_43 : decode M_Mo_spelt.2.1 43 = .ok (.if_icmp .ge 40, 3) := by decide +kernel
theorem d_Mo_spelt_46 : decode M_Mo_spelt.2.1 46 = .ok (.aload_n 0, 1) := by decide +kernel
theorem d_Mo_spelt_47 : decode M_Mo_spelt.2.1 47 = .ok (.getfield 7, 3) := by decide +kernel
theorem d_Mo_spelt_50 : decode M_Mo_spelt.2.1 50 = .ok (.iload_n 3, 1) := by decide +kernel
theorem d_Mo_spelt_51 : decode M_Mo_spelt.2.1 51 = .ok (.iaload, 1) := by decide +kernel
theorem d_Mo_spelt_52 : decode M_Mo_spelt.2.1 52 = .ok (.invokestatic 43, 3) := by decide +kernel
theorem d_Mo_spelt_55 : decode M_Mo_spelt.2.1 55 = .ok (.ifCond .ne 7, 3) := by decide +kernel
theorem d_Mo_spelt_58 : decode M_Mo_spelt.2.1 58 = .ok (.ldc2_w 66, 3) := by decide +kernel
theorem d_Mo_spelt_61 : decode M_Mo_spelt.2.1 61 = .ok (.lreturn, 1) := by decide +kernel
theorem d_Mo_spelt_62 : decode M_Mo_spelt.2.1 62 = .ok (.lload_n 1, 1) := by decide +kernel
theorem d_Mo_spelt_63 : decode M_Mo_spelt.2.1 63 = .ok (.iconst 5, 1) := by decide +kernel
theorem d_Mo_spelt_64 : decode M_Mo_spelt.2.1 64 = .ok (.lshl, 1) := by decide +kernel
theorem d_Mo_spelt_65 : decode M_Mo_spelt.2.1 65 = .ok (.aload_n 0, 1) := by decide +kernel
theorem d_Mo_spelt_66 : decode M_Mo_spelt.2.1 66 = .ok (.getfield 7, 3) := by decide +kernel
theorem d_Mo_spelt_69 : decode M_Mo_spelt.2.1 69 = .ok (.iload_n 3, 1) := by decide +kernel
theorem d_Mo_spelt_70 : decode M_Mo_spelt.2.1 70 = .ok (.iaload, 1) := by decide +kernel
theorem d_Mo_spelt_71 : decode M_Mo_spelt.2.1 71 = .ok (.bipush 96, 2) := by decide +kernel
theorem d_Mo_spelt_73 : decode M_Mo_spelt.2.1 73 = .ok (.isub, 1) := by decide +kernel
theorem d_Mo_spelt_74 : decode M_Mo_spelt.2.1 74 = .ok (.i2l, 1) := by decide +kernel
theorem d_Mo_spelt_75 : decode M_Mo_spelt.2.1 75 = .ok (.lor, 1) := by decide +kernel
theorem d_Mo_spelt_76 : decode M_Mo_spelt.2.1 76 = .ok (.lstore_n 1, 1) := by decide +kernel
theorem d_Mo_spelt_77 : decode M_Mo_spelt.2.1 77 = .ok (.iinc 3 1, 3) := by decide +kernel
theorem d_Mo_spelt_80 : decode M_Mo_spelt.2.1 80 = .ok (.goto (-47), 3) := by decide +kernel
theorem d_Mo_spelt_83 : decode M_Mo_spelt.2.1 83 = .ok (.lload_n 1, 1) := by decide +kernel
theorem d_Mo_spelt_84 : decode M_Mo_spelt.2.1 84 = .ok (.lreturn, 1) := by decide +kernel
theorem d_Mo_word_0 : decode M_Mo_word.2.1 0 = .ok (.iload_n 0, 1) := by decide +kernel
theorem d_Mo_word_1 : decode M_Mo_word.2.1 1 = .ok (.i2l, 1) := by decide +kernel
theorem d_Mo_word_2 : decode M_Mo_word.2.1 2 = .ok (.iconst 5, 1) := by decide +kernel
theorem d_Mo_word_3 : decode M_Mo_word.2.1 3 = .ok (.lshl, 1) := by decide +kernel
theorem d_Mo_word_4 : decode M_Mo_word.2.1 4 = .ok (.iload_n 1, 1) := by decide +kernel
theorem d_Mo_word_5 : decode M_Mo_word.2.1 5 = .ok (.i2l, 1) := by decide +kernel
theorem d_Mo_word_6 : decode M_Mo_word.2.1 6 = .ok (.lor, 1) := by decide +kernel
theorem d_Mo_word_7 : decode M_Mo_word.2.1 7 = .ok (.lstore 7, 2) := by decide +kernel
theorem d_Mo_word_9 : decode M_Mo_word.2.1 9 = .ok (.iload_n 2, 1) := by decide +kernel
theorem d_Mo_word_10 : decode M_Mo_word.2.1 10 = .ok (.ifCond .le 13, 3) := by decide +kernel
theorem d_Mo_word_13 : decode M_Mo_word.2.1 13 = .ok (.lload 7, 2) := by decide +kernel
theorem d_Mo_word_15 : decode M_Mo_word.2.1 15 = .ok (.iconst 5, 1) := by decide +kernel
theorem d_Mo_word_16 : decode M_Mo_word.2.1 16 = .ok (.lshl, 1) := by decide +kernel
theorem d_Mo_word_17 : decode M_Mo_word.2.1 17 = .ok (.iload_n 2, 1) := by decide +kernel
theorem d_Mo_word_18 : decode M_Mo_word.2.1 18 = .ok (.i2l, 1) := by decide +kernel
theorem d_Mo_word_19 : decode M_Mo_word.2.1 19 = .ok (.lor, 1) := by decide +kernel
theorem d_Mo_word_20 : decode M_Mo_word.2.1 20 = .ok (.goto 5, 3) := by decide +kernel
theorem d_Mo_word_23 : decode M_Mo_word.2.1 23 = .ok (.lload 7, 2) := by decide +kernel
theorem d_Mo_word_25 : decode M_Mo_word.2.1 25 = .ok (.lstore 7, 2) := by decide +kernel
theorem d_Mo_word_27 : decode M_Mo_word.2.1 27 = .ok (.iload_n 3, 1) := by decide +kernel
theorem d_Mo_word_28 : decode M_Mo_word.2.1 28 = .ok (.ifCond .le 13, 3) := by decide +kernel
theorem d_Mo_word_31 : decode M_Mo_word.2.1 31 = .ok (.lload 7, 2) := by decide +kernel
theorem d_Mo_word_33 : decode M_Mo_word.2.1 33 = .ok (.iconst 5, 1) := by decide +kernel
theorem d_Mo_word_34 : decode M_Mo_word.2.1 34 = .ok (.lshl, 1) := by decide +kernel
theorem d_Mo_word_35 : decode M_Mo_word.2.1 35 = .ok (.iload_n 3, 1) := by decide +kernel
theorem d_Mo_word_36 : decode M_Mo_word.2.1 36 = .ok (.i2l, 1) := by decide +kernel
theorem d_Mo_word_37 : decode M_Mo_word.2.1 37 = .ok (.lor, 1) := by decide +kernel
theorem d_Mo_word_38 : decode M_Mo_word.2.1 38 = .ok (.goto 5, 3) := by decide +kernel
theorem d_Mo_word_41 : decode M_Mo_word.2.1 41 = .ok (.lload 7, 2) := by decide +kernel
theorem d_Mo_word_43 : decode M_Mo_word.2.1 43 = .ok (.lstore 7, 2) := by decide +kernel
theorem d_Mo_word_45 : decode M_Mo_word.2.1 45 = .ok (.iload 4, 2) := by decide +kernel
theorem d_Mo_word_47 : decode M_Mo_word.2.1 47 = .ok (.ifCond .le 14, 3) := by decide +kernel
theorem d_Mo_word_50 : decode M_Mo_word.2.1 50 = .ok (.lload 7, 2) := by decide +kernel
theorem d_Mo_word_52 : decode M_Mo_word.2.1 52 = .ok (.iconst 5, 1) := by decide +kernel
theorem d_Mo_word_53 : decode M_Mo_word.2.1 53 = .ok (.lshl, 1) := by decide +kernel
theorem d_Mo_word_54 : decode M_Mo_word.2.1 54 = .ok (.iload 4, 2) := by decide +kernel
theorem d_Mo_word_56 : decode M_Mo_word.2.1 56 = .ok (.i2l, 1) := by decide +kernel
theorem d_Mo_word_57 : decode M_Mo_word.2.1 57 = .ok (.lor, 1) := by decide +kernel
theorem d_Mo_word_58 : decode M_Mo_word.2.1 58 = .ok (.goto 5, 3) := by decide +kernel
theorem d_Mo_word_61 : decode M_Mo_word.2.1 61 = .ok (.lload 7, 2) := by decide +kernel
theorem d_Mo_word_63 : decode M_Mo_word.2.1 63 = .ok (.lstore 7, 2) := by decide +kernel
theorem d_Mo_word_65 : decode M_Mo_word.2.1 65 = .ok (.iload 5, 2) := by decide +kernel
theorem d_Mo_word_67 : decode M_Mo_word.2.1 67 = .ok (.ifCond .le 14, 3) := by decide +kernel
theorem d_Mo_word_70 : decode M_Mo_word.2.1 70 = .ok (.lload 7, 2) := by decide +kernel
theorem d_Mo_word_72 : decode M_Mo_word.2.1 72 = .ok (.iconst 5, 1) := by decide +kernel
theorem d_Mo_word_73 : decode M_Mo_word.2.1 73 = .ok (.lshl, 1) := by decide +kernel
theorem d_Mo_word_74 : decode M_Mo_word.2.1 74 = .ok (.iload 5, 2) := by decide +kernel
theorem d_Mo_word_76 : decode M_Mo_word.2.1 76 = .ok (.i2l, 1) := by decide +kernel
theorem d_Mo_word_77 : decode M_Mo_word.2.1 77 = .ok (.lor, 1) := by decide +kernel
theorem d_Mo_word_78 : decode M_Mo_word.2.1 78 = .ok (.goto 5, 3) := by decide +kernel
theorem d_Mo_word_81 : decode M_Mo_word.2.1 81 = .ok (.lload 7, 2) := by decide +kernel
theorem d_Mo_word_83 : decode M_Mo_word.2.1 83 = .ok (.lstore 7, 2) := by decide +kernel
theorem d_Mo_word_85 : decode M_Mo_word.2.1 85 = .ok (.iload 6, 2) := by decide +kernel
theorem d_Mo_word_87 : decode M_Mo_word.2.1 87 = .ok (.ifCond .le 14, 3) := by decide +kernel
theorem d_Mo_word_90 : decode M_Mo_word.2.1 90 = .ok (.lload 7, 2) := by decide +kernel
theorem d_Mo_word_92 : decode M_Mo_word.2.1 92 = .ok (.iconst 5, 1) := by decide +kernel
theorem d_Mo_word_93 : decode M_Mo_word.2.1 93 = .ok (.lshl, 1) := by decide +kernel
theorem d_Mo_word_94 : decode M_Mo_word.2.1 94 = .ok (.iload 6, 2) := by decide +kernel
theorem d_Mo_word_96 : decode M_Mo_word.2.1 96 = .ok (.i2l, 1) := by decide +kernel
theorem d_Mo_word_97 : decode M_Mo_word.2.1 97 = .ok (.lor, 1) := by decide +kernel
theorem d_Mo_word_98 : decode M_Mo_word.2.1 98 = .ok (.goto 5, 3) := by decide +kernel
theorem d_Mo_word_101 : decode M_Mo_word.2.1 101 = .ok (.lload 7, 2) := by decide +kernel
theorem d_Mo_word_103 : decode M_Mo_word.2.1 103 = .ok (.lreturn, 1) := by decide +kernel
/-- the reference has found the words -/
def PMs (n m : Nat) (t : Nat → Int32) (m1 : Nat → Nat → Int32) : Prop := m1 398 2 = nI n ∧ m1 399 = t ∧ n ≤ 3000 ∧ (∀ i, i < n → isTC (t i)) ∧ m1 398 9 = nI m ∧ m ≤ n ∧ (∀ j, j < m → m1 405 j = nI (tk n t j).1 ∧ m1 406 j = nI (tk n t j).2 ∧ (tk n t j).1 < (tk n t j).2) ∧ tk n t m = (n, n)
theorem PMs.upd {n m : Nat} {t : Nat → Int32} {m1 : Nat → Nat → Int32} (h : PMs n m t m1) {k : Nat} (v : Int32) (h2 : k ≠ 2) (h9 : k ≠ 9) : PMs n m t (rx_u m1 398 k v) := by
  obtain ⟨a1, a2, a3, a4, a5, a6, a7, a8⟩ := h
  refine ⟨by rw [rx_u_k _ _ (Ne.symm h2)]; exact a1, by rw [rx_u_r _ _ (by decide)]; exact a2, a3, a4, by rw [rx_u_k _ _ (Ne.symm h9)]; exact a5, a6, fun j hj => ?_, a8⟩
  rw [rx_u_r _ _ (by decide), rx_u_r _ _ (by decide)]
  exact a7 j hj
def tlen (n : Nat) (t : Nat → Int32) (j : Nat) : Nat := (tk n t j).2 - (tk n t j).1
abbrev k5 : Int64 := (5 : Int32).toInt64 &&& 63
noncomputable def spF (t : Nat → Int32) : Nat → Nat → Int64 → Int64
  | 0, _, v => v
  | f + 1, k, v => @ite _ (isLet (t k)) (Classical.propDecidable _) (spF t f (k + 1) ((v <<< k5) ||| (t k - 96).toInt64)) (-1)
noncomputable def spV (t : Nat → Int32) (q : Nat × Nat) : Int64 := if 1 ≤ q.2 - q.1 ∧ q.2 - q.1 ≤ 7 then spF t (q.2 - q.1) q.1 0 else -1
def w1 (v : Int64) (c : Int32) : Int64 := if c ≤ 0 then v else (v <<< k5) ||| c.toInt64
def wordV (a b c d e f g : Int32) : Int64 := w1 (w1 (w1 (w1 (w1 ((a.toInt64 <<< k5) ||| b.toInt64) c) d) e) f) g
/-- the number that a word's letters make -/
def gE (t : Nat → Int32) (k : Nat) : Nat → Nat
  | 0 => 0
  | f + 1 => gE t k f * 32 + ((t (k + f)).toInt - 96).toNat
def wIs (t : Nat → Int32) (q : Nat × Nat) (l : List Int32) : Prop := q.2 - q.1 = l.length ∧ ∀ i, i < l.length → t (q.1 + i) = l.getD i 0
theorem gE_lt {t : Nat → Int32} {k : Nat} : ∀ f, (∀ i, i < f → isLet (t (k + i))) → gE t k f < 32 ^ f
  | 0, _ => Nat.one_pos
  | f + 1, h => by
    have h1 := gE_lt f (fun i hi => h i (by omega))
    have h2 := h f (by omega)
    unfold isLet at h2
    unfold gE
    rw [Nat.pow_succ]
    omega
theorem gE_inj {t t' : Nat → Int32} {k k' : Nat} : ∀ f f', (∀ i, i < f → isLet (t (k + i))) → (∀ i, i < f' → isLet (t' (k' + i))) → gE t k f = gE t' k' f' → f = f' ∧ ∀ i, i < f → t (k + i) = t' (k' + i)
  | 0, 0, _, _, _ => ⟨rfl, fun i hi => by omega⟩
  | 0, f' + 1, _, h', e => by
    have h2 := h' f' (by omega)
    unfold isLet at h2
    unfold gE at e
    omega
  | f + 1, 0, h, _, e => by
    have h2 := h f (by omega)
    unfold isLet at h2
    unfold gE at e
    omega
  | f + 1, f' + 1, h, h', e => by
    have h2 := h f (by omega)
    have h3 := h' f' (by omega)
    unfold isLet at h2 h3
    unfold gE at e
    obtain ⟨e1, e2⟩ := gE_inj f f' (fun i hi => h i (by omega)) (fun i hi => h' i (by omega)) (by omega)
    subst e1
    refine ⟨rfl, fun i hi => ?_⟩
    by_cases q : i = f
    · subst q
      rw [iq]
      omega
    · exact e2 i (by omega)
theorem sh5 {v d : Nat} (hv : v < 2 ^ 30) (hd : d < 32) : (Int64.ofNat v <<< k5) ||| (nI d).toInt64 = Int64.ofNat (v * 32 + d) := by
  have e1 : (nI d).toInt64 = Int64.ofNat d := by
    apply Int64.toInt_inj.mp
    rw [Int32.toInt_toInt64, nI_toInt (by omega), Int64.toInt_ofNat_of_lt (by omega)]
  have e2 : v * 32 + d = v <<< 5 ||| d := by rw [← Nat.shiftLeft_add_eq_or_of_lt (by omega), Nat.shiftLeft_eq]
  rw [e1, e2]
  apply Int64.toBitVec_inj.mp
  rw [Int64.toBitVec_or, Int64.toBitVec_shiftLeft]
  rw [show k5.toBitVec.smod 64 = 5#64 from by decide]
  show (BitVec.ofNat 64 v <<< 5#64) ||| BitVec.ofNat 64 d = BitVec.ofNat 64 (v <<< 5 ||| d)
  rw [BitVec.ofNat_or]
  congr 1
  apply BitVec.eq_of_toNat_eq
  simp
  rw [Nat.mod_eq_of_lt (show v < 18446744073709551616 by omega)]
theorem spF_ok {t : Nat → Int32} {k : Nat} : ∀ f i, i + f ≤ 7 → (∀ x, x < i + f → isLet (t (k + x))) → spF t f (k + i) (Int64.ofNat (gE t k i)) = Int64.ofNat (gE t k (i + f))
  | 0, i, _, _ => rfl
  | f + 1, i, h7, h => by
    unfold spF
    have hi := h i (by omega)
    have hb := gE_lt (t := t) (k := k) i (fun x hx => h x (by omega))
    have hb2 : (32 : Nat) ^ i ≤ 32 ^ 6 := Nat.pow_le_pow_right (by decide) (by omega)
    rw [if_pos hi]
    have e : (t (k + i) - 96).toInt64 = (nI ((t (k + i)).toInt - 96).toNat).toInt64 := by
      congr 1
      rw [iq, nI_toInt (by unfold isLet at hi; omega), Int32.toInt_sub_of_le, i_96]
      · unfold isLet at hi; omega
      · decide
      · rw [ie, i_96]; unfold isLet at hi; omega
    rw [e, sh5 (by omega) (by unfold isLet at hi; omega)]
    have := spF_ok (t := t) (k := k) f (i + 1) (by omega) (fun x hx => h x (by omega))
    rw [← Nat.add_assoc k i 1] at this
    rw [show i + (f + 1) = i + 1 + f by omega]
    exact this
theorem spF_no {t : Nat → Int32} : ∀ f k v, (∃ x, x < f ∧ ¬ isLet (t (k + x))) → spF t f k v = -1
  | 0, _, _, ⟨x, h, _⟩ => by omega
  | f + 1, k, v, ⟨x, hx, hn⟩ => by
    unfold spF
    by_cases h : isLet (t k)
    · rw [if_pos h]
      cases x with
      | zero => exact absurd h hn
      | succ x => exact spF_no f (k + 1) _ ⟨x, by omega, by rw [show k + 1 + x = k + (x + 1) by omega]; exact hn⟩
    · rw [if_neg h]
theorem spV_iff {t : Nat → Int32} {q : Nat × Nat} {l : List Int32} (h1 : 1 ≤ l.length ∧ l.length ≤ 7) (h2 : ∀ i, i < l.length → isLet (l.getD i 0)) : spV t q = Int64.ofNat (gE (fun i => l.getD i 0) 0 l.length) ↔ wIs t q l := by
  have hlt := gE_lt (t := fun i => l.getD i 0) (k := 0) l.length (fun i hi => by rw [Nat.zero_add]; exact h2 i hi)
  have hlt2 : (32 : Nat) ^ l.length ≤ 32 ^ 7 := Nat.pow_le_pow_right (by decide) (by omega)
  have hne : ∀ N : Nat, N < 32 ^ 7 → ¬ (-1 : Int64) = Int64.ofNat N := fun N hN e => by
    have := congrArg Int64.toInt e
    rw [Int64.toInt_ofNat_of_lt (by omega)] at this
    rw [show ((-1 : Int64)).toInt = -1 from by decide] at this
    omega
  unfold spV wIs
  by_cases hb : 1 ≤ q.2 - q.1 ∧ q.2 - q.1 ≤ 7
  · rw [if_pos hb]
    generalize q.2 - q.1 = f at hb
    by_cases hl : ∃ x, x < f ∧ ¬ isLet (t (q.1 + x))
    · rw [spF_no f q.1 0 hl]
      refine ⟨fun e => absurd e (hne _ (by omega)), fun e => ?_⟩
      obtain ⟨x, hx, hn⟩ := hl
      rw [e.2 x (by omega)] at hn
      exact absurd (h2 x (by omega)) hn
    · have hall : ∀ x, x < f → isLet (t (q.1 + x)) := fun x hx => Classical.byContradiction fun z => hl ⟨x, hx, z⟩
      have e := spF_ok (t := t) (k := q.1) f 0 (by omega) (fun x hx => hall x (by omega))
      rw [Nat.zero_add] at e
      rw [show spF t f q.1 0 = Int64.ofNat (gE t q.1 f) from e]
      have hf := gE_lt (t := t) (k := q.1) f hall
      have hf2 : (32 : Nat) ^ f ≤ 32 ^ 7 := Nat.pow_le_pow_right (by decide) (by omega)
      constructor
      · intro z
        have z2 : gE t q.1 f = gE (fun i => l.getD i 0) 0 l.length := by
          have := congrArg Int64.toInt z
          rw [Int64.toInt_ofNat_of_lt (by omega), Int64.toInt_ofNat_of_lt (by omega)] at this
          omega
        obtain ⟨a, b⟩ := gE_inj _ _ hall (fun i hi => by rw [Nat.zero_add]; exact h2 i hi) z2
        subst a
        exact ⟨rfl, fun i hi => by have := b i hi; rwa [Nat.zero_add] at this⟩
      · rintro ⟨a, b⟩
        subst a
        congr 1
        have : ∀ g, g ≤ l.length → gE t q.1 g = gE (fun i => l.getD i 0) 0 g := by
          intro g hg
          induction g with
          | zero => rfl
          | succ g ih =>
            unfold gE
            rw [ih (by omega), b g (by omega), Nat.zero_add]
        exact this _ (Nat.le_refl _)
  · rw [if_neg hb]
    exact ⟨fun e => absurd e (hne _ (by omega)), fun e => absurd e.1 (by omega)⟩
section
variable {nx : Nat} {ct : Nat → Nat × Nat} {mi : Nat → Nat → Int32} {ml : Nat → Nat → Int64} {mr : Nat → Nat → Option Nat} {n m : Nat} {t : Nat → Int32}
theorem sp_Mo_word (a b c d e f g : Int32) (σ : rx_S) : rx_Calls y_Mo_word M_Mo_word 0 0 0 [.int a, .int b, .int c, .int d, .int e, .int f, .int g] σ (fun v τ => v = some (.long (wordV a b c d e f g)) ∧ τ = σ) := by
  refine rx_enter (by decide) rfl rfl (Nat.le_of_ble_eq_true rfl) ?_
  generalize hV : wordV a b c d e f g = V
  have s5 : ∀ v : Int64, w1 v g = V → rx_W M_Mo_word 0 0 0 85 [(6, .int g), (7, .long v)] [] σ (pR (fun v τ => v = some (.long V) ∧ τ = σ)) := by
    intro v hv
    refine ru_iload d_Mo_word_85 rfl ?_
    refine ru_if_le (tgt := 101) d_Mo_word_87 (by decide) (fun h87 => ?_) (fun h87 => ?_)
    · skip
      refine ru_lload d_Mo_word_101 rfl ?_
      refine ru_lret d_Mo_word_103 rfl ?_
      unfold w1 at hv
      first | (rw [if_pos h87] at hv; rw [hv]; exact ⟨rfl, rfl⟩) | (rw [if_neg h87] at hv; rw [hv]; exact ⟨rfl, rfl⟩)
    · skip
      refine ru_lload d_Mo_word_90 rfl ?_
      refine ru_iconst (v := 5) d_Mo_word_92 (by decide) ?_
      refine ru_lshl d_Mo_word_93 ?_
      refine ru_iload d_Mo_word_94 rfl ?_
      refine ru_i2l d_Mo_word_96 ?_
      refine ru_lor d_Mo_word_97 ?_
      refine ru_goto (tgt := 103) d_Mo_word_98 (by decide) ?_
      refine ru_lret d_Mo_word_103 rfl ?_
      unfold w1 at hv
      first | (rw [if_pos h87] at hv; rw [hv]; exact ⟨rfl, rfl⟩) | (rw [if_neg h87] at hv; rw [hv]; exact ⟨rfl, rfl⟩)
  have s4 : ∀ v : Int64, w1 (w1 v f) g = V → rx_W M_Mo_word 0 0 0 65 [(5, .int f), (6, .int g), (7, .long v)] [] σ (pR (fun v τ => v = some (.long V) ∧ τ = σ)) := by
    intro v hv
    refine ru_iload d_Mo_word_65 rfl ?_
    refine ru_if_le (tgt := 81) d_Mo_word_67 (by decide) (fun h67 => ?_) (fun h67 => ?_)
    · skip
      refine ru_lload d_Mo_word_81 rfl ?_
      refine ru_lstore d_Mo_word_83 (by decide) ?_
      refine ru_to (s5 _ ?_) ⟨rfl, rfl, trivial⟩
      rw [← hv]
      unfold w1
      first | rw [if_pos h67] | rw [if_neg h67]
    · skip
      refine ru_lload d_Mo_word_70 rfl ?_
      refine ru_iconst (v := 5) d_Mo_word_72 (by decide) ?_
      refine ru_lshl d_Mo_word_73 ?_
      refine ru_iload d_Mo_word_74 rfl ?_
      refine ru_i2l d_Mo_word_76 ?_
      refine ru_lor d_Mo_word_77 ?_
      refine ru_goto (tgt := 83) d_Mo_word_78 (by decide) ?_
      refine ru_lstore d_Mo_word_83 (by decide) ?_
      refine ru_to (s5 _ ?_) ⟨rfl, rfl, trivial⟩
      rw [← hv]
      unfold w1
      first | rw [if_pos h67] | rw [if_neg h67]
  have s3 : ∀ v : Int64, w1 (w1 (w1 v e) f) g = V → rx_W M_Mo_word 0 0 0 45 [(4, .int e), (5, .int f), (6, .int g), (7, .long v)] [] σ (pR (fun v τ => v = some (.long V) ∧ τ = σ)) := by
    intro v hv
    refine ru_iload d_Mo_word_45 rfl ?_
    refine ru_if_le (tgt := 61) d_Mo_word_47 (by decide) (fun h47 => ?_) (fun h47 => ?_)
    · skip
      refine ru_lload d_Mo_word_61 rfl ?_
      refine ru_lstore d_Mo_word_63 (by decide) ?_
      refine ru_to (s4 _ ?_) ⟨rfl, rfl, rfl, trivial⟩
      rw [← hv]
      congr 2
      unfold w1
      first | rw [if_pos h47] | rw [if_neg h47]
    · skip
      refine ru_lload d_Mo_word_50 rfl ?_
      refine ru_iconst (v := 5) d_Mo_word_52 (by decide) ?_
      refine ru_lshl d_Mo_word_53 ?_
      refine ru_iload d_Mo_word_54 rfl ?_
      refine ru_i2l d_Mo_word_56 ?_
      refine ru_lor d_Mo_word_57 ?_
      refine ru_goto (tgt := 63) d_Mo_word_58 (by decide) ?_
      refine ru_lstore d_Mo_word_63 (by decide) ?_
      refine ru_to (s4 _ ?_) ⟨rfl, rfl, rfl, trivial⟩
      rw [← hv]
      congr 2
      unfold w1
      first | rw [if_pos h47] | rw [if_neg h47]
  have s2 : ∀ v : Int64, w1 (w1 (w1 (w1 v d) e) f) g = V → rx_W M_Mo_word 0 0 0 27 [(3, .int d), (4, .int e), (5, .int f), (6, .int g), (7, .long v)] [] σ (pR (fun v τ => v = some (.long V) ∧ τ = σ)) := by
    intro v hv
    refine ru_iload_n d_Mo_word_27 rfl rfl ?_
    refine ru_if_le (tgt := 41) d_Mo_word_28 (by decide) (fun h28 => ?_) (fun h28 => ?_)
    · skip
      refine ru_lload d_Mo_word_41 rfl ?_
      refine ru_lstore d_Mo_word_43 (by decide) ?_
      refine ru_to (s3 _ ?_) ⟨rfl, rfl, rfl, rfl, trivial⟩
      rw [← hv]
      congr 3
      unfold w1
      first | rw [if_pos h28] | rw [if_neg h28]
    · skip
      refine ru_lload d_Mo_word_31 rfl ?_
      refine ru_iconst (v := 5) d_Mo_word_33 (by decide) ?_
      refine ru_lshl d_Mo_word_34 ?_
      refine ru_iload_n d_Mo_word_35 rfl rfl ?_
      refine ru_i2l d_Mo_word_36 ?_
      refine ru_lor d_Mo_word_37 ?_
      refine ru_goto (tgt := 43) d_Mo_word_38 (by decide) ?_
      refine ru_lstore d_Mo_word_43 (by decide) ?_
      refine ru_to (s3 _ ?_) ⟨rfl, rfl, rfl, rfl, trivial⟩
      rw [← hv]
      congr 3
      unfold w1
      first | rw [if_pos h28] | rw [if_neg h28]
  refine ru_iload_n d_Mo_word_0 rfl rfl ?_
  refine ru_i2l d_Mo_word_1 ?_
  refine ru_iconst (v := 5) d_Mo_word_2 (by decide) ?_
  refine ru_lshl d_Mo_word_3 ?_
  refine ru_iload_n d_Mo_word_4 rfl rfl ?_
  refine ru_i2l d_Mo_word_5 ?_
  refine ru_lor d_Mo_word_6 ?_
  refine ru_lstore d_Mo_word_7 (by decide) ?_
  refine ru_iload_n d_Mo_word_9 rfl rfl ?_
  refine ru_if_le (tgt := 23) d_Mo_word_10 (by decide) (fun h10 => ?_) (fun h10 => ?_)
  · skip
    refine ru_lload d_Mo_word_23 rfl ?_
    refine ru_lstore d_Mo_word_25 (by decide) ?_
    refine ru_to (s2 _ ?_) ⟨rfl, rfl, rfl, rfl, rfl, trivial⟩
    rw [← hV]
    unfold wordV
    congr 4
    unfold w1
    first | rw [if_pos h10] | rw [if_neg h10]
  · skip
    refine ru_lload d_Mo_word_13 rfl ?_
    refine ru_iconst (v := 5) d_Mo_word_15 (by decide) ?_
    refine ru_lshl d_Mo_word_16 ?_
    refine ru_iload_n d_Mo_word_17 rfl rfl ?_
    refine ru_i2l d_Mo_word_18 ?_
    refine ru_lor d_Mo_word_19 ?_
    refine ru_goto (tgt := 25) d_Mo_word_20 (by decide) ?_
    refine ru_lstore d_Mo_word_25 (by decide) ?_
    refine ru_to (s2 _ ?_) ⟨rfl, rfl, rfl, rfl, rfl, trivial⟩
    rw [← hV]
    unfold wordV
    congr 4
    unfold w1
    first | rw [if_pos h10] | rw [if_neg h10]
theorem sp_Mo_length {j : Nat} (hL : LAY nx ct mr) (h : PMs n m t mi) (hw : mi 398 12 = nI j) (hj : j < 4000) : rx_Calls y_Mo_length M_Mo_length 0 0 0 [.ref 398] (nx, ct, mi, ml, mr) (fun v τ => v = some (.int (nI (tlen n t j))) ∧ τ = (nx, ct, mi, ml, mr)) := by
  refine rx_enter (by decide) rfl rfl (Nat.le_of_ble_eq_true rfl) ?_
  obtain ⟨a1, a2, a3, a4, a5, a6, a7, a8⟩ := h
  unfold tlen
  refine ru_aload_n d_Mo_length_0 rfl rfl ?_
  refine ru_getI d_Mo_length_1 lf_Mo_59 (ly hL 398 9 0) rfl ?_
  refine ru_eqi hw ?_
  refine ru_aload_n d_Mo_length_4 rfl rfl ?_
  refine ru_getI d_Mo_length_5 lf_Mo_53 (ly hL 398 9 0) rfl ?_
  refine ru_eqi a5 ?_
  refine ru_icmp_ge (tgt := 33) d_Mo_length_8 (by decide) (fun h8 => ?_) (fun h8 => ?_)
  · skip
    replace h8 := nm_le (a := m) (b := j) (by omega) (by omega) h8
    refine ru_iconst (v := 0) d_Mo_length_33 (by decide) ?_
    refine ru_iret d_Mo_length_34 rfl ?_
    first | exact ⟨rfl, rfl⟩ | (rw [tk_end a8 j h8]; exact ⟨by rw [Nat.sub_self]; rfl, rfl⟩)
  · skip
    replace h8 := nm_nle (a := m) (b := j) (by omega) (by omega) h8
    refine ru_aload_n d_Mo_length_11 rfl rfl ?_
    refine ru_getR d_Mo_length_12 lf_Mo_33 (ly hL 398 9 0) rfl (lr hL 398 11 406) ?_
    refine ru_aload_n d_Mo_length_15 rfl rfl ?_
    refine ru_getI d_Mo_length_16 lf_Mo_59 (ly hL 398 9 0) rfl ?_
    refine ru_eqi hw ?_
    refine ru_ialdN (j := j) d_Mo_length_19 (ly hL 406 100 3001) (by omega) (by decide) ?_
    refine ru_eqi (a7 j h8).2.1 ?_
    refine ru_aload_n d_Mo_length_20 rfl rfl ?_
    refine ru_getR d_Mo_length_21 lf_Mo_30 (ly hL 398 9 0) rfl (lr hL 398 10 405) ?_
    refine ru_aload_n d_Mo_length_24 rfl rfl ?_
    refine ru_getI d_Mo_length_25 lf_Mo_59 (ly hL 398 9 0) rfl ?_
    refine ru_eqi hw ?_
    refine ru_ialdN (j := j) d_Mo_length_28 (ly hL 405 100 3001) (by omega) (by decide) ?_
    refine ru_eqi (a7 j h8).1 ?_
    refine ru_isub d_Mo_length_29 ?_
    refine ru_eqi (nm_sub (a := (tk n t j).2) (b := (tk n t j).1) (tk_le j).1 : _ = nI ((tk n t j).2 - (tk n t j).1)) ?_
    refine ru_goto (tgt := 34) d_Mo_length_30 (by decide) ?_
    refine ru_iret d_Mo_length_34 rfl ?_
    first | exact ⟨rfl, rfl⟩ | (rw [tk_end a8 j h8]; exact ⟨by rw [Nat.sub_self]; rfl, rfl⟩)
theorem sp_Mo_spelt {j : Nat} (hL : LAY nx ct mr) (h : PMs n m t mi) (hw : mi 398 12 = nI j) (hj : j < 4000) : rx_Calls y_Mo_spelt M_Mo_spelt 1 0 0 [.ref 398] (nx, ct, mi, ml, mr) (fun v τ => v = some (.long (spV t (tk n t j))) ∧ τ = (nx, ct, mi, ml, mr)) := by
  refine rx_enter (by decide) rfl rfl (Nat.le_of_ble_eq_true rfl) ?_
  have hlen := sp_Mo_length (ml := ml) hL h hw hj
  have hle := tk_le (n := n) (t := t) j
  have hn := h.2.2.1
  have ht := h.2.1
  have hjm : 1 ≤ tlen n t j → j < m := fun q => Nat.lt_of_not_le fun z => by
    unfold tlen at q
    rw [tk_end h.2.2.2.2.2.2.2 j z] at q
    omega
  have loop : j < m → ∀ f k (v : Int64), k ≤ (tk n t j).2 → f = (tk n t j).2 - k → rx_W M_Mo_spelt 1 0 0 33 [(0, .ref 398), (1, .long v), (3, .int (nI k))] [] (nx, ct, mi, ml, mr) (pR (fun v' τ => v' = some (.long (spF t f k v)) ∧ τ = (nx, ct, mi, ml, mr))) := by
    intro hjm f
    have a7 := h.2.2.2.2.2.2.1 j hjm
    have hmn := h.2.2.2.2.2.1
    induction f with
    | zero =>
      intro k v hk hf
      refine ru_iload_n d_Mo_spelt_33 rfl rfl ?_
      refine ru_aload_n d_Mo_spelt_34 rfl rfl ?_
      refine ru_getR d_Mo_spelt_35 lf_Mo_33 (ly hL 398 9 0) rfl (lr hL 398 11 406) ?_
      refine ru_aload_n d_Mo_spelt_38 rfl rfl ?_
      refine ru_getI d_Mo_spelt_39 lf_Mo_59 (ly hL 398 9 0) rfl ?_
      refine ru_eqi hw ?_
      refine ru_ialdN (j := j) d_Mo_spelt_42 (ly hL 406 100 3001) (by omega) (by decide) ?_
      refine ru_eqi a7.2.1 ?_
      refine ru_icmp_ge (tgt := 83) d_Mo_spelt_43 (by decide) (fun h43 => ?_) (fun h43 => absurd (nI_le (by omega) (by omega)) h43)
      replace h43 := nm_le (a := (tk n t j).2) (b := k) (by omega) (by omega) h43
      refine ru_lload_n d_Mo_spelt_83 rfl rfl ?_
      refine ru_lret d_Mo_spelt_84 rfl ?_
      exact ⟨rfl, rfl⟩
    | succ f ih =>
      intro k v hk hf
      unfold spF
      refine ru_iload_n d_Mo_spelt_33 rfl rfl ?_
      refine ru_aload_n d_Mo_spelt_34 rfl rfl ?_
      refine ru_getR d_Mo_spelt_35 lf_Mo_33 (ly hL 398 9 0) rfl (lr hL 398 11 406) ?_
      refine ru_aload_n d_Mo_spelt_38 rfl rfl ?_
      refine ru_getI d_Mo_spelt_39 lf_Mo_59 (ly hL 398 9 0) rfl ?_
      refine ru_eqi hw ?_
      refine ru_ialdN (j := j) d_Mo_spelt_42 (ly hL 406 100 3001) (by omega) (by decide) ?_
      refine ru_eqi a7.2.1 ?_
      refine ru_icmp_ge (tgt := 83) d_Mo_spelt_43 (by decide) (fun h43 => absurd h43 (nI_ge (by omega) (by omega))) (fun h43 => ?_)
      replace h43 := nm_nle (a := (tk n t j).2) (b := k) (by omega) (by omega) h43
      refine ru_aload_n d_Mo_spelt_46 rfl rfl ?_
      refine ru_getR d_Mo_spelt_47 lf_Mo_7 (ly hL 398 9 0) rfl (lr hL 398 1 399) ?_
      refine ru_iload_n d_Mo_spelt_50 rfl rfl ?_
      refine ru_ialdN (j := k) d_Mo_spelt_51 (ly hL 399 100 3000) (by omega) (by decide) ?_
      rw [ht]
      refine ru_callS (mc := 0) (ms := 0) d_Mo_spelt_52 lm_Mo_43 (sp_Mo_isLetter (t k) _) (by decide) rfl (Nat.le_of_ble_eq_true rfl) ?_
      intro v τ h
      obtain ⟨rfl, rfl⟩ := h
      refine ru_if_ne (tgt := 62) d_Mo_spelt_55 (by decide) (fun h55 => ?_) (fun h55 => ?_)
      · skip
        replace h55 := bI_ne0.mp h55
        refine ru_lload_n d_Mo_spelt_62 rfl rfl ?_
        refine ru_iconst (v := 5) d_Mo_spelt_63 (by decide) ?_
        refine ru_lshl d_Mo_spelt_64 ?_
        refine ru_aload_n d_Mo_spelt_65 rfl rfl ?_
        refine ru_getR d_Mo_spelt_66 lf_Mo_7 (ly hL 398 9 0) rfl (lr hL 398 1 399) ?_
        refine ru_iload_n d_Mo_spelt_69 rfl rfl ?_
        refine ru_ialdN (j := k) d_Mo_spelt_70 (ly hL 399 100 3000) (by omega) (by decide) ?_
        rw [ht]
        refine ru_bipush (v := 96) d_Mo_spelt_71 (by decide) ?_
        refine ru_isub d_Mo_spelt_73 ?_
        refine ru_i2l d_Mo_spelt_74 ?_
        refine ru_lor d_Mo_spelt_75 ?_
        refine ru_lstore_n d_Mo_spelt_76 rfl (by decide) ?_
        refine ru_iinc (v := nI (k + 1)) d_Mo_spelt_77 rfl (nm_inc _ 1) (by decide) ?_
        refine ru_goto (tgt := 33) d_Mo_spelt_80 (by decide) ?_
        rw [if_pos h55]
        exact ru_to (ih (k + 1) _ (by omega) (by omega)) ⟨rfl, rfl, rfl, trivial⟩
      · skip
        replace h55 := bI_eq0.mp h55
        refine ru_ldc2 d_Mo_spelt_58 lc_Mo_66 ?_
        refine ru_lret d_Mo_spelt_61 rfl ?_
        rw [if_neg h55]
        exact ⟨rfl, rfl⟩
  have hmn := h.2.2.2.2.2.1
  have fin : ¬ (1 ≤ tlen n t j ∧ tlen n t j ≤ 7) → spV t (tk n t j) = -1 := fun q => if_neg q
  have fin2 : (1 ≤ tlen n t j ∧ tlen n t j ≤ 7) → spV t (tk n t j) = spF t (tlen n t j) (tk n t j).1 0 := fun q => if_pos q
  have hlt : tlen n t j ≤ n := by unfold tlen; omega
  refine ru_aload_n d_Mo_spelt_0 rfl rfl ?_
  refine ru_callV (mc := 0) (ms := 0) d_Mo_spelt_1 lm_Mo_62 hlen (rx_recv_is (ly hL 398 9 0) kx_Mo) (by decide) rfl (Nat.le_of_ble_eq_true rfl) ?_
  intro v τ h
  obtain ⟨rfl, rfl⟩ := h
  refine ru_iconst (v := 1) d_Mo_spelt_4 (by decide) ?_
  refine ru_icmp_lt (tgt := 17) d_Mo_spelt_5 (by decide) (fun h5 => ?_) (fun h5 => ?_)
  · skip
    replace h5 := nm_lt (a := (tlen n t j)) (b := 1) (by omega) (by omega) h5
    refine ru_ldc2 d_Mo_spelt_17 lc_Mo_66 ?_
    refine ru_lret d_Mo_spelt_20 rfl ?_
    rw [fin (by omega)]
    exact ⟨rfl, rfl⟩
  · skip
    replace h5 := nm_nlt (a := (tlen n t j)) (b := 1) (by omega) (by omega) h5
    refine ru_aload_n d_Mo_spelt_8 rfl rfl ?_
    refine ru_callV (mc := 0) (ms := 0) d_Mo_spelt_9 lm_Mo_62 hlen (rx_recv_is (ly hL 398 9 0) kx_Mo) (by decide) rfl (Nat.le_of_ble_eq_true rfl) ?_
    intro v τ h
    obtain ⟨rfl, rfl⟩ := h
    refine ru_bipush (v := 7) d_Mo_spelt_12 (by decide) ?_
    refine ru_icmp_le (tgt := 21) d_Mo_spelt_14 (by decide) (fun h14 => ?_) (fun h14 => ?_)
    · skip
      replace h14 := nm_le (a := (tlen n t j)) (b := 7) (by omega) (by omega) h14
      refine ru_lconst (v := 0) d_Mo_spelt_21 (by decide) ?_
      refine ru_lstore_n d_Mo_spelt_22 rfl (by decide) ?_
      refine ru_aload_n d_Mo_spelt_23 rfl rfl ?_
      refine ru_getR d_Mo_spelt_24 lf_Mo_30 (ly hL 398 9 0) rfl (lr hL 398 10 405) ?_
      refine ru_aload_n d_Mo_spelt_27 rfl rfl ?_
      refine ru_getI d_Mo_spelt_28 lf_Mo_59 (ly hL 398 9 0) rfl ?_
      refine ru_eqi hw ?_
      refine ru_ialdN (j := j) d_Mo_spelt_31 (ly hL 405 100 3001) (by have := hjm (by omega); omega) (by decide) ?_
      refine ru_eqi (h.2.2.2.2.2.2.1 j (hjm (by omega))).1 ?_
      refine ru_istore_n d_Mo_spelt_32 rfl (by decide) ?_
      rw [fin2 ⟨by omega, by omega⟩]
      exact ru_to (loop (hjm (by omega)) (tlen n t j) _ 0 hle.1 rfl) ⟨rfl, rfl, rfl, trivial⟩
    · skip
      replace h14 := nm_nle (a := (tlen n t j)) (b := 7) (by omega) (by omega) h14
      refine ru_ldc2 d_Mo_spelt_17 lc_Mo_66 ?_
      refine ru_lret d_Mo_spelt_20 rfl ?_
      rw [fin (by omega)]
      exact ⟨rfl, rfl⟩
end
end
section
/-! Longs that are numbers; what a text says -/
theorem nl_add (a b : Nat) : Int64.ofNat a + Int64.ofNat b = Int64.ofNat (a + b) := (Int64.ofNat_add a b).symm
theorem nl_mul (a b : Nat) : Int64.ofNat a * Int64.ofNat b = Int64.ofNat (a * b) := (Int64.ofNat_mul a b).symm
theorem nl_sub {a b : Nat} (h : b ≤ a) : Int64.ofNat a - Int64.ofNat b = Int64.ofNat (a - b) := by
  have : Int64.ofNat a = Int64.ofNat (a - b) + Int64.ofNat b := by rw [nl_add, Nat.sub_add_cancel h]
  rw [this, Int64.add_sub_cancel]
theorem nl_toInt {a : Nat} (h : a < 2 ^ 63) : (Int64.ofNat a).toInt = a := Int64.toInt_ofNat_of_lt h
theorem nl_i2l {a : Nat} (h : a < 2 ^ 31) : (nI a).toInt64 = Int64.ofNat a := by
  apply Int64.toInt_inj.mp
  rw [Int32.toInt_toInt64, nI_toInt h, nl_toInt (by omega)]
theorem nl_l2i (a : Nat) : (Int64.ofNat a).toInt32 = nI a := by
  apply Int32.toBitVec_inj.mp
  show (BitVec.ofNat 64 a).signExtend 32 = BitVec.ofNat 32 a
  apply BitVec.eq_of_toNat_eq
  simp [BitVec.signExtend_eq_setWidth_of_le]
theorem nl_div {a b : Nat} (ha : a < 2 ^ 63) (hb : b < 2 ^ 63) (_h0 : 0 < b) : Int64.ofNat a / Int64.ofNat b = Int64.ofNat (a / b) := by
  apply Int64.toInt_inj.mp
  have hd : a / b ≤ a := Nat.div_le_self a b
  rw [Int64.toInt_div, nl_toInt ha, nl_toInt hb, nl_toInt (by omega), ← Int.ofNat_tdiv]
  generalize a / b = q at hd ⊢
  apply Int.bmod_eq_of_le <;> omega
theorem nl_rem {a b : Nat} (ha : a < 2 ^ 63) (hb : b < 2 ^ 63) (h0 : 0 < b) : Int64.ofNat a - Int64.ofNat a / Int64.ofNat b * Int64.ofNat b = Int64.ofNat (a % b) := by
  rw [nl_div ha hb h0, nl_mul, nl_sub (Nat.div_mul_le_self a b)]
  congr 1
  have := Nat.mod_add_div a b
  rw [Nat.mul_comm] at this
  omega
theorem nl_lt {a b : Nat} (ha : a < 2 ^ 63) (hb : b < 2 ^ 63) (h : Int64.ofNat a < Int64.ofNat b) : a < b := by
  rw [Int64.lt_iff_toInt_lt, nl_toInt ha, nl_toInt hb] at h; omega
theorem nl_nlt {a b : Nat} (ha : a < 2 ^ 63) (hb : b < 2 ^ 63) (h : ¬ Int64.ofNat a < Int64.ofNat b) : b ≤ a := by
  rw [Int64.lt_iff_toInt_lt, nl_toInt ha, nl_toInt hb] at h; omega
theorem nl_le {a b : Nat} (ha : a < 2 ^ 63) (hb : b < 2 ^ 63) (h : Int64.ofNat a ≤ Int64.ofNat b) : a ≤ b := by
  rw [Int64.le_iff_toInt_le, nl_toInt ha, nl_toInt hb] at h; omega
theorem nl_nle {a b : Nat} (ha : a < 2 ^ 63) (hb : b < 2 ^ 63) (h : ¬ Int64.ofNat a ≤ Int64.ofNat b) : b < a := by
  rw [Int64.le_iff_toInt_le, nl_toInt ha, nl_toInt hb] at h; omega
theorem nl_eq {a b : Nat} (ha : a < 2 ^ 63) (hb : b < 2 ^ 63) (h : Int64.ofNat a = Int64.ofNat b) : a = b := by
  have := congrArg Int64.toInt h
  rw [nl_toInt ha, nl_toInt hb] at this; omega
theorem nl_ne {a b : Nat} (ha : a < 2 ^ 63) (hb : b < 2 ^ 63) (h : ¬ Int64.ofNat a = Int64.ofNat b) : ¬ a = b := fun q => h (by rw [q])
theorem nl_ne0 {a : Nat} (ha : a < 2 ^ 63) (h0 : 0 < a) : ¬ Int64.ofNat a = 0 := fun q => by
  have := nl_eq (b := 0) ha (by decide) q
  omega
noncomputable def cnd {α : Type} (p : Prop) (a b : α) : α := @ite _ p (Classical.propDecidable p) a b
theorem cnd_t {α : Type} {p : Prop} {a b : α} (h : p) : cnd p a b = a := if_pos h
theorem cnd_f {α : Type} {p : Prop} {a b : α} (h : ¬ p) : cnd p a b = b := if_neg h
/-- word j is text s -/
def isW (n : Nat) (t : Nat → Int32) (j s : Nat) : Prop := wIs t (tk n t j) (rx_tx s)
theorem isW_one {n : Nat} {t : Nat → Int32} {j s s' : Nat} (h : isW n t j s) (h' : isW n t j s') : rx_tx s = rx_tx s' := by
  obtain ⟨a, b⟩ := h
  obtain ⟨a', b'⟩ := h'
  have e : (rx_tx s).length = (rx_tx s').length := a.symm.trans a'
  apply List.ext_getElem e
  intro i h1 h2
  have q := (b i h1).symm.trans (b' i h2)
  simpa [List.getD, h1, h2] using q
/-- names: a thing's length and letters -/
abbrev nmS : Type := (Nat → Nat) × (Nat → Nat → Int32)
def nmd (N : nmS) (n : Nat) (t : Nat → Int32) (j k : Nat) : Prop := (0 < N.1 k ∧ N.1 k = tlen n t j) ∧ ∀ i, i < N.1 k → N.2 k i = t ((tk n t j).1 + i)
noncomputable def fnd (N : nmS) (n : Nat) (t : Nat → Int32) (j a : Nat) : Option Nat := nthF (fun x => nmd N n t j (16 * a + x)) 16 0 0
/-- digits from k on: their number -/
def dvF (t : Nat → Int32) : Nat → Nat → Nat → Nat
  | 0, _, v => v
  | f + 1, k, v => dvF t f (k + 1) (10 * v + ((t k).toInt - 48).toNat)
/-- a word of one or two digits -/
noncomputable def snm (n : Nat) (t : Nat → Int32) (j : Nat) : Option Nat :=
  cnd ((1 ≤ tlen n t j ∧ tlen n t j ≤ 2) ∧ ∀ i, i < tlen n t j → isDig (t ((tk n t j).1 + i))) (some (dvF t (tlen n t j) (tk n t j).1 0)) none
/-- a number with or without places: its whole part and its millionths -/
noncomputable def amt (n : Nat) (t : Nat → Int32) (j : Nat) : Option (Nat × Nat) :=
  let b := (tk n t j).1
  let e := (tk n t j).2
  let p := de e t (e - b) b
  if p - b < 1 ∨ 9 < p - b then none
  else if p = e then some (dvF t (p - b) b 0, 0)
  else if (t p).toInt = 46 ∧ de e t (e - (p + 1)) (p + 1) = e ∧ 1 ≤ e - (p + 1) ∧ e - (p + 1) ≤ 6 then some (dvF t (p - b) b 0, dvF t (e - (p + 1)) (p + 1) 0 * 10 ^ (6 - (e - (p + 1))))
  else none
noncomputable def knd (n : Nat) (t : Nat → Int32) (j : Nat) : Option Nat := nthF (fun i => isW n t j (rx_kw i - 30)) 13 0 0
noncomputable def unt (n : Nat) (t : Nat → Int32) (j : Nat) : Option Nat := nthF (fun i => isW n t j (rx_uw i - 30)) 5 0 0
def unN (u : Nat) : Nat := ([1, 1000, 1000000, 25400, 25400000] : List Nat).getD u 0
/-- what a number comes to in a unit, if that is whole and within the limit -/
def cvt (A : Nat × Nat) (u lim : Nat) : Option Nat := if A.2 * u % 1000000 = 0 ∧ A.1 * u + A.2 * u / 1000000 ≤ lim then some (A.1 * u + A.2 * u / 1000000) else none
noncomputable def pThing (N : nmS) (n : Nat) (t : Nat → Int32) (j : Nat) : Nat ⊕ (Option Nat × Nat) :=
  cnd (isW n t j 2) (.inr (none, j + 1)) (cnd (isW n t j 3) (match fnd N n t (j + 1) 0 with | some x => .inr (some x, j + 2) | none => .inl (j + 1))
    (cnd (isW n t j 4) (match fnd N n t (j + 1) 1 with | some x => .inr (some (16 + x), j + 2) | none => .inl (j + 1)) (.inl j)))
/-- two things with and between them -/
noncomputable def pTwo (N : nmS) (n : Nat) (t : Nat → Int32) (j : Nat) : Nat ⊕ ((Option Nat × Option Nat) × Nat) :=
  match pThing N n t j with
  | .inl k => .inl k
  | .inr (o, j1) => cnd (isW n t j1 5) (match pThing N n t (j1 + 1) with | .inl k => .inl k | .inr (o2, j2) => .inr ((o, o2), j2)) (.inl j1)
noncomputable def pScope (N : nmS) (n : Nat) (t : Nat → Int32) (κ j : Nat) : Nat ⊕ ((Option Nat × Option Nat) × Nat) :=
  if κ = 12 then pTwo N n t j
  else if κ = 0 then cnd (isW n t j 0) (pTwo N n t (j + 1)) (.inr ((none, none), j))
  else cnd (isW n t j 1) (match pThing N n t (j + 1) with | .inl k => .inl k | .inr (o, j1) => .inr ((o, none), j1)) (.inr ((none, none), j))
noncomputable def pLayer (n : Nat) (t : Nat → Int32) (j : Nat) : Nat ⊕ (Nat × Nat) :=
  cnd (isW n t j 6) (cnd (isW n t (j + 1) 7) (match snm n t (j + 2) with | some v => if 1 ≤ v ∧ v ≤ 32 then .inr (3 + v, j + 3) else .inl (j + 2) | none => .inl (j + 2))
    (cnd (isW n t (j + 1) 8) (.inr (1, j + 2)) (cnd (isW n t (j + 1) 9) (.inr (2, j + 2)) (cnd (isW n t (j + 1) 10) (.inr (3, j + 2)) (.inl (j + 1)))))) (.inr (0, j))
noncomputable def pArea (N : nmS) (n : Nat) (t : Nat → Int32) (j : Nat) : Nat ⊕ (Option Nat × Nat) :=
  cnd (isW n t j 11) (match fnd N n t (j + 1) 2 with | some x => .inr (some x, j + 2) | none => .inl (j + 1)) (.inr (none, j))
noncomputable def pRank (n : Nat) (t : Nat → Int32) (j : Nat) : Nat ⊕ (Nat × Nat) :=
  cnd (isW n t j 12) (match snm n t (j + 1) with | some v => .inr (v, j + 2) | none => .inl (j + 1)) (.inr (0, j))
/-- a number at word j: of a count it is whole and within the limit -/
noncomputable def pNum (n : Nat) (t : Nat → Int32) (c : Prop) (j : Nat) : Option (Nat × Nat) :=
  match amt n t j with
  | none => none
  | some A => cnd (c ∧ cvt A 1 1000000 = none) none (some A)
/-- the ends of a value, at j1 and, with to, at j2 -/
noncomputable def pEnds (n : Nat) (t : Nat → Int32) (c : Prop) (j1 : Nat) (A : Nat × Nat) (o2 : Option (Nat × Nat)) (j3 : Nat) : Nat ⊕ ((Nat × Nat) × Nat) :=
  cnd c (match o2 with | none => .inr ((A.1, A.1), j3) | some B => if B.1 < A.1 then .inl (j1 + 2) else .inr ((A.1, B.1), j3))
    (match unt n t j3 with
    | none => .inl j3
    | some u => match cvt A (unN u) 1000000000000 with
      | none => .inl j1
      | some a => match o2 with
        | none => .inr ((a, a), j3 + 1)
        | some B => match cvt B (unN u) 1000000000000 with
          | none => .inl (j1 + 2)
          | some b => if b < a then .inl (j1 + 2) else .inr ((a, b), j3 + 1))
noncomputable def pVal (n : Nat) (t : Nat → Int32) (c : Prop) (one : Prop) (j1 : Nat) : Nat ⊕ ((Nat × Nat) × Nat) :=
  match pNum n t c j1 with
  | none => .inl j1
  | some A => cnd (¬ one ∧ isW n t (j1 + 1) 15) (match pNum n t c (j1 + 2) with | none => .inl (j1 + 2) | some B => pEnds n t c j1 A (some B) (j1 + 3)) (pEnds n t c j1 A none (j1 + 1))
noncomputable def pSpan (n : Nat) (t : Nat → Int32) (κ j : Nat) : Nat ⊕ ((Option Nat × Option Nat) × Nat) :=
  cnd (isW n t j 13) (match pVal n t (κ = 5 ∨ κ = 9) True (j + 1) with | .inl k => .inl k | .inr (q, j') => .inr ((some q.1, none), j'))
    (cnd (isW n t j 14) (match pVal n t (κ = 5 ∨ κ = 9) True (j + 1) with | .inl k => .inl k | .inr (q, j') => .inr ((none, some q.2), j'))
      (match pVal n t (κ = 5 ∨ κ = 9) False j with | .inl k => .inl k | .inr (q, j') => .inr ((some q.1, some q.2), j')))
/-- kind, things, layer, area, rank, ends, line -/
abbrev ruS : Type := Nat × (Option Nat × Option Nat) × Nat × Option Nat × Nat × (Option Nat × Option Nat) × Nat
noncomputable def pRest (N : nmS) (n : Nat) (t : Nat → Int32) (κ j : Nat) : Nat ⊕ ((Nat × Option Nat × Nat × (Option Nat × Option Nat)) × Nat) :=
  if κ = 12 then .inr ((0, none, 0, (none, none)), j)
  else match pLayer n t j with
    | .inl k => .inl k
    | .inr (l, j1) => match pArea N n t j1 with
      | .inl k => .inl k
      | .inr (a, j2) => match pRank n t j2 with
        | .inl k => .inl k
        | .inr (r, j3) => match pSpan n t κ j3 with
          | .inl k => .inl k
          | .inr (e, j4) => .inr ((l, a, r, e), j4)
/-- line feeds ahead of a place -/
def lnF (t : Nat → Int32) : Nat → Nat
  | 0 => 0
  | i + 1 => lnF t i + (if (t i).toInt = 10 then 1 else 0)
noncomputable def pSent (N : nmS) (n : Nat) (t : Nat → Int32) (j : Nat) : Nat ⊕ (ruS × Nat) :=
  match knd n t j with
  | none => .inl j
  | some κ => match pScope N n t κ (j + 1) with
    | .inl k => .inl k
    | .inr (s, j1) => match pRest N n t κ j1 with
      | .inl k => .inl k
      | .inr (q, j2) => cnd (isW n t j2 16) (.inr ((κ, s, q.1, q.2.1, q.2.2.1, q.2.2.2, lnF t (tk n t j).1), j2 + 1)) (.inl j2)
noncomputable def pAll (N : nmS) (n : Nat) (t : Nat → Int32) : Nat → Nat → Nat ⊕ List ruS
  | 0, j => if tlen n t j = 0 then .inr [] else .inl j
  | f + 1, j => if tlen n t j = 0 then .inr [] else match pSent N n t j with
    | .inl k => .inl k
    | .inr (r, j') => match pAll N n t f j' with
      | .inl k => .inl k
      | .inr l => .inr (r :: l)
end
section
/-! The reference reads: words taken, names, small numbers -/
theorem d_Mo_expect_0 : decode M_Mo_expect.2.1 0 = .ok (.aload_n 0, 1) := by decide +kernel
theorem d_Mo_expect_1 : decode M_Mo_expect.2.1 1 = .ok (.invokevirtual 75, 3) := by decide +kernel
theorem d_Mo_expect_4 : decode M_Mo_expect.2.1 4 = .ok (.ifCond .eq 19, 3) := by decide +kernel
theorem d_Mo_expect_7 : decode M_Mo_expect.2.1 7 = .ok (.aload_n 0, 1) := by decide +kernel
theorem d_Mo_expect_8 : decode M_Mo_expect.2.1 8 = .ok (.lload_n 1, 1) := by decide +kernel
theorem d_Mo_expect_9 : decode M_Mo_expect.2.1 9 = .ok (.invokevirtual 83, 3) := by decide +kernel
theorem d_Mo_expect_12 : decode M_Mo_expect.2.1 12 = .ok (.ifCond .ne 11, 3) := by decide +kernel
theorem d_Mo_expect_15 : decode M_Mo_expect.2.1 15 = .ok (.aload_n 0, 1) := by decide +kernel
theorem d_Mo_expect_16 : decode M_Mo_expect.2.1 16 = .ok (.aload_n 0, 1) := by decide +kernel
theorem d_Mo_expect_17 : decode M_Mo_expect.2.1 17 = .ok (.getfield 59, 3) := by decide +kernel
theorem d_Mo_expect_20 : decode M_Mo_expect.2.1 20 = .ok (.invokevirtual 87, 3) := by decide +kernel
theorem d_Mo_expect_23 : decode M_Mo_expect.2.1 23 = .ok (.return_, 1) := by decide +kernel
theorem d_Mo_took_0 : decode M_Mo_took.2.1 0 = .ok (.aload_n 0, 1) := by decide +kernel
theorem d_Mo_took_1 : decode M_Mo_took.2.1 1 = .ok (.invokevirtual 75, 3) := by decide +kernel
theorem d_Mo_took_4 : decode M_Mo_took.2.1 4 = .ok (.ifCond .eq 16, 3) := by decide +kernel
theorem d_Mo_took_7 : decode M_Mo_took.2.1 7 = .ok (.aload_n 0, 1) := by decide +kernel
theorem d_Mo_took_8 : decode M_Mo_took.2.1 8 = .ok (.invokevirtual 79, 3) := by decide +kernel
theorem d_Mo_took_11 : decode M_Mo_took.2.1 11 = .ok (.lload_n 1, 1) := by decide +kernel
theorem d_Mo_took_12 : decode M_Mo_took.2.1 12 = .ok (.lcmp, 1) := by decide +kernel
theorem d_Mo_took_13 : decode M_Mo_took.2.1 13 = .ok (.ifCond .ne 7, 3) := by decide +kernel
theorem d_Mo_took_16 : decode M_Mo_took.2.1 16 = .ok (.iconst 1, 1) := by decide +kernel
theorem d_Mo_took_17 : decode M_Mo_took.2.1 17 = .ok (.goto 4, 3) := by decide +kernel
theorem d_Mo_took_20 : decode M_Mo_took.2.1 20 = .ok (.iconst 0, 1) := by decide +kernel
theorem d_Mo_took_21 : decode M_Mo_took.2.1 21 = .ok (.istore_n 3, 1) := by decide +kernel
theorem d_Mo_took_22 : decode M_Mo_took.2.1 22 = .ok (.iload_n 3, 1) := by decide +kernel
theorem d_Mo_took_23 : decode M_Mo_took.2.1 23 = .ok (.ifCond .eq 13, 3) := by decide +kernel
theorem d_Mo_took_26 : decode M_Mo_took.2.1 26 = .ok (.aload_n 0, 1) := by decide +kernel
theorem d_Mo_took_27 : decode M_Mo_took.2.1 27 = .ok (.dup, 1) := by decide +kernel
theorem d_Mo_took_28 : decode M_Mo_took.2.1 28 = .ok (.getfield 59, 3) := by decide +kernel
theorem d_Mo_took_31 : decode M_Mo_took.2.1 31 = .ok (.iconst 1, 1) := by decide +kernel
theorem d_Mo_took_32 : decode M_Mo_took.2.1 32 = .ok (.iadd, 1) := by decide +kernel
theorem d_Mo_took_33 : decode M_Mo_took.2.1 33 = .ok (.putfield 59, 3) := by decide +kernel
theorem d_Mo_took_36 : decode M_Mo_took.2.1 36 = .ok (.iload_n 3, 1) := by decide +kernel
theorem d_Mo_took_37 : decode M_Mo_took.2.1 37 = .ok (.ireturn, 1) := by decide +kernel
/-- the reference at a word w, wrong or not (g) -/
def mS (m0 : Nat → Nat → Int32) (w g : Int32) : Nat → Nat → Int32 := rx_u (rx_u m0 398 12 w) 398 13 g
section
variable {m0 : Nat → Nat → Int32} {w g : Int32}
theorem mS_w : mS m0 w g 398 12 = w := by unfold mS; rw [rx_u_k _ _ (by decide), rx_u_same]
theorem mS_g : mS m0 w g 398 13 = g := by unfold mS; rw [rx_u_same]
theorem mS_k {k : Nat} (h1 : k ≠ 12 := by decide) (h2 : k ≠ 13 := by decide) : mS m0 w g 398 k = m0 398 k := by unfold mS; rw [rx_u_k _ _ h2, rx_u_k _ _ h1]
theorem mS_r {r : Nat} (h : r ≠ 398 := by decide) : mS m0 w g r = m0 r := by unfold mS; rw [rx_u_r _ _ h, rx_u_r _ _ h]
theorem mS_sg {g' : Int32} : rx_u (mS m0 w g) 398 13 g' = mS m0 w g' := by unfold mS; rw [rx_u_u]
theorem mS_sw {w' : Int32} : rx_u (mS m0 w g) 398 12 w' = mS m0 w' g := by
  funext r k
  by_cases hr : r = 398
  · subst hr
    by_cases h2 : k = 12
    · subst h2; rw [rx_u_same, mS_w]
    · by_cases h3 : k = 13
      · subst h3; rw [rx_u_k _ _ (by decide), mS_g, mS_g]
      · rw [rx_u_k _ _ h2, mS_k h2 h3, mS_k h2 h3]
  · rw [rx_u_r _ _ hr, mS_r hr, mS_r hr]
theorem PMs.mS {n m : Nat} {t : Nat → Int32} (h : PMs n m t m0) (w g : Int32) : PMs n m t (mS m0 w g) := by
  unfold Jvm.Pilot.CRuleTextLaw_law_r8946_0eab6c.mS
  exact (h.upd w (by decide) (by decide)).upd g (by decide) (by decide)
end
def wOK (s : Nat) (V : Int64) : Prop := (1 ≤ (rx_tx s).length ∧ (rx_tx s).length ≤ 7) ∧ (∀ i, i < (rx_tx s).length → 97 ≤ ((rx_tx s).getD i 0).toInt ∧ ((rx_tx s).getD i 0).toInt ≤ 122) ∧ V = Int64.ofNat (gE (fun i => (rx_tx s).getD i 0) 0 (rx_tx s).length)
theorem wOK.iff {s n j : Nat} {t : Nat → Int32} {V : Int64} (h : wOK s V) : spV t (tk n t j) = V ↔ isW n t j s := by
  obtain ⟨h1, h2, h3⟩ := h
  rw [h3]
  exact spV_iff h1 h2
def NmM (N : nmS) (m0 : Nat → Nat → Int32) : Prop := ∀ k, k < 48 → m0 400 k = nI (N.1 k) ∧ N.1 k ≤ 8 ∧ ∀ i, i < N.1 k → m0 401 (8 * k + i) = N.2 k i
section
variable {nx : Nat} {ct : Nat → Nat × Nat} {m0 : Nat → Nat → Int32} {ml : Nat → Nat → Int64} {mr : Nat → Nat → Option Nat} {n m : Nat} {t : Nat → Int32}
theorem sq_good {w g : Int32} (hL : LAY nx ct mr) : rx_Calls y_Mo_good M_Mo_good 0 0 0 [.ref 398] (nx, ct, mS m0 w g, ml, mr) (fun v τ => v = some (.int (bI (g = -1))) ∧ τ = (nx, ct, mS m0 w g, ml, mr)) := by
  have z := sp_Mo_good (mi := mS m0 w g) (ml := ml) hL
  rw [mS_g] at z
  exact z
theorem sq_fail {w g : Int32} (hL : LAY nx ct mr) (k : Int32) : rx_Calls y_Mo_fail M_Mo_fail 0 0 0 [.ref 398, .int k] (nx, ct, mS m0 w g, ml, mr) (fun v τ => v = none ∧ τ = (nx, ct, mS m0 w (if g = -1 then k else g), ml, mr)) := by
  have z := sp_Mo_fail (mi := mS m0 w g) (ml := ml) hL k
  rw [mS_g, mS_sg] at z
  exact z
theorem sq_took {V : Int64} {s j : Nat} (hL : LAY nx ct mr) (h : PMs n m t m0) (hV : wOK s V) (hj : j < 4000) : rx_Calls y_Mo_took M_Mo_took 2 0 0 [.ref 398, .long V] (nx, ct, mS m0 (nI j) (-1), ml, mr) (fun v τ => v = some (.int (bI (isW n t j s))) ∧ τ = (nx, ct, mS m0 (nI (cnd (isW n t j s) (j + 1) j)) (-1), ml, mr)) := by
  refine rx_enter (by decide) rfl rfl (Nat.le_of_ble_eq_true rfl) ?_
  refine ru_aload_n d_Mo_took_0 rfl rfl ?_
  refine ru_callV (mc := 0) (ms := 0) d_Mo_took_1 lm_Mo_75 (sq_good hL) (rx_recv_is (ly hL 398 9 0) kx_Mo) (by decide) rfl (Nat.le_of_ble_eq_true rfl) ?_
  intro v τ h
  obtain ⟨rfl, rfl⟩ := h
  refine ru_if_eq (tgt := 20) d_Mo_took_4 (by decide) (fun h4 => absurd h4 (bI_ne0.mpr rfl)) (fun h4 => ?_)
  replace h4 := bI_ne0.mp h4
  refine ru_aload_n d_Mo_took_7 rfl rfl ?_
  refine ru_callV (mc := 0) (ms := 0) d_Mo_took_8 lm_Mo_79 (sp_Mo_spelt hL (h.mS _ _) mS_w hj) (rx_recv_is (ly hL 398 9 0) kx_Mo) (by decide) rfl (Nat.le_of_ble_eq_true rfl) ?_
  intro v τ h
  obtain ⟨rfl, rfl⟩ := h
  refine ru_lload_n d_Mo_took_11 rfl rfl ?_
  refine ru_lcmp d_Mo_took_12 ?_
  refine ru_if_ne (tgt := 20) d_Mo_took_13 (by decide) (fun h13 => ?_) (fun h13 => ?_)
  · skip
    replace h13 := fun q => h13 ((lg_cmp_eq _ _).mpr q)
    replace h13 : ¬ isW n t j s := fun q => h13 (hV.iff.mpr q)
    rw [bI_f h13, cnd_f h13]
    refine ru_iconst (v := 0) d_Mo_took_20 (by decide) ?_
    refine ru_istore_n d_Mo_took_21 rfl (by decide) ?_
    refine ru_iload_n d_Mo_took_22 rfl rfl ?_
    refine ru_if_eq (tgt := 36) d_Mo_took_23 (by decide) (fun h23 => ?_) (fun h23 => absurd h23 (by decide))
    refine ru_iload_n d_Mo_took_36 rfl rfl ?_
    refine ru_zret (ty := .boolean) d_Mo_took_37 rfl rfl ?_
    first | exact ⟨rfl, rfl⟩ | (rw [mS_sw]; exact ⟨rfl, rfl⟩)
  · skip
    replace h13 := (lg_cmp_eq _ _).mp h13
    replace h13 := hV.iff.mp h13
    rw [bI_t h13, cnd_t h13]
    refine ru_iconst (v := 1) d_Mo_took_16 (by decide) ?_
    refine ru_goto (tgt := 21) d_Mo_took_17 (by decide) ?_
    refine ru_istore_n d_Mo_took_21 rfl (by decide) ?_
    refine ru_iload_n d_Mo_took_22 rfl rfl ?_
    refine ru_if_eq (tgt := 36) d_Mo_took_23 (by decide) (fun h23 => absurd h23 (by decide)) (fun h23 => ?_)
    refine ru_aload_n d_Mo_took_26 rfl rfl ?_
    refine ru_dup d_Mo_took_27 rfl ?_
    refine ru_getI d_Mo_took_28 lf_Mo_59 (ly hL 398 9 0) rfl ?_
    refine ru_eqi mS_w ?_
    refine ru_iconst (v := 1) d_Mo_took_31 (by decide) ?_
    refine ru_iadd d_Mo_took_32 ?_
    refine ru_eqi (nm_add j 1 : _ = nI (j + 1)) ?_
    refine ru_putI d_Mo_took_33 lf_Mo_59 (ly hL 398 9 0) rfl (fun q hq => by cases hq; exact Or.inl rfl) ⟨rfl, rfl⟩ ?_
    refine ru_iload_n d_Mo_took_36 rfl rfl ?_
    refine ru_zret (ty := .boolean) d_Mo_took_37 rfl rfl ?_
    first | exact ⟨rfl, rfl⟩ | (rw [mS_sw]; exact ⟨rfl, rfl⟩)
theorem sq_took0 {V : Int64} {w g : Int32} (hL : LAY nx ct mr) (hg : ¬ g = -1) : rx_Calls y_Mo_took M_Mo_took 2 0 0 [.ref 398, .long V] (nx, ct, mS m0 w g, ml, mr) (fun v τ => v = some (.int 0) ∧ τ = (nx, ct, mS m0 w g, ml, mr)) := by
  refine rx_enter (by decide) rfl rfl (Nat.le_of_ble_eq_true rfl) ?_
  refine ru_aload_n d_Mo_took_0 rfl rfl ?_
  refine ru_callV (mc := 0) (ms := 0) d_Mo_took_1 lm_Mo_75 (sq_good hL) (rx_recv_is (ly hL 398 9 0) kx_Mo) (by decide) rfl (Nat.le_of_ble_eq_true rfl) ?_
  intro v τ h
  obtain ⟨rfl, rfl⟩ := h
  refine ru_if_eq (tgt := 20) d_Mo_took_4 (by decide) (fun h4 => ?_) (fun h4 => absurd (bI_f hg) h4)
  replace h4 := bI_eq0.mp h4
  refine ru_iconst (v := 0) d_Mo_took_20 (by decide) ?_
  refine ru_istore_n d_Mo_took_21 rfl (by decide) ?_
  refine ru_iload_n d_Mo_took_22 rfl rfl ?_
  refine ru_if_eq (tgt := 36) d_Mo_took_23 (by decide) (fun h23 => ?_) (fun h23 => absurd h23 (by decide))
  refine ru_iload_n d_Mo_took_36 rfl rfl ?_
  refine ru_zret (ty := .boolean) d_Mo_took_37 rfl rfl ?_
  exact ⟨rfl, rfl⟩
theorem sq_expect {V : Int64} {s j : Nat} (hL : LAY nx ct mr) (h : PMs n m t m0) (hV : wOK s V) (hj : j < 4000) : rx_Calls y_Mo_expect M_Mo_expect 3 0 0 [.ref 398, .long V] (nx, ct, mS m0 (nI j) (-1), ml, mr) (fun v τ => v = none ∧ τ = (nx, ct, cnd (isW n t j s) (mS m0 (nI (j + 1)) (-1)) (mS m0 (nI j) (nI j)), ml, mr)) := by
  refine rx_enter (by decide) rfl rfl (Nat.le_of_ble_eq_true rfl) ?_
  refine ru_aload_n d_Mo_expect_0 rfl rfl ?_
  refine ru_callV (mc := 0) (ms := 0) d_Mo_expect_1 lm_Mo_75 (sq_good hL) (rx_recv_is (ly hL 398 9 0) kx_Mo) (by decide) rfl (Nat.le_of_ble_eq_true rfl) ?_
  intro v τ h
  obtain ⟨rfl, rfl⟩ := h
  refine ru_if_eq (tgt := 23) d_Mo_expect_4 (by decide) (fun h4 => absurd h4 (bI_ne0.mpr rfl)) (fun h4 => ?_)
  replace h4 := bI_ne0.mp h4
  refine ru_aload_n d_Mo_expect_7 rfl rfl ?_
  refine ru_lload_n d_Mo_expect_8 rfl rfl ?_
  refine ru_callV (mc := 0) (ms := 0) d_Mo_expect_9 lm_Mo_83 (sq_took hL h hV hj) (rx_recv_is (ly hL 398 9 0) kx_Mo) (by decide) rfl (Nat.le_of_ble_eq_true rfl) ?_
  intro v τ h
  obtain ⟨rfl, rfl⟩ := h
  refine ru_if_ne (tgt := 23) d_Mo_expect_12 (by decide) (fun h12 => ?_) (fun h12 => ?_)
  · skip
    replace h12 := bI_ne0.mp h12
    refine ru_vret d_Mo_expect_23 rfl ?_
    first | (rw [cnd_t h12, cnd_t h12]; exact ⟨rfl, rfl⟩) | (rw [cnd_f h12]; exact ⟨rfl, rfl⟩)
  · skip
    replace h12 := bI_eq0.mp h12
    rw [cnd_f h12]
    refine ru_aload_n d_Mo_expect_15 rfl rfl ?_
    refine ru_aload_n d_Mo_expect_16 rfl rfl ?_
    refine ru_getI d_Mo_expect_17 lf_Mo_59 (ly hL 398 9 0) rfl ?_
    refine ru_eqi mS_w ?_
    refine ru_callV (mc := 0) (ms := 0) d_Mo_expect_20 lm_Mo_87 (sq_fail hL _) (rx_recv_is (ly hL 398 9 0) kx_Mo) (by decide) rfl (Nat.le_of_ble_eq_true rfl) ?_
    intro v τ h
    obtain ⟨rfl, rfl⟩ := h
    refine ru_vret d_Mo_expect_23 rfl ?_
    first | (rw [cnd_t h12, cnd_t h12]; exact ⟨rfl, rfl⟩) | (rw [cnd_f h12]; exact ⟨rfl, rfl⟩)
theorem sq_expect0 {V : Int64} {w g : Int32} (hL : LAY nx ct mr) (hg : ¬ g = -1) : rx_Calls y_Mo_expect M_Mo_expect 3 0 0 [.ref 398, .long V] (nx, ct, mS m0 w g, ml, mr) (fun v τ => v = none ∧ τ = (nx, ct, mS m0 w g, ml, mr)) := by
  refine rx_enter (by decide) rfl rfl (Nat.le_of_ble_eq_true rfl) ?_
  refine ru_aload_n d_Mo_expect_0 rfl rfl ?_
  refine ru_callV (mc := 0) (ms := 0) d_Mo_expect_1 lm_Mo_75 (sq_good hL) (rx_recv_is (ly hL 398 9 0) kx_Mo) (by decide) rfl (Nat.le_of_ble_eq_true rfl) ?_
  intro v τ h
  obtain ⟨rfl, rfl⟩ := h
  refine ru_if_eq (tgt := 23) d_Mo_expect_4 (by decide) (fun h4 => ?_) (fun h4 => absurd (bI_f hg) h4)
  replace h4 := bI_eq0.mp h4
  refine ru_vret d_Mo_expect_23 rfl ?_
  exact ⟨rfl, rfl⟩
end
end
section
/-! The reference reads: names, small numbers, the end of a sentence -/
theorem d_Mo_isSemicolon_0 : decode M_Mo_isSemicolon.2.1 0 = .ok (.aload_n 0, 1) := by decide +kernel
theorem d_Mo_isSemicolon_1 : decode M_Mo_isSemicolon.2.1 1 = .ok (.invokevirtual 62, 3) := by decide +kernel
theorem d_Mo_isSemicolon_4 : decode M_Mo_isSemicolon.2.1 4 = .ok (.iconst 1, 1) := by decide +kernel
theorem d_Mo_isSemicolon_5 : decode M_Mo_isSemicolon.2.1 5 = .ok (.if_icmp .ne 26, 3) := by decide +kernel
theorem d_Mo_isSemicolon_8 : decode M_Mo_isSemicolon.2.1 8 = .ok (.aload_n 0, 1) := by decide +kernel
theorem d_Mo_isSemicolon_9 : decode M_Mo_isSemicolon.2.1 9 = .ok (.getfield 7, 3) := by decide +kernel
theorem d_Mo_isSemicolon_12 : decode M_Mo_isSemicolon.2.1 12 = .ok (.aload_n 0, 1) := by decide +kernel
theorem d_Mo_isSemicolon_13 : decode M_Mo_isSemicolon.2.1 13 = .ok (.getfield 30, 3) := by decide +kernel
theorem d_Mo_isSemicolon_16 : decode M_Mo_isSemicolon.2.1 16 = .ok (.aload_n 0, 1) := by decide +kernel
theorem d_Mo_isSemicolon_17 : decode M_Mo_isSemicolon.2.1 17 = .ok (.getfield 59, 3) := by decide +kernel
theorem d_Mo_isSemicolon_20 : decode M_Mo_isSemicolon.2.1 20 = .ok (.iaload, 1) := by decide +kernel
theorem d_Mo_isSemicolon_21 : decode M_Mo_isSemicolon.2.1 21 = .ok (.iaload, 1) := by decide +kernel
theorem d_Mo_isSemicolon_22 : decode M_Mo_isSemicolon.2.1 22 = .ok (.bipush 59, 2) := by decide +kernel
theorem d_Mo_isSemicolon_24 : decode M_Mo_isSemicolon.2.1 24 = .ok (.if_icmp .ne 7, 3) := by decide +kernel
theorem d_Mo_isSemicolon_27 : decode M_Mo_isSemicolon.2.1 27 = .ok (.iconst 1, 1) := by decide +kernel
theorem d_Mo_isSemicolon_28 : decode M_Mo_isSemicolon.2.1 28 = .ok (.goto 4, 3) := by decide +kernel
theorem d_Mo_isSemicolon_31 : decode M_Mo_isSemicolon.2.1 31 = .ok (.iconst 0, 1) := by decide +kernel
theorem d_Mo_isSemicolon_32 : decode M_Mo_isSemicolon.2.1 32 = .ok (.ireturn, 1) := by decide +kernel
theorem d_Mo_named_0 : decode M_Mo_named.2.1 0 = .ok (.aload_n 0, 1) := by decide +kernel
theorem d_Mo_named_1 : decode M_Mo_named.2.1 1 = .ok (.invokevirtual 75, 3) := by decide +kernel
theorem d_Mo_named_4 : decode M_Mo_named.2.1 4 = .ok (.ifCond .ne 5, 3) := by decide +kernel
theorem d_Mo_named_7 : decode M_Mo_named.2.1 7 = .ok (.iconst 0, 1) := by decide +kernel
theorem d_Mo_named_8 : decode M_Mo_named.2.1 8 = .ok (.ireturn, 1) := by decide +kernel
theorem d_Mo_named_9 : decode M_Mo_named.2.1 9 = .ok (.bipush 16, 2) := by decide +kernel
theorem d_Mo_named_11 : decode M_Mo_named.2.1 11 = .ok (.iload_n 1, 1) := by decide +kernel
theorem d_Mo_named_12 : decode M_Mo_named.2.1 12 = .ok (.imul, 1) := by decide +kernel
theorem d_Mo_named_13 : decode M_Mo_named.2.1 13 = .ok (.istore_n 2, 1) := by decide +kernel
theorem d_Mo_named_14 : decode M_Mo_named.2.1 14 = .ok (.iload_n 2, 1) := by decide +kernel
theorem d_Mo_named_15 : decode M_Mo_named.2.1 15 = .ok (.bipush 16, 2) := by decide +kernel
theorem d_Mo_named_17 : decode M_Mo_named.2.1 17 = .ok (.iload_n 1, 1) := by decide +kernel
theorem d_Mo_named_18 : decode M_Mo_named.2.1 18 = .ok (.imul, 1) := by decide +kernel
theorem d_Mo_named_19 : decode M_Mo_named.2.1 19 = .ok (.bipush 16, 2) := by decide +kernel
theorem d_Mo_named_21 : decode M_Mo_named.2.1 21 = .ok (.iadd, 1) := by decide +kernel
theorem d_Mo_named_22 : decode M_Mo_named.2.1 22 = .ok (.if_icmp .ge 120, 3) := by decide +kernel
theorem d_Mo_named_25 : decode M_Mo_named.2.1 25 = .ok (.aload_n 0, 1) := by decide +kernel
theorem d_Mo_named_26 : decode M_Mo_named.2.1 26 = .ok (.getfield 13, 3) := by decide +kernel
theorem d_Mo_named_29 : decode M_Mo_named.2.1 29 = .ok (.iload_n 2, 1) := by decide +kernel
theorem d_Mo_named_30 : decode M_Mo_named.2.1 30 = .ok (.iaload, 1) := by decide +kernel
theorem d_Mo_named_31 : decode M_Mo_named.2.1 31 = .ok (.ifCond .le 20, 3) := by decide +kernel
theorem d_Mo_named_34 : decode M_Mo_named.2.1 34 = .ok (.aload_n 0, 1) := by decide +kernel
theorem d_Mo_named_35 : decode M_Mo_named.2.1 35 = .ok (.getfield 13, 3) := by decide +kernel
theorem d_Mo_named_38 : decode M_Mo_named.2.1 38 = .ok (.iload_n 2, 1) := by decide +kernel
theorem d_Mo_named_39 : decode M_Mo_named.2.1 39 = .ok (.iaload, 1) := by decide +kernel
theorem d_Mo_named_40 : decode M_Mo_named.2.1 40 = .ok (.aload_n 0, 1) := by decide +kernel
theorem d_Mo_named_41 : decode M_Mo_named.2.1 41 = .ok (.invokevirtual 62, 3) := by decide +kernel
theorem d_Mo_named_44 : decode M_Mo_named.2.1 44 = .ok (.if_icmp .ne 7, 3) := by decide +kernel
theorem d_Mo_named_47 : decode M_Mo_named.2.1 47 = .ok (.iconst 1, 1) := by decide +kernel
theorem d_Mo_named_48 : decode M_Mo_named.2.1 48 = .ok (.goto 4, 3) := by decide +kernel
theorem d_Mo_named_51 : decode M_Mo_named.2.1 51 = .ok (.iconst 0, 1) := by decide +kernel
theorem d_Mo_named_52 : decode M_Mo_named.2.1 52 = .ok (.istore_n 3, 1) := by decide +kernel
theorem d_Mo_named_53 : decode M_Mo_named.2.1 53 = .ok (.iconst 0, 1) := by decide +kernel
theorem d_Mo_named_54 : decode M_Mo_named.2.1 54 = .ok (.istore 4, 2) := by decide +kernel
theorem d_Mo_named_56 : decode M_Mo_named.2.1 56 = .ok (.iload 4, 2) := by decide +kernel
theorem d_Mo_named_58 : decode M_Mo_named.2.1 58 = .ok (.aload_n 0, 1) := by decide +kernel
theorem d_Mo_named_59 : decode M_Mo_named.2.1 59 = .ok (.getfield 13, 3) := by decide +kernel
theorem d_Mo_named_62 : decode M_Mo_named.2.1 62 = .ok (.iload_n 2, 1) := by decide +kernel
theorem d_Mo_named_63 : decode M_Mo_named.2.1 63 = .ok (.iaload, 1) := by decide +kernel
theorem d_Mo_named_64 : decode M_Mo_named.2.1 64 = .ok (.if_icmp .ge 51, 3) := by decide +kernel
theorem d_Mo_named_67 : decode M_Mo_named.2.1 67 = .ok (.iload_n 3, 1) := by decide +kernel
theorem d_Mo_named_68 : decode M_Mo_named.2.1 68 = .ok (.ifCond .eq 47, 3) := by decide +kernel
theorem d_Mo_named_71 : decode M_Mo_named.2.1 71 = .ok (.aload_n 0, 1) := by decide +kernel
theorem d_Mo_named_72 : decode M_Mo_named.2.1 72 = .ok (.getfield 16, 3) := by decide +kernel
theorem d_Mo_named_75 : decode M_Mo_named.2.1 75 = .ok (.bipush 8, 2) := by decide +kernel
theorem d_Mo_named_77 : decode M_Mo_named.2.1 77 = .ok (.iload_n 2, 1) := by decide +kernel
theorem d_Mo_named_78 : decode M_Mo_named.2.1 78 = .ok (.imul, 1) := by decide +kernel
theorem d_Mo_named_79 : decode M_Mo_named.2.1 79 = .ok (.iload 4, 2) := by decide +kernel
theorem d_Mo_named_81 : decode M_Mo_named.2.1 81 = .ok (.iadd, 1) := by decide +kernel
theorem d_Mo_named_82 : decode M_Mo_named.2.1 82 = .ok (.iaload, 1) := by decide +kernel
theorem d_Mo_named_83 : decode M_Mo_named.2.1 83 = .ok (.aload_n 0, 1) := by decide +kernel
theorem d_Mo_named_84 : decode M_Mo_named.2.1 84 = .ok (.getfield 7, 3) := by decide +kernel
theorem d_Mo_named_87 : decode M_Mo_named.2.1 87 = .ok (.aload_n 0, 1) := by decide +kernel
theorem d_Mo_named_88 : decode M_Mo_named.2.1 88 = .ok (.getfield 30, 3) := by decide +kernel
theorem d_Mo_named_91 : decode M_Mo_named.2.1 91 = .ok (.aload_n 0, 1) := by decide +kernel
theorem d_Mo_named_92 : decode M_Mo_named.2.1 92 = .ok (.getfield 59, 3) := by decide +kernel
theorem d_Mo_named_95 : decode M_Mo_named.2.1 95 = .ok (.iaload, 1) := by decide +kernel
theorem d_Mo_named_96 : decode M_Mo_named.2.1 96 = .ok (.iload 4, 2) := by decide +kernel
theorem d_Mo_named_98 : decode M_Mo_named.2.1 98 = .ok (.iadd, 1) := by decide +kernel
theorem d_Mo_named_99 : decode M_Mo_named.2.1 99 = .ok (.iaload, 1) := by decide +kernel
theorem d_Mo_named_100 : decode M_Mo_named.2.1 100 = .ok (.if_icmp .ne 7, 3) := by decide +kernel
theorem d_Mo_named_103 : decode M_Mo_named.2.1 103 = .ok (.iconst 1, 1) := by decide +kernel
theorem d_Mo_named_104 : decode M_Mo_named.2.1 104 = .ok (.goto 4, 3) := by decide +kernel
theorem d_Mo_named_107 : decode M_Mo_named.2.1 107 = .ok (.iconst 0, 1) := by decide +kernel
theorem d_Mo_named_108 : decode M_Mo_named.2.1 108 = .ok (.istore_n 3, 1) := by decide +kernel
theorem d_Mo_named_109 : decode M_Mo_named.2.1 109 = .ok (.iinc 4 1, 3) := by decide +kernel
theorem d_Mo_named_112 : decode M_Mo_named.2.1 112 = .ok (.goto (-56), 3) := by decide +kernel
theorem d_Mo_named_115 : decode M_Mo_named.2.1 115 = .ok (.iload_n 3, 1) := by decide +kernel
theorem d_Mo_named_116 : decode M_Mo_named.2.1 116 = .ok (.ifCond .eq 20, 3) := by decide +kernel
theorem d_Mo_named_119 : decode M_Mo_named.2.1 119 = .ok (.aload_n 0, 1) := by decide +kernel
theorem d_Mo_named_120 : decode M_Mo_named.2.1 120 = .ok (.dup, 1) := by decide +kernel
theorem d_Mo_named_121 : decode M_Mo_named.2.1 121 = .ok (.getfield 59, 3) := by decide +kernel
theorem d_Mo_named_124 : decode M_Mo_named.2.1 124 = .ok (.iconst 1, 1) := by decide +kernel
theorem d_Mo_named_125 : decode M_Mo_named.2.1 125 = .ok (.iadd, 1) := by decide +kernel
theorem d_Mo_named_126 : decode M_Mo_named.2.1 126 = .ok (.putfield 59, 3) := by decide +kernel
theorem d_Mo_named_129 : decode M_Mo_named.2.1 129 = .ok (.iload_n 2, 1) := by decide +kernel
theorem d_Mo_named_130 : decode M_Mo_named.2.1 130 = .ok (.bipush 16, 2) := by decide +kernel
theorem d_Mo_named_132 : decode M_Mo_named.2.1 132 = .ok (.iload_n 1, 1) := by decide +kernel
theorem d_Mo_named_133 : decode M_Mo_named.2.1 133 = .ok (.imul, 1) := by decide +kernel
theorem d_Mo_named_134 : decode M_Mo_named.2.1 134 = .ok (.isub, 1) := by decide +kernel
theorem d_Mo_named_135 : decode M_Mo_named.2.1 135 = .ok (.ireturn, 1) := by decide +kernel
theorem d_Mo_named_136 : decode M_Mo_named.2.1 136 = .ok (.iinc 2 1, 3) := by decide +kernel
theorem d_Mo_named_139 : decode M_Mo_named.2.1 139 = .ok (.goto (-125), 3) := by decide +kernel
theorem d_Mo_named_142 : decode M_Mo_named.2.1 142 = .ok (.aload_n 0, 1) := by decide +kernel
theorem d_Mo_named_143 : decode M_Mo_named.2.1 143 = .ok (.aload_n 0, 1) := by decide +kernel
theorem d_Mo_named_144 : decode M_Mo_named.2.1 144 = .ok (.getfield 59, 3) := by decide +kernel
theorem d_Mo_named_147 : decode M_Mo_named.2.1 147 = .ok (.invokevirtual 87, 3) := by decide +kernel
theorem d_Mo_named_150 : decode M_Mo_named.2.1 150 = .ok (.iconst 0, 1) := by decide +kernel
theorem d_Mo_named_151 : decode M_Mo_named.2.1 151 = .ok (.ireturn, 1) := by decide +kernel
theorem d_Mo_small_0 : decode M_Mo_small.2.1 0 = .ok (.iconst 0, 1) := by decide +kernel
theorem d_Mo_small_1 : decode M_Mo_small.2.1 1 = .ok (.istore_n 3, 1) := by decide +kernel
theorem d_Mo_small_2 : decode M_Mo_small.2.1 2 = .ok (.aload_n 0, 1) := by decide +kernel
theorem d_Mo_small_3 : decode M_Mo_small.2.1 3 = .ok (.invokevirtual 75, 3) := by decide +kernel
theorem d_Mo_small_6 : decode M_Mo_small.2.1 6 = .ok (.ifCond .eq 22, 3) := by decide +kernel
theorem d_Mo_small_9 : decode M_Mo_small.2.1 9 = .ok (.aload_n 0, 1) := by decide +kernel
theorem d_Mo_small_10 : decode M_Mo_small.2.1 10 = .ok (.invokevirtual 62, 3) := by decide +kernel
theorem d_Mo_small_13 : decode M_Mo_small.2.1 13 = .ok (.ifCond .le 15, 3) := by decide +kernel
theorem d_Mo_small_16 : decode M_Mo_small.2.1 16 = .ok (.aload_n 0, 1) := by decide +kernel
theorem d_Mo_small_17 : decode M_Mo_small.2.1 17 = .ok (.invokevirtual 62, 3) := by decide +kernel
theorem d_Mo_small_20 : decode M_Mo_small.2.1 20 = .ok (.iconst 3, 1) := by decide +kernel
theorem d_Mo_small_21 : decode M_Mo_small.2.1 21 = .ok (.if_icmp .ge 7, 3) := by decide +kernel
theorem d_Mo_small_24 : decode M_Mo_small.2.1 24 = .ok (.iconst 1, 1) := by decide +kernel
theorem d_Mo_small_25 : decode M_Mo_small.2.1 25 = .ok (.goto 4, 3) := by decide +kernel
theorem d_Mo_small_28 : decode M_Mo_small.2.1 28 = .ok (.iconst 0, 1) := by decide +kernel
theorem d_Mo_small_29 : decode M_Mo_small.2.1 29 = .ok (.istore 4, 2) := by decide +kernel
theorem d_Mo_small_31 : decode M_Mo_small.2.1 31 = .ok (.iconst 0, 1) := by decide +kernel
theorem d_Mo_small_32 : decode M_Mo_small.2.1 32 = .ok (.istore 5, 2) := by decide +kernel
theorem d_Mo_small_34 : decode M_Mo_small.2.1 34 = .ok (.iload 5, 2) := by decide +kernel
theorem d_Mo_small_36 : decode M_Mo_small.2.1 36 = .ok (.aload_n 0, 1) := by decide +kernel
theorem d_Mo_small_37 : decode M_Mo_small.2.1 37 = .ok (.invokevirtual 62, 3) := by decide +kernel
theorem d_Mo_small_40 : decode M_Mo_small.2.1 40 = .ok (.if_icmp .ge 62, 3) := by decide +kernel
theorem d_Mo_small_43 : decode M_Mo_small.2.1 43 = .ok (.iload 4, 2) := by decide +kernel
theorem d_Mo_small_45 : decode M_Mo_small.2.1 45 = .ok (.ifCond .eq 57, 3) := by decide +kernel
theorem d_Mo_small_48 : decode M_Mo_small.2.1 48 = .ok (.aload_n 0, 1) := by decide +kernel
theorem d_Mo_small_49 : decode M_Mo_small.2.1 49 = .ok (.getfield 7, 3) := by decide +kernel
theorem d_Mo_small_52 : decode M_Mo_small.2.1 52 = .ok (.aload_n 0, 1) := by decide +kernel
theorem d_Mo_small_53 : decode M_Mo_small.2.1 53 = .ok (.getfield 30, 3) := by decide +kernel
theorem d_Mo_small_56 : decode M_Mo_small.2.1 56 = .ok (.aload_n 0, 1) := by decide +kernel
theorem d_Mo_small_57 : decode M_Mo_small.2.1 57 = .ok (.getfield 59, 3) := by decide +kernel
theorem d_Mo_small_60 : decode M_Mo_small.2.1 60 = .ok (.iaload, 1) := by decide +kernel
theorem d_Mo_small_61 : decode M_Mo_small.2.1 61 = .ok (.iload 5, 2) := by decide +kernel
theorem d_Mo_small_63 : decode M_Mo_small.2.1 63 = .ok (.iadd, 1) := by decide +kernel
theorem d_Mo_small_64 : decode M_Mo_small.2.1 64 = .ok (.iaload, 1) := by decide +kernel
theorem d_Mo_small_65 : decode M_Mo_small.2.1 65 = .ok (.invokestatic 47, 3) := by decide +kernel
theorem d_Mo_small_68 : decode M_Mo_small.2.1 68 = .ok (.istore 4, 2) := by decide +kernel
theorem d_Mo_small_70 : decode M_Mo_small.2.1 70 = .ok (.bipush 10, 2) := by decide +kernel
theorem d_Mo_small_72 : decode M_Mo_small.2.1 72 = .ok (.iload_n 3, 1) := by decide +kernel
theorem d_Mo_small_73 : decode M_Mo_small.2.1 73 = .ok (.imul, 1) := by decide +kernel
theorem d_Mo_small_74 : decode M_Mo_small.2.1 74 = .ok (.aload_n 0, 1) := by decide +kernel
theorem d_Mo_small_75 : decode M_Mo_small.2.1 75 = .ok (.getfield 7, 3) := by decide +kernel
theorem d_Mo_small_78 : decode M_Mo_small.2.1 78 = .ok (.aload_n 0, 1) := by decide +kernel
theorem d_Mo_small_79 : decode M_Mo_small.2.1 79 = .ok (.getfield 30, 3) := by decide +kernel
theorem d_Mo_small_82 : decode M_Mo_small.2.1 82 = .ok (.aload_n 0, 1) := by decide +kernel
theorem d_Mo_small_83 : decode M_Mo_small.2.1 83 = .ok (.getfield 59, 3) := by decide +kernel
theorem d_Mo_small_86 : decode M_Mo_small.2.1 86 = .ok (.iaload, 1) := by decide +kernel
theorem d_Mo_small_87 : decode M_Mo_small.2.1 87 = .ok (.iload 5, 2) := by decide +kernel
theorem d_Mo_small_89 : decode M_Mo_small.2.1 89 = .ok (.iadd, 1) := by decide +kernel
theorem d_Mo_small_90 : decode M_Mo_small.2.1 90 = .ok (.iaload, 1) := by decide +kernel
theorem d_Mo_small_91 : decode M_Mo_small.2.1 91 = .ok (.iadd, 1) := by decide +kernel
theorem d_Mo_small_92 : decode M_Mo_small.2.1 92 = .ok (.bipush 48, 2) := by decide +kernel
theorem d_Mo_small_94 : decode M_Mo_small.2.1 94 = .ok (.isub, 1) := by decide +kernel
theorem d_Mo_small_95 : decode M_Mo_small.2.1 95 = .ok (.istore_n 3, 1) := by decide +kernel
theorem d_Mo_small_96 : decode M_Mo_small.2.1 96 = .ok (.iinc 5 1, 3) := by decide +kernel
theorem d_Mo_small_99 : decode M_Mo_small.2.1 99 = .ok (.goto (-65), 3) := by decide +kernel
theorem d_Mo_small_102 : decode M_Mo_small.2.1 102 = .ok (.iload 4, 2) := by decide +kernel
theorem d_Mo_small_104 : decode M_Mo_small.2.1 104 = .ok (.ifCond .eq 13, 3) := by decide +kernel
theorem d_Mo_small_107 : decode M_Mo_small.2.1 107 = .ok (.iload_n 3, 1) := by decide +kernel
theorem d_Mo_small_108 : decode M_Mo_small.2.1 108 = .ok (.iload_n 1, 1) := by decide +kernel
theorem d_Mo_small_109 : decode M_Mo_small.2.1 109 = .ok (.if_icmp .lt 8, 3) := by decide +kernel
theorem d_Mo_small_112 : decode M_Mo_small.2.1 112 = .ok (.iload_n 3, 1) := by decide +kernel
theorem d_Mo_small_113 : decode M_Mo_small.2.1 113 = .ok (.iload_n 2, 1) := by decide +kernel
theorem d_Mo_small_114 : decode M_Mo_small.2.1 114 = .ok (.if_icmp .le 11, 3) := by decide +kernel
theorem d_Mo_small_117 : decode M_Mo_small.2.1 117 = .ok (.aload_n 0, 1) := by decide +kernel
theorem d_Mo_small_118 : decode M_Mo_small.2.1 118 = .ok (.aload_n 0, 1) := by decide +kernel
theorem d_Mo_small_119 : decode M_Mo_small.2.1 119 = .ok (.getfield 59, 3) := by decide +kernel
theorem d_Mo_small_122 : decode M_Mo_small.2.1 122 = .ok (.invokevirtual 87, 3) := by decide +kernel
theorem d_Mo_small_125 : decode M_Mo_small.2.1 125 = .ok (.aload_n 0, 1) := by decide +kernel
theorem d_Mo_small_126 : decode M_Mo_small.2.1 126 = .ok (.dup, 1) := by decide +kernel
theorem d_Mo_small_127 : decode M_Mo_small.2.1 127 = .ok (.getfield 59, 3) := by decide +kernel
theorem d_Mo_small_130 : decode M_Mo_small.2.1 130 = .ok (.iconst 1, 1) := by decide +kernel
theorem d_Mo_small_131 : decode M_Mo_small.2.1 131 = .ok (.iadd, 1) := by decide +kernel
theorem d_Mo_small_132 : decode M_Mo_small.2.1 132 = .ok (.putfield 59, 3) := by decide +kernel
theorem d_Mo_small_135 : decode M_Mo_small.2.1 135 = .ok (.iload_n 3, 1) := by decide +kernel
theorem d_Mo_small_136 : decode M_Mo_small.2.1 136 = .ok (.ireturn, 1) := by decide +kernel
section
variable {nx : Nat} {ct : Nat → Nat × Nat} {m0 : Nat → Nat → Int32} {ml : Nat → Nat → Int64} {mr : Nat → Nat → Option Nat} {n m : Nat} {t : Nat → Int32}
theorem PMs.in_ {j : Nat} (h : PMs n m t m0) (hj : 0 < tlen n t j) : j < m := Nat.lt_of_not_le fun z => by
  unfold tlen at hj
  rw [tk_end h.2.2.2.2.2.2.2 j z] at hj
  omega
theorem tlen_le {j : Nat} : (tk n t j).1 + tlen n t j = (tk n t j).2 ∧ (tk n t j).2 ≤ n := by
  have := tk_le (n := n) (t := t) j
  unfold tlen
  omega
theorem sq_named {N : nmS} {a j : Nat} (hL : LAY nx ct mr) (h : PMs n m t m0) (hN : NmM N m0) (ha : a < 3) (hj : j < 4000) : rx_Calls y_Mo_named M_Mo_named 1 0 0 [.ref 398, .int (nI a)] (nx, ct, mS m0 (nI j) (-1), ml, mr) (fun v τ => v = some (.int (nI ((fnd N n t j a).getD 0))) ∧ τ = (nx, ct, (match fnd N n t j a with | some _ => mS m0 (nI (j + 1)) (-1) | none => mS m0 (nI j) (nI j)), ml, mr)) := by
  refine rx_enter (by decide) rfl rfl (Nat.le_of_ble_eq_true rfl) ?_
  have hlen := sp_Mo_length (ml := ml) hL (h.mS (nI j) (-1)) mS_w hj
  have hle := tlen_le (n := n) (t := t) (j := j)
  have hn := h.2.2.1
  have ht := h.2.1
  generalize hp : (fun (v : Option Value) (τ : rx_S) => v = some (.int (nI ((fnd N n t j a).getD 0))) ∧ τ = (nx, ct, (match fnd N n t j a with | some _ => mS m0 (nI (j + 1)) (-1) | none => mS m0 (nI j) (nI j)), ml, mr)) = post
  have zero : ∀ k i f, k < 48 → i ≤ N.1 k → f = N.1 k - i → ¬ nmd N n t j k → (∀ g : Int32, g = bI (nmd N n t j k) → rx_W M_Mo_named 1 0 0 115 [(0, .ref 398), (1, .int (nI a)), (2, .int (nI k)), (3, .int g)] [] (nx, ct, mS m0 (nI j) (-1), ml, mr) (pR post)) → rx_W M_Mo_named 1 0 0 56 [(0, .ref 398), (1, .int (nI a)), (2, .int (nI k)), (3, .int 0), (4, .int (nI i))] [] (nx, ct, mS m0 (nI j) (-1), ml, mr) (pR post) := by
    intro k i f hk hi hf hz K
    obtain ⟨n1, n2, n3⟩ := hN k hk
    have n1' : mS m0 (nI j) (-1) 400 k = nI (N.1 k) := by rw [mS_r]; exact n1
    refine ru_iload d_Mo_named_56 rfl ?_
    refine ru_aload_n d_Mo_named_58 rfl rfl ?_
    refine ru_getR d_Mo_named_59 lf_Mo_13 (ly hL 398 9 0) rfl (lr hL 398 3 400) ?_
    refine ru_iload_n d_Mo_named_62 rfl rfl ?_
    refine ru_ialdN (j := k) d_Mo_named_63 (ly hL 400 100 48) (by omega) (by decide) ?_
    refine ru_eqi n1' ?_
    refine ru_icmp_ge (tgt := 115) d_Mo_named_64 (by decide) (fun h64 => ?_) (fun h64 => ?_)
    · skip
      replace h64 := nm_le (a := (N.1 k)) (b := i) (by omega) (by omega) h64
      exact ru_to (K _ (bI_f hz).symm) ⟨rfl, rfl, rfl, rfl, trivial⟩
    · skip
      replace h64 := nm_nle (a := (N.1 k)) (b := i) (by omega) (by omega) h64
      refine ru_iload_n d_Mo_named_67 rfl rfl ?_
      refine ru_if_eq (tgt := 115) d_Mo_named_68 (by decide) (fun h68 => ?_) (fun h68 => absurd h68 (by decide))
      exact ru_to (K _ (bI_f hz).symm) ⟨rfl, rfl, rfl, rfl, trivial⟩
  have inner : ∀ k, k < 48 → (0 < N.1 k ∧ N.1 k = tlen n t j) → (∀ g : Int32, g = bI (nmd N n t j k) → rx_W M_Mo_named 1 0 0 115 [(0, .ref 398), (1, .int (nI a)), (2, .int (nI k)), (3, .int g)] [] (nx, ct, mS m0 (nI j) (-1), ml, mr) (pR post)) → ∀ f i, i ≤ N.1 k → f = N.1 k - i → (∀ x, x < i → N.2 k x = t ((tk n t j).1 + x)) → rx_W M_Mo_named 1 0 0 56 [(0, .ref 398), (1, .int (nI a)), (2, .int (nI k)), (3, .int 1), (4, .int (nI i))] [] (nx, ct, mS m0 (nI j) (-1), ml, mr) (pR post) := by
    intro k hk hw K f
    obtain ⟨n1, n2, n3⟩ := hN k hk
    have n1' : mS m0 (nI j) (-1) 400 k = nI (N.1 k) := by rw [mS_r]; exact n1
    have hjm : j < m := h.in_ (by omega)
    have hmn := h.2.2.2.2.2.1
    have a7 := h.2.2.2.2.2.2.1 j hjm
    have a7' : mS m0 (nI j) (-1) 405 j = nI (tk n t j).1 := by rw [mS_r]; exact a7.1
    induction f with
    | zero =>
      intro i hi hf hx
      refine ru_iload d_Mo_named_56 rfl ?_
      refine ru_aload_n d_Mo_named_58 rfl rfl ?_
      refine ru_getR d_Mo_named_59 lf_Mo_13 (ly hL 398 9 0) rfl (lr hL 398 3 400) ?_
      refine ru_iload_n d_Mo_named_62 rfl rfl ?_
      refine ru_ialdN (j := k) d_Mo_named_63 (ly hL 400 100 48) (by omega) (by decide) ?_
      refine ru_eqi n1' ?_
      refine ru_icmp_ge (tgt := 115) d_Mo_named_64 (by decide) (fun h64 => ?_) (fun h64 => absurd (nI_le (by omega) (by omega)) h64)
      replace h64 := nm_le (a := (N.1 k)) (b := i) (by omega) (by omega) h64
      exact ru_to (K _ (bI_t ⟨hw, fun x hx2 => hx x (by omega)⟩).symm) ⟨rfl, rfl, rfl, rfl, trivial⟩
    | succ f ih =>
      intro i hi hf hx
      refine ru_iload d_Mo_named_56 rfl ?_
      refine ru_aload_n d_Mo_named_58 rfl rfl ?_
      refine ru_getR d_Mo_named_59 lf_Mo_13 (ly hL 398 9 0) rfl (lr hL 398 3 400) ?_
      refine ru_iload_n d_Mo_named_62 rfl rfl ?_
      refine ru_ialdN (j := k) d_Mo_named_63 (ly hL 400 100 48) (by omega) (by decide) ?_
      refine ru_eqi n1' ?_
      refine ru_icmp_ge (tgt := 115) d_Mo_named_64 (by decide) (fun h64 => absurd h64 (nI_ge (by omega) (by omega))) (fun h64 => ?_)
      replace h64 := nm_nle (a := (N.1 k)) (b := i) (by omega) (by omega) h64
      refine ru_iload_n d_Mo_named_67 rfl rfl ?_
      refine ru_if_eq (tgt := 115) d_Mo_named_68 (by decide) (fun h68 => absurd h68 (by decide)) (fun h68 => ?_)
      refine ru_aload_n d_Mo_named_71 rfl rfl ?_
      refine ru_getR d_Mo_named_72 lf_Mo_16 (ly hL 398 9 0) rfl (lr hL 398 4 401) ?_
      refine ru_bipush (v := 8) d_Mo_named_75 (by decide) ?_
      refine ru_iload_n d_Mo_named_77 rfl rfl ?_
      refine ru_imul d_Mo_named_78 ?_
      refine ru_eqi (nm_mul 8 k : _ = nI (8 * k)) ?_
      refine ru_iload d_Mo_named_79 rfl ?_
      refine ru_iadd d_Mo_named_81 ?_
      refine ru_eqi (nm_add (8 * k) i : _ = nI ((8 * k) + i)) ?_
      refine ru_ialdN (j := ((8 * k) + i)) d_Mo_named_82 (ly hL 401 100 384) (by omega) (by decide) ?_
      refine ru_eqi (show _ = N.2 k i by rw [mS_r]; exact n3 i (by omega)) ?_
      refine ru_aload_n d_Mo_named_83 rfl rfl ?_
      refine ru_getR d_Mo_named_84 lf_Mo_7 (ly hL 398 9 0) rfl (lr hL 398 1 399) ?_
      refine ru_aload_n d_Mo_named_87 rfl rfl ?_
      refine ru_getR d_Mo_named_88 lf_Mo_30 (ly hL 398 9 0) rfl (lr hL 398 10 405) ?_
      refine ru_aload_n d_Mo_named_91 rfl rfl ?_
      refine ru_getI d_Mo_named_92 lf_Mo_59 (ly hL 398 9 0) rfl ?_
      refine ru_eqi mS_w ?_
      refine ru_ialdN (j := j) d_Mo_named_95 (ly hL 405 100 3001) (by omega) (by decide) ?_
      refine ru_eqi a7' ?_
      refine ru_iload d_Mo_named_96 rfl ?_
      refine ru_iadd d_Mo_named_98 ?_
      refine ru_eqi (nm_add (tk n t j).1 i : _ = nI ((tk n t j).1 + i)) ?_
      refine ru_ialdN (j := ((tk n t j).1 + i)) d_Mo_named_99 (ly hL 399 100 3000) (by omega) (by decide) ?_
      refine ru_eqi (show _ = t ((tk n t j).1 + i) by rw [mS_r, ht]) ?_
      refine ru_icmp_ne (tgt := 107) d_Mo_named_100 (by decide) (fun h100 => ?_) (fun h100 => ?_)
      · skip
        refine ru_iconst (v := 0) d_Mo_named_107 (by decide) ?_
        refine ru_istore_n d_Mo_named_108 rfl (by decide) ?_
        refine ru_iinc (v := nI (i + 1)) d_Mo_named_109 rfl (nm_inc _ 1) (by decide) ?_
        refine ru_goto (tgt := 56) d_Mo_named_112 (by decide) ?_
        first | exact ru_to (ih (i + 1) (by omega) (by omega) (fun x hx2 => by by_cases e : x = i; (subst e; exact h100); exact hx x (by omega))) ⟨rfl, rfl, rfl, rfl, rfl, trivial⟩ | exact ru_to (zero k (i + 1) _ hk (by omega) rfl (fun z => h100 (z.2 i (by omega))) K) ⟨rfl, rfl, rfl, rfl, rfl, trivial⟩
      · skip
        refine ru_iconst (v := 1) d_Mo_named_103 (by decide) ?_
        refine ru_goto (tgt := 108) d_Mo_named_104 (by decide) ?_
        refine ru_istore_n d_Mo_named_108 rfl (by decide) ?_
        refine ru_iinc (v := nI (i + 1)) d_Mo_named_109 rfl (nm_inc _ 1) (by decide) ?_
        refine ru_goto (tgt := 56) d_Mo_named_112 (by decide) ?_
        first | exact ru_to (ih (i + 1) (by omega) (by omega) (fun x hx2 => by by_cases e : x = i; (subst e; exact h100); exact hx x (by omega))) ⟨rfl, rfl, rfl, rfl, rfl, trivial⟩ | exact ru_to (zero k (i + 1) _ hk (by omega) rfl (fun z => h100 (z.2 i (by omega))) K) ⟨rfl, rfl, rfl, rfl, rfl, trivial⟩
  have outer : ∀ f x, x ≤ 16 → f = 16 - x → (fnd N n t j a = nthF (fun x => nmd N n t j (16 * a + x)) f x 0) → rx_W M_Mo_named 1 0 0 14 [(0, .ref 398), (1, .int (nI a)), (2, .int (nI (16 * a + x)))] [] (nx, ct, mS m0 (nI j) (-1), ml, mr) (pR post) := by
    intro f
    induction f with
    | zero =>
      intro x hx hf e
      have e' : fnd N n t j a = none := e
      refine ru_iload_n d_Mo_named_14 rfl rfl ?_
      refine ru_bipush (v := 16) d_Mo_named_15 (by decide) ?_
      refine ru_iload_n d_Mo_named_17 rfl rfl ?_
      refine ru_imul d_Mo_named_18 ?_
      refine ru_eqi (nm_mul 16 a : _ = nI (16 * a)) ?_
      refine ru_bipush (v := 16) d_Mo_named_19 (by decide) ?_
      refine ru_iadd d_Mo_named_21 ?_
      refine ru_eqi (nm_add (16 * a) 16 : _ = nI ((16 * a) + 16)) ?_
      refine ru_icmp_ge (tgt := 142) d_Mo_named_22 (by decide) (fun h22 => ?_) (fun h22 => absurd (nI_le (by omega) (by omega)) h22)
      replace h22 := nm_le (a := ((16 * a) + 16)) (b := (16*a+x)) (by omega) (by omega) h22
      refine ru_aload_n d_Mo_named_142 rfl rfl ?_
      refine ru_aload_n d_Mo_named_143 rfl rfl ?_
      refine ru_getI d_Mo_named_144 lf_Mo_59 (ly hL 398 9 0) rfl ?_
      refine ru_eqi mS_w ?_
      refine ru_callV (mc := 0) (ms := 0) d_Mo_named_147 lm_Mo_87 (sq_fail hL _) (rx_recv_is (ly hL 398 9 0) kx_Mo) (by decide) rfl (Nat.le_of_ble_eq_true rfl) ?_
      intro v τ h
      obtain ⟨rfl, rfl⟩ := h
      refine ru_iconst (v := 0) d_Mo_named_150 (by decide) ?_
      refine ru_iret d_Mo_named_151 rfl ?_
      rw [← hp, e']
      exact ⟨rfl, rfl⟩
    | succ f ih =>
      intro x hx hf e
      have hk : 16 * a + x < 48 := by omega
      obtain ⟨n1, n2, n3⟩ := hN (16 * a + x) hk
      have n1' : mS m0 (nI j) (-1) 400 (16 * a + x) = nI (N.1 (16 * a + x)) := by rw [mS_r]; exact n1
      unfold nthF at e
      have fin : ∀ g : Int32, g = bI (nmd N n t j (16 * a + x)) → rx_W M_Mo_named 1 0 0 115 [(0, .ref 398), (1, .int (nI a)), (2, .int (nI (16 * a + x))), (3, .int g)] [] (nx, ct, mS m0 (nI j) (-1), ml, mr) (pR post) := by
        intro g hg
        subst hg
        refine ru_iload_n d_Mo_named_115 rfl rfl ?_
        refine ru_if_eq (tgt := 136) d_Mo_named_116 (by decide) (fun h116 => ?_) (fun h116 => ?_)
        · skip
          replace h116 := bI_eq0.mp h116
          refine ru_iinc (v := nI ((16*a+x) + 1)) d_Mo_named_136 rfl (nm_inc _ 1) (by decide) ?_
          refine ru_goto (tgt := 14) d_Mo_named_139 (by decide) ?_
          rw [if_neg h116] at e
          exact ru_to (ih (x + 1) (by omega) (by omega) e) ⟨rfl, rfl, rfl, trivial⟩
        · skip
          replace h116 := bI_ne0.mp h116
          refine ru_aload_n d_Mo_named_119 rfl rfl ?_
          refine ru_dup d_Mo_named_120 rfl ?_
          refine ru_getI d_Mo_named_121 lf_Mo_59 (ly hL 398 9 0) rfl ?_
          refine ru_eqi mS_w ?_
          refine ru_iconst (v := 1) d_Mo_named_124 (by decide) ?_
          refine ru_iadd d_Mo_named_125 ?_
          refine ru_eqi (nm_add j 1 : _ = nI (j + 1)) ?_
          refine ru_putI d_Mo_named_126 lf_Mo_59 (ly hL 398 9 0) rfl (fun q hq => by cases hq; exact Or.inl rfl) ⟨rfl, rfl⟩ ?_
          refine ru_iload_n d_Mo_named_129 rfl rfl ?_
          refine ru_bipush (v := 16) d_Mo_named_130 (by decide) ?_
          refine ru_iload_n d_Mo_named_132 rfl rfl ?_
          refine ru_imul d_Mo_named_133 ?_
          refine ru_eqi (nm_mul 16 a : _ = nI (16 * a)) ?_
          refine ru_isub d_Mo_named_134 ?_
          refine ru_eqi (nm_sub (a := (16*a+x)) (b := (16 * a)) (by omega) : _ = nI ((16*a+x) - (16 * a))) ?_
          refine ru_iret d_Mo_named_135 rfl ?_
          rw [if_pos h116, if_pos rfl] at e
          rw [← hp, mS_sw, e, Nat.add_sub_cancel_left]
          exact ⟨rfl, rfl⟩
      refine ru_iload_n d_Mo_named_14 rfl rfl ?_
      refine ru_bipush (v := 16) d_Mo_named_15 (by decide) ?_
      refine ru_iload_n d_Mo_named_17 rfl rfl ?_
      refine ru_imul d_Mo_named_18 ?_
      refine ru_eqi (nm_mul 16 a : _ = nI (16 * a)) ?_
      refine ru_bipush (v := 16) d_Mo_named_19 (by decide) ?_
      refine ru_iadd d_Mo_named_21 ?_
      refine ru_eqi (nm_add (16 * a) 16 : _ = nI ((16 * a) + 16)) ?_
      refine ru_icmp_ge (tgt := 142) d_Mo_named_22 (by decide) (fun h22 => absurd h22 (nI_ge (by omega) (by omega))) (fun h22 => ?_)
      replace h22 := nm_nle (a := ((16 * a) + 16)) (b := (16*a+x)) (by omega) (by omega) h22
      refine ru_aload_n d_Mo_named_25 rfl rfl ?_
      refine ru_getR d_Mo_named_26 lf_Mo_13 (ly hL 398 9 0) rfl (lr hL 398 3 400) ?_
      refine ru_iload_n d_Mo_named_29 rfl rfl ?_
      refine ru_ialdN (j := (16*a+x)) d_Mo_named_30 (ly hL 400 100 48) (by omega) (by decide) ?_
      refine ru_eqi n1' ?_
      refine ru_if_le (tgt := 51) d_Mo_named_31 (by decide) (fun h31 => ?_) (fun h31 => ?_)
      · skip
        replace h31 := nm_le (a := (N.1 (16*a+x))) (b := 0) (by omega) (by omega) h31
        refine ru_iconst (v := 0) d_Mo_named_51 (by decide) ?_
        refine ru_istore_n d_Mo_named_52 rfl (by decide) ?_
        refine ru_iconst (v := 0) d_Mo_named_53 (by decide) ?_
        refine ru_istore d_Mo_named_54 (by decide) ?_
        first | exact ru_to (inner _ hk ⟨by omega, by omega⟩ fin _ 0 (by omega) rfl (fun x hx => by omega)) ⟨rfl, rfl, rfl, rfl, rfl, trivial⟩ | exact ru_to (zero _ 0 _ hk (by omega) rfl (fun z => by have := z.1; omega) fin) ⟨rfl, rfl, rfl, rfl, rfl, trivial⟩
      · skip
        replace h31 := nm_nle (a := (N.1 (16*a+x))) (b := 0) (by omega) (by omega) h31
        refine ru_aload_n d_Mo_named_34 rfl rfl ?_
        refine ru_getR d_Mo_named_35 lf_Mo_13 (ly hL 398 9 0) rfl (lr hL 398 3 400) ?_
        refine ru_iload_n d_Mo_named_38 rfl rfl ?_
        refine ru_ialdN (j := (16*a+x)) d_Mo_named_39 (ly hL 400 100 48) (by omega) (by decide) ?_
        refine ru_eqi n1' ?_
        refine ru_aload_n d_Mo_named_40 rfl rfl ?_
        refine ru_callV (mc := 0) (ms := 0) d_Mo_named_41 lm_Mo_62 hlen (rx_recv_is (ly hL 398 9 0) kx_Mo) (by decide) rfl (Nat.le_of_ble_eq_true rfl) ?_
        intro v τ h
        obtain ⟨rfl, rfl⟩ := h
        refine ru_icmp_ne (tgt := 51) d_Mo_named_44 (by decide) (fun h44 => ?_) (fun h44 => ?_)
        · skip
          replace h44 := nm_ne (a := (N.1 (16*a+x))) (b := (tlen n t j)) (by omega) (by omega) h44
          refine ru_iconst (v := 0) d_Mo_named_51 (by decide) ?_
          refine ru_istore_n d_Mo_named_52 rfl (by decide) ?_
          refine ru_iconst (v := 0) d_Mo_named_53 (by decide) ?_
          refine ru_istore d_Mo_named_54 (by decide) ?_
          first | exact ru_to (inner _ hk ⟨by omega, by omega⟩ fin _ 0 (by omega) rfl (fun x hx => by omega)) ⟨rfl, rfl, rfl, rfl, rfl, trivial⟩ | exact ru_to (zero _ 0 _ hk (by omega) rfl (fun z => by have := z.1; omega) fin) ⟨rfl, rfl, rfl, rfl, rfl, trivial⟩
        · skip
          replace h44 := nm_eq (a := (N.1 (16*a+x))) (b := (tlen n t j)) (by omega) (by omega) h44
          refine ru_iconst (v := 1) d_Mo_named_47 (by decide) ?_
          refine ru_goto (tgt := 52) d_Mo_named_48 (by decide) ?_
          refine ru_istore_n d_Mo_named_52 rfl (by decide) ?_
          refine ru_iconst (v := 0) d_Mo_named_53 (by decide) ?_
          refine ru_istore d_Mo_named_54 (by decide) ?_
          first | exact ru_to (inner _ hk ⟨by omega, by omega⟩ fin _ 0 (by omega) rfl (fun x hx => by omega)) ⟨rfl, rfl, rfl, rfl, rfl, trivial⟩ | exact ru_to (zero _ 0 _ hk (by omega) rfl (fun z => by have := z.1; omega) fin) ⟨rfl, rfl, rfl, rfl, rfl, trivial⟩
  refine ru_aload_n d_Mo_named_0 rfl rfl ?_
  refine ru_callV (mc := 0) (ms := 0) d_Mo_named_1 lm_Mo_75 (sq_good hL) (rx_recv_is (ly hL 398 9 0) kx_Mo) (by decide) rfl (Nat.le_of_ble_eq_true rfl) ?_
  intro v τ h
  obtain ⟨rfl, rfl⟩ := h
  refine ru_if_ne (tgt := 9) d_Mo_named_4 (by decide) (fun h4 => ?_) (fun h4 => absurd h4 (bI_ne0.mpr rfl))
  refine ru_bipush (v := 16) d_Mo_named_9 (by decide) ?_
  refine ru_iload_n d_Mo_named_11 rfl rfl ?_
  refine ru_imul d_Mo_named_12 ?_
  refine ru_eqi (nm_mul 16 a : _ = nI (16 * a)) ?_
  refine ru_istore_n d_Mo_named_13 rfl (by decide) ?_
  exact ru_to (outer 16 0 (by omega) rfl rfl) ⟨rfl, rfl, rfl, trivial⟩
theorem sq_named0 {a w g : Int32} (hL : LAY nx ct mr) (hg : ¬ g = -1) : rx_Calls y_Mo_named M_Mo_named 1 0 0 [.ref 398, .int a] (nx, ct, mS m0 w g, ml, mr) (fun v τ => v = some (.int 0) ∧ τ = (nx, ct, mS m0 w g, ml, mr)) := by
  refine rx_enter (by decide) rfl rfl (Nat.le_of_ble_eq_true rfl) ?_
  refine ru_aload_n d_Mo_named_0 rfl rfl ?_
  refine ru_callV (mc := 0) (ms := 0) d_Mo_named_1 lm_Mo_75 (sq_good hL) (rx_recv_is (ly hL 398 9 0) kx_Mo) (by decide) rfl (Nat.le_of_ble_eq_true rfl) ?_
  intro v τ h
  obtain ⟨rfl, rfl⟩ := h
  refine ru_if_ne (tgt := 9) d_Mo_named_4 (by decide) (fun h4 => absurd (bI_f hg) h4) (fun h4 => ?_)
  refine ru_iconst (v := 0) d_Mo_named_7 (by decide) ?_
  refine ru_iret d_Mo_named_8 rfl ?_
  exact ⟨rfl, rfl⟩
theorem isW_semi {j : Nat} : isW n t j 16 ↔ tlen n t j = 1 ∧ t (tk n t j).1 = 59 := by
  unfold isW wIs tlen
  constructor
  · rintro ⟨a, b⟩
    exact ⟨a, b 0 (by decide)⟩
  · rintro ⟨a, b⟩
    refine ⟨a, fun i hi => ?_⟩
    have e : i = 0 := by
      have : (rx_tx 16).length = 1 := by decide
      omega
    subst e
    exact b
theorem sq_isSemicolon {j : Nat} (hL : LAY nx ct mr) (h : PMs n m t m0) (hj : j < 4000) (g : Int32) : rx_Calls y_Mo_isSemicolon M_Mo_isSemicolon 1 0 0 [.ref 398] (nx, ct, mS m0 (nI j) g, ml, mr) (fun v τ => v = some (.int (bI (isW n t j 16))) ∧ τ = (nx, ct, mS m0 (nI j) g, ml, mr)) := by
  refine rx_enter (by decide) rfl rfl (Nat.le_of_ble_eq_true rfl) ?_
  have hlen := sp_Mo_length (ml := ml) hL (h.mS (nI j) g) mS_w hj
  have hle := tlen_le (n := n) (t := t) (j := j)
  have hn := h.2.2.1
  have ht : mS m0 (nI j) g 399 = t := by rw [mS_r]; exact h.2.1
  have hmn := h.2.2.2.2.2.1
  have hb : 0 < tlen n t j → j < m ∧ mS m0 (nI j) g 405 j = nI (tk n t j).1 := fun q => ⟨h.in_ q, by rw [mS_r]; exact (h.2.2.2.2.2.2.1 j (h.in_ q)).1⟩
  have hs := isW_semi (n := n) (t := t) (j := j)
  refine ru_aload_n d_Mo_isSemicolon_0 rfl rfl ?_
  refine ru_callV (mc := 0) (ms := 0) d_Mo_isSemicolon_1 lm_Mo_62 hlen (rx_recv_is (ly hL 398 9 0) kx_Mo) (by decide) rfl (Nat.le_of_ble_eq_true rfl) ?_
  intro v τ h
  obtain ⟨rfl, rfl⟩ := h
  refine ru_iconst (v := 1) d_Mo_isSemicolon_4 (by decide) ?_
  refine ru_icmp_ne (tgt := 31) d_Mo_isSemicolon_5 (by decide) (fun h5 => ?_) (fun h5 => ?_)
  · skip
    replace h5 := nm_ne (a := (tlen n t j)) (b := 1) (by omega) (by omega) h5
    refine ru_iconst (v := 0) d_Mo_isSemicolon_31 (by decide) ?_
    refine ru_zret (ty := .boolean) d_Mo_isSemicolon_32 rfl rfl ?_
    first | (rw [bI_t (hs.mpr ⟨h5, h24⟩)]; exact ⟨rfl, rfl⟩) | (rw [bI_f (fun q => h24 (hs.mp q).2)]; exact ⟨rfl, rfl⟩) | (rw [bI_f (fun q => h5 (hs.mp q).1)]; exact ⟨rfl, rfl⟩)
  · skip
    replace h5 := nm_eq (a := (tlen n t j)) (b := 1) (by omega) (by omega) h5
    refine ru_aload_n d_Mo_isSemicolon_8 rfl rfl ?_
    refine ru_getR d_Mo_isSemicolon_9 lf_Mo_7 (ly hL 398 9 0) rfl (lr hL 398 1 399) ?_
    refine ru_aload_n d_Mo_isSemicolon_12 rfl rfl ?_
    refine ru_getR d_Mo_isSemicolon_13 lf_Mo_30 (ly hL 398 9 0) rfl (lr hL 398 10 405) ?_
    refine ru_aload_n d_Mo_isSemicolon_16 rfl rfl ?_
    refine ru_getI d_Mo_isSemicolon_17 lf_Mo_59 (ly hL 398 9 0) rfl ?_
    refine ru_eqi mS_w ?_
    refine ru_ialdN (j := j) d_Mo_isSemicolon_20 (ly hL 405 100 3001) (by have := (hb (by omega)).1; omega) (by decide) ?_
    refine ru_eqi (hb (by omega)).2 ?_
    refine ru_ialdN (j := (tk n t j).1) d_Mo_isSemicolon_21 (ly hL 399 100 3000) (by omega) (by decide) ?_
    rw [ht]
    refine ru_bipush (v := 59) d_Mo_isSemicolon_22 (by decide) ?_
    refine ru_icmp_ne (tgt := 31) d_Mo_isSemicolon_24 (by decide) (fun h24 => ?_) (fun h24 => ?_)
    · skip
      refine ru_iconst (v := 0) d_Mo_isSemicolon_31 (by decide) ?_
      refine ru_zret (ty := .boolean) d_Mo_isSemicolon_32 rfl rfl ?_
      first | (rw [bI_t (hs.mpr ⟨h5, h24⟩)]; exact ⟨rfl, rfl⟩) | (rw [bI_f (fun q => h24 (hs.mp q).2)]; exact ⟨rfl, rfl⟩) | (rw [bI_f (fun q => h5 (hs.mp q).1)]; exact ⟨rfl, rfl⟩)
    · skip
      refine ru_iconst (v := 1) d_Mo_isSemicolon_27 (by decide) ?_
      refine ru_goto (tgt := 32) d_Mo_isSemicolon_28 (by decide) ?_
      refine ru_zret (ty := .boolean) d_Mo_isSemicolon_32 rfl rfl ?_
      first | (rw [bI_t (hs.mpr ⟨h5, h24⟩)]; exact ⟨rfl, rfl⟩) | (rw [bI_f (fun q => h24 (hs.mp q).2)]; exact ⟨rfl, rfl⟩) | (rw [bI_f (fun q => h5 (hs.mp q).1)]; exact ⟨rfl, rfl⟩)
theorem dvF_acc : ∀ f k v, (∀ i, i < f → isDig (t (k + i))) → dvF t f k v < (v + 1) * 10 ^ f
  | 0, k, v, _ => by
    show v < (v + 1) * 1
    omega
  | f + 1, k, v, h => by
    have h0 := h 0 (by omega)
    unfold isDig at h0
    have ih := dvF_acc f (k + 1) (10 * v + ((t k).toInt - 48).toNat) (fun i hi => by rw [Nat.add_assoc, Nat.add_comm 1 i]; exact h (i + 1) (by omega))
    refine Nat.lt_of_lt_of_le ih ?_
    rw [Nat.pow_succ, Nat.mul_comm (10 ^ f) 10, ← Nat.mul_assoc]
    exact Nat.mul_le_mul_right _ (by rw [Nat.add_zero] at h0; omega)
theorem nm_dig {v : Nat} {c : Int32} (hc : isDig c) : nI (10 * v) + c - 48 = nI (10 * v + (c.toInt - 48).toNat) := by
  obtain ⟨d, hd, e⟩ := nI_of (x := c) (by rw [il, i_0]; unfold isDig at hc; omega)
  have h1 : c.toInt = d := by rw [e, nI_toInt hd]
  unfold isDig at hc
  rw [e, nm_add, show (48 : Int32) = nI 48 from rfl, nm_sub (by omega), nI_toInt hd]
  congr 1
  omega
/-- a word of one or two digits within bounds -/
noncomputable def smallR (n : Nat) (t : Nat → Int32) (j lo hi : Nat) : Option Nat := match snm n t j with
  | none => none
  | some v => if lo ≤ v ∧ v ≤ hi then some v else none
theorem sq_small {j lo hi : Nat} (hL : LAY nx ct mr) (h : PMs n m t m0) (hj : j < 4000) (hlo : lo < 1000) (hhi : hi < 1000) : rx_Calls y_Mo_small M_Mo_small 1 0 0 [.ref 398, .int (nI lo), .int (nI hi)] (nx, ct, mS m0 (nI j) (-1), ml, mr) (fun v τ => ∃ x : Int32, v = some (.int x) ∧ match smallR n t j lo hi with | some y => x = nI y ∧ τ = (nx, ct, mS m0 (nI (j + 1)) (-1), ml, mr) | none => τ = (nx, ct, mS m0 (nI (j + 1)) (nI j), ml, mr)) := by
  refine rx_enter (by decide) rfl rfl (Nat.le_of_ble_eq_true rfl) ?_
  generalize hp : (fun (v : Option Value) (τ : rx_S) => ∃ x : Int32, v = some (.int x) ∧ match smallR n t j lo hi with | some y => x = nI y ∧ τ = (nx, ct, mS m0 (nI (j + 1)) (-1), ml, mr) | none => τ = (nx, ct, mS m0 (nI (j + 1)) (nI j), ml, mr)) = post
  have hlen := sp_Mo_length (ml := ml) hL (h.mS (nI j) (-1)) mS_w hj
  have hle := tlen_le (n := n) (t := t) (j := j)
  have hn := h.2.2.1
  have ht : mS m0 (nI j) (-1) 399 = t := by rw [mS_r]; exact h.2.1
  have hmn := h.2.2.2.2.2.1
  have hb : 0 < tlen n t j → j < m ∧ mS m0 (nI j) (-1) 405 j = nI (tk n t j).1 := fun q => ⟨h.in_ q, by rw [mS_r]; exact (h.2.2.2.2.2.2.1 j (h.in_ q)).1⟩
  -- it is none
  have bad : ∀ x g : Int32, g = 0 → smallR n t j lo hi = none → rx_W M_Mo_small 1 0 0 102 [(0, .ref 398), (1, .int (nI lo)), (2, .int (nI hi)), (3, .int x), (4, .int g)] [] (nx, ct, mS m0 (nI j) (-1), ml, mr) (pR post) := by
    intro x g hg e
    subst hg
    refine ru_iload d_Mo_small_102 rfl ?_
    refine ru_if_eq (tgt := 117) d_Mo_small_104 (by decide) (fun h104 => ?_) (fun h104 => absurd h104 (by decide))
    refine ru_aload_n d_Mo_small_117 rfl rfl ?_
    refine ru_aload_n d_Mo_small_118 rfl rfl ?_
    refine ru_getI d_Mo_small_119 lf_Mo_59 (ly hL 398 9 0) rfl ?_
    refine ru_eqi mS_w ?_
    refine ru_callV (mc := 0) (ms := 0) d_Mo_small_122 lm_Mo_87 (sq_fail hL _) (rx_recv_is (ly hL 398 9 0) kx_Mo) (by decide) rfl (Nat.le_of_ble_eq_true rfl) ?_
    intro v τ h
    obtain ⟨rfl, rfl⟩ := h
    refine ru_aload_n d_Mo_small_125 rfl rfl ?_
    refine ru_dup d_Mo_small_126 rfl ?_
    refine ru_getI d_Mo_small_127 lf_Mo_59 (ly hL 398 9 0) rfl ?_
    refine ru_eqi mS_w ?_
    refine ru_iconst (v := 1) d_Mo_small_130 (by decide) ?_
    refine ru_iadd d_Mo_small_131 ?_
    refine ru_eqi (nm_add j 1 : _ = nI (j + 1)) ?_
    refine ru_putI d_Mo_small_132 lf_Mo_59 (ly hL 398 9 0) rfl (fun q hq => by cases hq; exact Or.inl rfl) ⟨rfl, rfl⟩ ?_
    refine ru_iload_n d_Mo_small_135 rfl rfl ?_
    refine ru_iret d_Mo_small_136 rfl ?_
    rw [← hp, mS_sw, e]
    exact ⟨_, rfl, rfl⟩
  have badL : ∀ x g : Int32, ∀ i, i < 4 → g = 0 → smallR n t j lo hi = none → rx_W M_Mo_small 1 0 0 34 [(0, .ref 398), (1, .int (nI lo)), (2, .int (nI hi)), (3, .int x), (4, .int g), (5, .int (nI i))] [] (nx, ct, mS m0 (nI j) (-1), ml, mr) (pR post) := by
    intro x g i hii hg e
    subst hg
    refine ru_iload d_Mo_small_34 rfl ?_
    refine ru_aload_n d_Mo_small_36 rfl rfl ?_
    refine ru_callV (mc := 0) (ms := 0) d_Mo_small_37 lm_Mo_62 hlen (rx_recv_is (ly hL 398 9 0) kx_Mo) (by decide) rfl (Nat.le_of_ble_eq_true rfl) ?_
    intro v τ h
    obtain ⟨rfl, rfl⟩ := h
    refine ru_icmp_ge (tgt := 102) d_Mo_small_40 (by decide) (fun h40 => ?_) (fun h40 => ?_)
    · skip
      replace h40 := nm_le (a := (tlen n t j)) (b := i) (by omega) (by omega) h40
      exact ru_to (bad x 0 rfl e) ⟨rfl, rfl, rfl, rfl, rfl, trivial⟩
    · skip
      replace h40 := nm_nle (a := (tlen n t j)) (b := i) (by omega) (by omega) h40
      refine ru_iload d_Mo_small_43 rfl ?_
      refine ru_if_eq (tgt := 102) d_Mo_small_45 (by decide) (fun h45 => ?_) (fun h45 => absurd h45 (by decide))
      exact ru_to (bad x 0 rfl e) ⟨rfl, rfl, rfl, rfl, rfl, trivial⟩
  have loop : (1 ≤ tlen n t j ∧ tlen n t j ≤ 2) → ∀ f i v, i ≤ tlen n t j → f = tlen n t j - i → v < 10 ^ i → (∀ x, x < i → isDig (t ((tk n t j).1 + x))) → dvF t (tlen n t j) (tk n t j).1 0 = dvF t f ((tk n t j).1 + i) v → rx_W M_Mo_small 1 0 0 34 [(0, .ref 398), (1, .int (nI lo)), (2, .int (nI hi)), (3, .int (nI v)), (4, .int 1), (5, .int (nI i))] [] (nx, ct, mS m0 (nI j) (-1), ml, mr) (pR post) := by
    intro hl2 f
    have hb' := hb (by omega)
    induction f with
    | zero =>
      intro i v hii hf hv hd e
      have hi2 : i = tlen n t j := by omega
      have hv2 : v < 100 := Nat.lt_of_lt_of_le hv (show 10 ^ i ≤ 10 ^ 2 from Nat.pow_le_pow_right (by decide) (by omega))
      have es : snm n t j = some v := by
        unfold snm
        rw [cnd_t ⟨hl2, fun x hx => hd x (by omega)⟩, e]
        rfl
      refine ru_iload d_Mo_small_34 rfl ?_
      refine ru_aload_n d_Mo_small_36 rfl rfl ?_
      refine ru_callV (mc := 0) (ms := 0) d_Mo_small_37 lm_Mo_62 hlen (rx_recv_is (ly hL 398 9 0) kx_Mo) (by decide) rfl (Nat.le_of_ble_eq_true rfl) ?_
      intro v τ h
      obtain ⟨rfl, rfl⟩ := h
      refine ru_icmp_ge (tgt := 102) d_Mo_small_40 (by decide) (fun h40 => ?_) (fun h40 => absurd (nI_le (by omega) (by omega)) h40)
      replace h40 := nm_le (a := (tlen n t j)) (b := i) (by omega) (by omega) h40
      refine ru_iload d_Mo_small_102 rfl ?_
      refine ru_if_eq (tgt := 117) d_Mo_small_104 (by decide) (fun h104 => absurd h104 (by decide)) (fun h104 => ?_)
      refine ru_iload_n d_Mo_small_107 rfl rfl ?_
      refine ru_iload_n d_Mo_small_108 rfl rfl ?_
      refine ru_icmp_lt (tgt := 117) d_Mo_small_109 (by decide) (fun h109 => ?_) (fun h109 => ?_)
      · skip
        replace h109 := nm_lt (a := v) (b := lo) (by omega) (by omega) h109
        refine ru_aload_n d_Mo_small_117 rfl rfl ?_
        refine ru_aload_n d_Mo_small_118 rfl rfl ?_
        refine ru_getI d_Mo_small_119 lf_Mo_59 (ly hL 398 9 0) rfl ?_
        refine ru_eqi mS_w ?_
        refine ru_callV (mc := 0) (ms := 0) d_Mo_small_122 lm_Mo_87 (sq_fail hL _) (rx_recv_is (ly hL 398 9 0) kx_Mo) (by decide) rfl (Nat.le_of_ble_eq_true rfl) ?_
        intro v τ h
        obtain ⟨rfl, rfl⟩ := h
        refine ru_aload_n d_Mo_small_125 rfl rfl ?_
        refine ru_dup d_Mo_small_126 rfl ?_
        refine ru_getI d_Mo_small_127 lf_Mo_59 (ly hL 398 9 0) rfl ?_
        refine ru_eqi mS_w ?_
        refine ru_iconst (v := 1) d_Mo_small_130 (by decide) ?_
        refine ru_iadd d_Mo_small_131 ?_
        refine ru_eqi (nm_add j 1 : _ = nI (j + 1)) ?_
        refine ru_putI d_Mo_small_132 lf_Mo_59 (ly hL 398 9 0) rfl (fun q hq => by cases hq; exact Or.inl rfl) ⟨rfl, rfl⟩ ?_
        refine ru_iload_n d_Mo_small_135 rfl rfl ?_
        refine ru_iret d_Mo_small_136 rfl ?_
        rw [← hp, mS_sw]
        first | (have q : smallR n t j lo hi = some v := (by unfold smallR; rw [es]; exact if_pos ⟨by omega, by omega⟩); rw [q]; exact ⟨_, rfl, rfl, rfl⟩) | (have q : smallR n t j lo hi = none := (by unfold smallR; rw [es]; exact if_neg (by omega)); rw [q]; exact ⟨_, rfl, rfl⟩)
      · skip
        replace h109 := nm_nlt (a := v) (b := lo) (by omega) (by omega) h109
        refine ru_iload_n d_Mo_small_112 rfl rfl ?_
        refine ru_iload_n d_Mo_small_113 rfl rfl ?_
        refine ru_icmp_le (tgt := 125) d_Mo_small_114 (by decide) (fun h114 => ?_) (fun h114 => ?_)
        · skip
          replace h114 := nm_le (a := v) (b := hi) (by omega) (by omega) h114
          refine ru_aload_n d_Mo_small_125 rfl rfl ?_
          refine ru_dup d_Mo_small_126 rfl ?_
          refine ru_getI d_Mo_small_127 lf_Mo_59 (ly hL 398 9 0) rfl ?_
          refine ru_eqi mS_w ?_
          refine ru_iconst (v := 1) d_Mo_small_130 (by decide) ?_
          refine ru_iadd d_Mo_small_131 ?_
          refine ru_eqi (nm_add j 1 : _ = nI (j + 1)) ?_
          refine ru_putI d_Mo_small_132 lf_Mo_59 (ly hL 398 9 0) rfl (fun q hq => by cases hq; exact Or.inl rfl) ⟨rfl, rfl⟩ ?_
          refine ru_iload_n d_Mo_small_135 rfl rfl ?_
          refine ru_iret d_Mo_small_136 rfl ?_
          rw [← hp, mS_sw]
          first | (have q : smallR n t j lo hi = some v := (by unfold smallR; rw [es]; exact if_pos ⟨by omega, by omega⟩); rw [q]; exact ⟨_, rfl, rfl, rfl⟩) | (have q : smallR n t j lo hi = none := (by unfold smallR; rw [es]; exact if_neg (by omega)); rw [q]; exact ⟨_, rfl, rfl⟩)
        · skip
          replace h114 := nm_nle (a := v) (b := hi) (by omega) (by omega) h114
          refine ru_aload_n d_Mo_small_117 rfl rfl ?_
          refine ru_aload_n d_Mo_small_118 rfl rfl ?_
          refine ru_getI d_Mo_small_119 lf_Mo_59 (ly hL 398 9 0) rfl ?_
          refine ru_eqi mS_w ?_
          refine ru_callV (mc := 0) (ms := 0) d_Mo_small_122 lm_Mo_87 (sq_fail hL _) (rx_recv_is (ly hL 398 9 0) kx_Mo) (by decide) rfl (Nat.le_of_ble_eq_true rfl) ?_
          intro v τ h
          obtain ⟨rfl, rfl⟩ := h
          refine ru_aload_n d_Mo_small_125 rfl rfl ?_
          refine ru_dup d_Mo_small_126 rfl ?_
          refine ru_getI d_Mo_small_127 lf_Mo_59 (ly hL 398 9 0) rfl ?_
          refine ru_eqi mS_w ?_
          refine ru_iconst (v := 1) d_Mo_small_130 (by decide) ?_
          refine ru_iadd d_Mo_small_131 ?_
          refine ru_eqi (nm_add j 1 : _ = nI (j + 1)) ?_
          refine ru_putI d_Mo_small_132 lf_Mo_59 (ly hL 398 9 0) rfl (fun q hq => by cases hq; exact Or.inl rfl) ⟨rfl, rfl⟩ ?_
          refine ru_iload_n d_Mo_small_135 rfl rfl ?_
          refine ru_iret d_Mo_small_136 rfl ?_
          rw [← hp, mS_sw]
          first | (have q : smallR n t j lo hi = some v := (by unfold smallR; rw [es]; exact if_pos ⟨by omega, by omega⟩); rw [q]; exact ⟨_, rfl, rfl, rfl⟩) | (have q : smallR n t j lo hi = none := (by unfold smallR; rw [es]; exact if_neg (by omega)); rw [q]; exact ⟨_, rfl, rfl⟩)
    | succ f ih =>
      intro i v hii hf hv hd e
      refine ru_iload d_Mo_small_34 rfl ?_
      refine ru_aload_n d_Mo_small_36 rfl rfl ?_
      refine ru_callV (mc := 0) (ms := 0) d_Mo_small_37 lm_Mo_62 hlen (rx_recv_is (ly hL 398 9 0) kx_Mo) (by decide) rfl (Nat.le_of_ble_eq_true rfl) ?_
      intro v τ h
      obtain ⟨rfl, rfl⟩ := h
      refine ru_icmp_ge (tgt := 102) d_Mo_small_40 (by decide) (fun h40 => absurd h40 (nI_ge (by omega) (by omega))) (fun h40 => ?_)
      replace h40 := nm_nle (a := (tlen n t j)) (b := i) (by omega) (by omega) h40
      refine ru_iload d_Mo_small_43 rfl ?_
      refine ru_if_eq (tgt := 102) d_Mo_small_45 (by decide) (fun h45 => absurd h45 (by decide)) (fun h45 => ?_)
      refine ru_aload_n d_Mo_small_48 rfl rfl ?_
      refine ru_getR d_Mo_small_49 lf_Mo_7 (ly hL 398 9 0) rfl (lr hL 398 1 399) ?_
      refine ru_aload_n d_Mo_small_52 rfl rfl ?_
      refine ru_getR d_Mo_small_53 lf_Mo_30 (ly hL 398 9 0) rfl (lr hL 398 10 405) ?_
      refine ru_aload_n d_Mo_small_56 rfl rfl ?_
      refine ru_getI d_Mo_small_57 lf_Mo_59 (ly hL 398 9 0) rfl ?_
      refine ru_eqi mS_w ?_
      refine ru_ialdN (j := j) d_Mo_small_60 (ly hL 405 100 3001) (by omega) (by decide) ?_
      refine ru_eqi hb'.2 ?_
      refine ru_iload d_Mo_small_61 rfl ?_
      refine ru_iadd d_Mo_small_63 ?_
      refine ru_eqi (nm_add (tk n t j).1 i : _ = nI ((tk n t j).1 + i)) ?_
      refine ru_ialdN (j := ((tk n t j).1 + i)) d_Mo_small_64 (ly hL 399 100 3000) (by omega) (by decide) ?_
      rw [ht]
      refine ru_callS (mc := 0) (ms := 0) d_Mo_small_65 lm_Mo_47 (sp_Mo_isDigit _ _) (by decide) rfl (Nat.le_of_ble_eq_true rfl) ?_
      intro v τ h
      obtain ⟨rfl, rfl⟩ := h
      refine ru_istore d_Mo_small_68 (by decide) ?_
      refine ru_bipush (v := 10) d_Mo_small_70 (by decide) ?_
      refine ru_iload_n d_Mo_small_72 rfl rfl ?_
      refine ru_imul d_Mo_small_73 ?_
      refine ru_eqi (nm_mul 10 v : _ = nI (10 * v)) ?_
      refine ru_aload_n d_Mo_small_74 rfl rfl ?_
      refine ru_getR d_Mo_small_75 lf_Mo_7 (ly hL 398 9 0) rfl (lr hL 398 1 399) ?_
      refine ru_aload_n d_Mo_small_78 rfl rfl ?_
      refine ru_getR d_Mo_small_79 lf_Mo_30 (ly hL 398 9 0) rfl (lr hL 398 10 405) ?_
      refine ru_aload_n d_Mo_small_82 rfl rfl ?_
      refine ru_getI d_Mo_small_83 lf_Mo_59 (ly hL 398 9 0) rfl ?_
      refine ru_eqi mS_w ?_
      refine ru_ialdN (j := j) d_Mo_small_86 (ly hL 405 100 3001) (by omega) (by decide) ?_
      refine ru_eqi hb'.2 ?_
      refine ru_iload d_Mo_small_87 rfl ?_
      refine ru_iadd d_Mo_small_89 ?_
      refine ru_eqi (nm_add (tk n t j).1 i : _ = nI ((tk n t j).1 + i)) ?_
      refine ru_ialdN (j := ((tk n t j).1 + i)) d_Mo_small_90 (ly hL 399 100 3000) (by omega) (by decide) ?_
      rw [ht]
      refine ru_iadd d_Mo_small_91 ?_
      refine ru_bipush (v := 48) d_Mo_small_92 (by decide) ?_
      refine ru_isub d_Mo_small_94 ?_
      skip
      refine ru_istore_n d_Mo_small_95 rfl (by decide) ?_
      refine ru_iinc (v := nI (i + 1)) d_Mo_small_96 rfl (nm_inc _ 1) (by decide) ?_
      refine ru_goto (tgt := 34) d_Mo_small_99 (by decide) ?_
      by_cases hc : isDig (t ((tk n t j).1 + i))
      · rw [bI_t hc]
        have hc2 := hc
        unfold isDig at hc2
        refine ru_to (ih (i + 1) (10 * v + ((t ((tk n t j).1 + i)).toInt - 48).toNat) (by omega) (by omega) (by rw [Nat.pow_succ]; omega) (fun x hx => by by_cases ex : x = i; (subst ex; exact hc); exact hd x (by omega)) (by rw [e]; rfl)) ⟨rfl, rfl, rfl, by rw [← nm_dig hc]; rfl, rfl, rfl, trivial⟩
      · rw [bI_f hc]
        refine ru_to (badL _ 0 (i + 1) (by omega) rfl ?_) ⟨rfl, rfl, rfl, rfl, rfl, rfl, trivial⟩
        unfold smallR snm
        rw [cnd_f (fun z => hc (z.2 i (by omega)))]
  refine ru_iconst (v := 0) d_Mo_small_0 (by decide) ?_
  refine ru_istore_n d_Mo_small_1 rfl (by decide) ?_
  refine ru_aload_n d_Mo_small_2 rfl rfl ?_
  refine ru_callV (mc := 0) (ms := 0) d_Mo_small_3 lm_Mo_75 (sq_good hL) (rx_recv_is (ly hL 398 9 0) kx_Mo) (by decide) rfl (Nat.le_of_ble_eq_true rfl) ?_
  intro v τ h
  obtain ⟨rfl, rfl⟩ := h
  refine ru_if_eq (tgt := 28) d_Mo_small_6 (by decide) (fun h6 => absurd h6 (bI_ne0.mpr rfl)) (fun h6 => ?_)
  refine ru_aload_n d_Mo_small_9 rfl rfl ?_
  refine ru_callV (mc := 0) (ms := 0) d_Mo_small_10 lm_Mo_62 hlen (rx_recv_is (ly hL 398 9 0) kx_Mo) (by decide) rfl (Nat.le_of_ble_eq_true rfl) ?_
  intro v τ h
  obtain ⟨rfl, rfl⟩ := h
  refine ru_if_le (tgt := 28) d_Mo_small_13 (by decide) (fun h13 => ?_) (fun h13 => ?_)
  · skip
    replace h13 := nm_le (a := (tlen n t j)) (b := 0) (by omega) (by omega) h13
    refine ru_iconst (v := 0) d_Mo_small_28 (by decide) ?_
    refine ru_istore d_Mo_small_29 (by decide) ?_
    refine ru_iconst (v := 0) d_Mo_small_31 (by decide) ?_
    refine ru_istore d_Mo_small_32 (by decide) ?_
    first | exact ru_to (loop ⟨by omega, by omega⟩ _ 0 0 (by omega) rfl (by decide) (fun x hx => by omega) rfl) ⟨rfl, rfl, rfl, rfl, rfl, rfl, trivial⟩ | exact ru_to (badL 0 0 0 (by omega) rfl (by unfold smallR snm; rw [cnd_f (fun z => by have := z.1; omega)])) ⟨rfl, rfl, rfl, rfl, rfl, rfl, trivial⟩
  · skip
    replace h13 := nm_nle (a := (tlen n t j)) (b := 0) (by omega) (by omega) h13
    refine ru_aload_n d_Mo_small_16 rfl rfl ?_
    refine ru_callV (mc := 0) (ms := 0) d_Mo_small_17 lm_Mo_62 hlen (rx_recv_is (ly hL 398 9 0) kx_Mo) (by decide) rfl (Nat.le_of_ble_eq_true rfl) ?_
    intro v τ h
    obtain ⟨rfl, rfl⟩ := h
    refine ru_iconst (v := 3) d_Mo_small_20 (by decide) ?_
    refine ru_icmp_ge (tgt := 28) d_Mo_small_21 (by decide) (fun h21 => ?_) (fun h21 => ?_)
    · skip
      replace h21 := nm_le (a := 3) (b := (tlen n t j)) (by omega) (by omega) h21
      refine ru_iconst (v := 0) d_Mo_small_28 (by decide) ?_
      refine ru_istore d_Mo_small_29 (by decide) ?_
      refine ru_iconst (v := 0) d_Mo_small_31 (by decide) ?_
      refine ru_istore d_Mo_small_32 (by decide) ?_
      first | exact ru_to (loop ⟨by omega, by omega⟩ _ 0 0 (by omega) rfl (by decide) (fun x hx => by omega) rfl) ⟨rfl, rfl, rfl, rfl, rfl, rfl, trivial⟩ | exact ru_to (badL 0 0 0 (by omega) rfl (by unfold smallR snm; rw [cnd_f (fun z => by have := z.1; omega)])) ⟨rfl, rfl, rfl, rfl, rfl, rfl, trivial⟩
    · skip
      replace h21 := nm_nle (a := 3) (b := (tlen n t j)) (by omega) (by omega) h21
      refine ru_iconst (v := 1) d_Mo_small_24 (by decide) ?_
      refine ru_goto (tgt := 29) d_Mo_small_25 (by decide) ?_
      refine ru_istore d_Mo_small_29 (by decide) ?_
      refine ru_iconst (v := 0) d_Mo_small_31 (by decide) ?_
      refine ru_istore d_Mo_small_32 (by decide) ?_
      first | exact ru_to (loop ⟨by omega, by omega⟩ _ 0 0 (by omega) rfl (by decide) (fun x hx => by omega) rfl) ⟨rfl, rfl, rfl, rfl, rfl, rfl, trivial⟩ | exact ru_to (badL 0 0 0 (by omega) rfl (by unfold smallR snm; rw [cnd_f (fun z => by have := z.1; omega)])) ⟨rfl, rfl, rfl, rfl, rfl, rfl, trivial⟩
theorem sq_small0 {w g a b : Int32} {j : Nat} (hL : LAY nx ct mr) (h : PMs n m t m0) (hj : j < 4000) (hg : ¬ g = -1) : rx_Calls y_Mo_small M_Mo_small 1 0 0 [.ref 398, .int a, .int b] (nx, ct, mS m0 (nI j) g, ml, mr) (fun v τ => ∃ x : Int32, v = some (.int x) ∧ τ = (nx, ct, mS m0 (nI (j + 1)) g, ml, mr)) := by
  refine rx_enter (by decide) rfl rfl (Nat.le_of_ble_eq_true rfl) ?_
  have hlen := sp_Mo_length (ml := ml) hL (h.mS (nI j) g) mS_w hj
  have hle := tlen_le (n := n) (t := t) (j := j)
  have hn := h.2.2.1
  refine ru_iconst (v := 0) d_Mo_small_0 (by decide) ?_
  refine ru_istore_n d_Mo_small_1 rfl (by decide) ?_
  refine ru_aload_n d_Mo_small_2 rfl rfl ?_
  refine ru_callV (mc := 0) (ms := 0) d_Mo_small_3 lm_Mo_75 (sq_good hL) (rx_recv_is (ly hL 398 9 0) kx_Mo) (by decide) rfl (Nat.le_of_ble_eq_true rfl) ?_
  intro v τ h
  obtain ⟨rfl, rfl⟩ := h
  refine ru_if_eq (tgt := 28) d_Mo_small_6 (by decide) (fun h6 => ?_) (fun h6 => absurd (bI_f hg) h6)
  refine ru_iconst (v := 0) d_Mo_small_28 (by decide) ?_
  refine ru_istore d_Mo_small_29 (by decide) ?_
  refine ru_iconst (v := 0) d_Mo_small_31 (by decide) ?_
  refine ru_istore d_Mo_small_32 (by decide) ?_
  refine ru_iload d_Mo_small_34 rfl ?_
  refine ru_aload_n d_Mo_small_36 rfl rfl ?_
  refine ru_callV (mc := 0) (ms := 0) d_Mo_small_37 lm_Mo_62 hlen (rx_recv_is (ly hL 398 9 0) kx_Mo) (by decide) rfl (Nat.le_of_ble_eq_true rfl) ?_
  intro v τ h
  obtain ⟨rfl, rfl⟩ := h
  refine ru_icmp_ge (tgt := 102) d_Mo_small_40 (by decide) (fun h40 => ?_) (fun h40 => ?_)
  · skip
    replace h40 := nm_le (a := (tlen n t j)) (b := 0) (by omega) (by omega) h40
    refine ru_iload d_Mo_small_102 rfl ?_
    refine ru_if_eq (tgt := 117) d_Mo_small_104 (by decide) (fun h104 => ?_) (fun h104 => absurd h104 (by decide))
    refine ru_aload_n d_Mo_small_117 rfl rfl ?_
    refine ru_aload_n d_Mo_small_118 rfl rfl ?_
    refine ru_getI d_Mo_small_119 lf_Mo_59 (ly hL 398 9 0) rfl ?_
    refine ru_eqi mS_w ?_
    refine ru_callV (mc := 0) (ms := 0) d_Mo_small_122 lm_Mo_87 (sq_fail hL _) (rx_recv_is (ly hL 398 9 0) kx_Mo) (by decide) rfl (Nat.le_of_ble_eq_true rfl) ?_
    rw [if_neg hg]
    intro v τ h
    obtain ⟨rfl, rfl⟩ := h
    refine ru_aload_n d_Mo_small_125 rfl rfl ?_
    refine ru_dup d_Mo_small_126 rfl ?_
    refine ru_getI d_Mo_small_127 lf_Mo_59 (ly hL 398 9 0) rfl ?_
    refine ru_eqi mS_w ?_
    refine ru_iconst (v := 1) d_Mo_small_130 (by decide) ?_
    refine ru_iadd d_Mo_small_131 ?_
    refine ru_eqi (nm_add j 1 : _ = nI (j + 1)) ?_
    refine ru_putI d_Mo_small_132 lf_Mo_59 (ly hL 398 9 0) rfl (fun q hq => by cases hq; exact Or.inl rfl) ⟨rfl, rfl⟩ ?_
    refine ru_iload_n d_Mo_small_135 rfl rfl ?_
    refine ru_iret d_Mo_small_136 rfl ?_
    rw [mS_sw]
    exact ⟨_, rfl, rfl⟩
  · skip
    replace h40 := nm_nle (a := (tlen n t j)) (b := 0) (by omega) (by omega) h40
    refine ru_iload d_Mo_small_43 rfl ?_
    refine ru_if_eq (tgt := 102) d_Mo_small_45 (by decide) (fun h45 => ?_) (fun h45 => absurd h45 (by decide))
    refine ru_iload d_Mo_small_102 rfl ?_
    refine ru_if_eq (tgt := 117) d_Mo_small_104 (by decide) (fun h104 => ?_) (fun h104 => absurd h104 (by decide))
    refine ru_aload_n d_Mo_small_117 rfl rfl ?_
    refine ru_aload_n d_Mo_small_118 rfl rfl ?_
    refine ru_getI d_Mo_small_119 lf_Mo_59 (ly hL 398 9 0) rfl ?_
    refine ru_eqi mS_w ?_
    refine ru_callV (mc := 0) (ms := 0) d_Mo_small_122 lm_Mo_87 (sq_fail hL _) (rx_recv_is (ly hL 398 9 0) kx_Mo) (by decide) rfl (Nat.le_of_ble_eq_true rfl) ?_
    rw [if_neg hg]
    intro v τ h
    obtain ⟨rfl, rfl⟩ := h
    refine ru_aload_n d_Mo_small_125 rfl rfl ?_
    refine ru_dup d_Mo_small_126 rfl ?_
    refine ru_getI d_Mo_small_127 lf_Mo_59 (ly hL 398 9 0) rfl ?_
    refine ru_eqi mS_w ?_
    refine ru_iconst (v := 1) d_Mo_small_130 (by decide) ?_
    refine ru_iadd d_Mo_small_131 ?_
    refine ru_eqi (nm_add j 1 : _ = nI (j + 1)) ?_
    refine ru_putI d_Mo_small_132 lf_Mo_59 (ly hL 398 9 0) rfl (fun q hq => by cases hq; exact Or.inl rfl) ⟨rfl, rfl⟩ ?_
    refine ru_iload_n d_Mo_small_135 rfl rfl ?_
    refine ru_iret d_Mo_small_136 rfl ?_
    rw [mS_sw]
    exact ⟨_, rfl, rfl⟩
end
end
section
/-! The reference reads numbers and units -/
theorem d_Mo_tookNumber_0 : decode M_Mo_tookNumber.2.1 0 = .ok (.aload_n 0, 1) := by decide +kernel
theorem d_Mo_tookNumber_1 : decode M_Mo_tookNumber.2.1 1 = .ok (.invokevirtual 75, 3) := by decide +kernel
theorem d_Mo_tookNumber_4 : decode M_Mo_tookNumber.2.1 4 = .ok (.ifCond .eq 14, 3) := by decide +kernel
theorem d_Mo_tookNumber_7 : decode M_Mo_tookNumber.2.1 7 = .ok (.aload_n 0, 1) := by decide +kernel
theorem d_Mo_tookNumber_8 : decode M_Mo_tookNumber.2.1 8 = .ok (.getfield 59, 3) := by decide +kernel
theorem d_Mo_tookNumber_11 : decode M_Mo_tookNumber.2.1 11 = .ok (.aload_n 0, 1) := by decide +kernel
theorem d_Mo_tookNumber_12 : decode M_Mo_tookNumber.2.1 12 = .ok (.getfield 53, 3) := by decide +kernel
theorem d_Mo_tookNumber_15 : decode M_Mo_tookNumber.2.1 15 = .ok (.if_icmp .lt 5, 3) := by decide +kernel
theorem d_Mo_tookNumber_18 : decode M_Mo_tookNumber.2.1 18 = .ok (.iconst 0, 1) := by decide +kernel
theorem d_Mo_tookNumber_19 : decode M_Mo_tookNumber.2.1 19 = .ok (.ireturn, 1) := by decide +kernel
theorem d_Mo_tookNumber_20 : decode M_Mo_tookNumber.2.1 20 = .ok (.iconst 0, 1) := by decide +kernel
theorem d_Mo_tookNumber_21 : decode M_Mo_tookNumber.2.1 21 = .ok (.istore_n 1, 1) := by decide +kernel
theorem d_Mo_tookNumber_22 : decode M_Mo_tookNumber.2.1 22 = .ok (.aload_n 0, 1) := by decide +kernel
theorem d_Mo_tookNumber_23 : decode M_Mo_tookNumber.2.1 23 = .ok (.getfield 30, 3) := by decide +kernel
theorem d_Mo_tookNumber_26 : decode M_Mo_tookNumber.2.1 26 = .ok (.aload_n 0, 1) := by decide +kernel
theorem d_Mo_tookNumber_27 : decode M_Mo_tookNumber.2.1 27 = .ok (.getfield 59, 3) := by decide +kernel
theorem d_Mo_tookNumber_30 : decode M_Mo_tookNumber.2.1 30 = .ok (.iaload, 1) := by decide +kernel
theorem d_Mo_tookNumber_31 : decode M_Mo_tookNumber.2.1 31 = .ok (.istore_n 2, 1) := by decide +kernel
theorem d_Mo_tookNumber_32 : decode M_Mo_tookNumber.2.1 32 = .ok (.lconst 0, 1) := by decide +kernel
theorem d_Mo_tookNumber_33 : decode M_Mo_tookNumber.2.1 33 = .ok (.lstore_n 3, 1) := by decide +kernel
theorem d_Mo_tookNumber_34 : decode M_Mo_tookNumber.2.1 34 = .ok (.iload_n 2, 1) := by decide +kernel
theorem d_Mo_tookNumber_35 : decode M_Mo_tookNumber.2.1 35 = .ok (.aload_n 0, 1) := by decide +kernel
theorem d_Mo_tookNumber_36 : decode M_Mo_tookNumber.2.1 36 = .ok (.getfield 33, 3) := by decide +kernel
theorem d_Mo_tookNumber_39 : decode M_Mo_tookNumber.2.1 39 = .ok (.aload_n 0, 1) := by decide +kernel
theorem d_Mo_tookNumber_40 : decode M_Mo_tookNumber.2.1 40 = .ok (.getfield 59, 3) := by decide +kernel
theorem d_Mo_tookNumber_43 : decode M_Mo_tookNumber.2.1 43 = .ok (.iaload, 1) := by decide +kernel
theorem d_Mo_tookNumber_44 : decode M_Mo_tookNumber.2.1 44 = .ok (.if_icmp .ge 52, 3) := by decide +kernel
theorem d_Mo_tookNumber_47 : decode M_Mo_tookNumber.2.1 47 = .ok (.aload_n 0, 1) := by decide +kernel
theorem d_Mo_tookNumber_48 : decode M_Mo_tookNumber.2.1 48 = .ok (.getfield 7, 3) := by decide +kernel
theorem d_Mo_tookNumber_51 : decode M_Mo_tookNumber.2.1 51 = .ok (.iload_n 2, 1) := by decide +kernel
theorem d_Mo_tookNumber_52 : decode M_Mo_tookNumber.2.1 52 = .ok (.iaload, 1) := by decide +kernel
theorem d_Mo_tookNumber_53 : decode M_Mo_tookNumber.2.1 53 = .ok (.invokestatic 47, 3) := by decide +kernel
theorem d_Mo_tookNumber_56 : decode M_Mo_tookNumber.2.1 56 = .ok (.ifCond .eq 40, 3) := by decide +kernel
theorem d_Mo_tookNumber_59 : decode M_Mo_tookNumber.2.1 59 = .ok (.iload_n 1, 1) := by decide +kernel
theorem d_Mo_tookNumber_60 : decode M_Mo_tookNumber.2.1 60 = .ok (.bipush 10, 2) := by decide +kernel
theorem d_Mo_tookNumber_62 : decode M_Mo_tookNumber.2.1 62 = .ok (.if_icmp .ge 23, 3) := by decide +kernel
theorem d_Mo_tookNumber_65 : decode M_Mo_tookNumber.2.1 65 = .ok (.ldc2_w 114, 3) := by decide +kernel
theorem d_Mo_tookNumber_68 : decode M_Mo_tookNumber.2.1 68 = .ok (.lload_n 3, 1) := by decide +kernel
theorem d_Mo_tookNumber_69 : decode M_Mo_tookNumber.2.1 69 = .ok (.lmul, 1) := by decide +kernel
theorem d_Mo_tookNumber_70 : decode M_Mo_tookNumber.2.1 70 = .ok (.aload_n 0, 1) := by decide +kernel
theorem d_Mo_tookNumber_71 : decode M_Mo_tookNumber.2.1 71 = .ok (.getfield 7, 3) := by decide +kernel
theorem d_Mo_tookNumber_74 : decode M_Mo_tookNumber.2.1 74 = .ok (.iload_n 2, 1) := by decide +kernel
theorem d_Mo_tookNumber_75 : decode M_Mo_tookNumber.2.1 75 = .ok (.iaload, 1) := by decide +kernel
theorem d_Mo_tookNumber_76 : decode M_Mo_tookNumber.2.1 76 = .ok (.i2l, 1) := by decide +kernel
theorem d_Mo_tookNumber_77 : decode M_Mo_tookNumber.2.1 77 = .ok (.ladd, 1) := by decide +kernel
theorem d_Mo_tookNumber_78 : decode M_Mo_tookNumber.2.1 78 = .ok (.ldc2_w 116, 3) := by decide +kernel
theorem d_Mo_tookNumber_81 : decode M_Mo_tookNumber.2.1 81 = .ok (.lsub, 1) := by decide +kernel
theorem d_Mo_tookNumber_82 : decode M_Mo_tookNumber.2.1 82 = .ok (.goto 4, 3) := by decide +kernel
theorem d_Mo_tookNumber_85 : decode M_Mo_tookNumber.2.1 85 = .ok (.lload_n 3, 1) := by decide +kernel
theorem d_Mo_tookNumber_86 : decode M_Mo_tookNumber.2.1 86 = .ok (.lstore_n 3, 1) := by decide +kernel
theorem d_Mo_tookNumber_87 : decode M_Mo_tookNumber.2.1 87 = .ok (.iinc 1 1, 3) := by decide +kernel
theorem d_Mo_tookNumber_90 : decode M_Mo_tookNumber.2.1 90 = .ok (.iinc 2 1, 3) := by decide +kernel
theorem d_Mo_tookNumber_93 : decode M_Mo_tookNumber.2.1 93 = .ok (.goto (-59), 3) := by decide +kernel
theorem d_Mo_tookNumber_96 : decode M_Mo_tookNumber.2.1 96 = .ok (.iconst 0, 1) := by decide +kernel
theorem d_Mo_tookNumber_97 : decode M_Mo_tookNumber.2.1 97 = .ok (.istore 5, 2) := by decide +kernel
theorem d_Mo_tookNumber_99 : decode M_Mo_tookNumber.2.1 99 = .ok (.iload_n 2, 1) := by decide +kernel
theorem d_Mo_tookNumber_100 : decode M_Mo_tookNumber.2.1 100 = .ok (.aload_n 0, 1) := by decide +kernel
theorem d_Mo_tookNumber_101 : decode M_Mo_tookNumber.2.1 101 = .ok (.getfield 33, 3) := by decide +kernel
theorem d_Mo_tookNumber_104 : decode M_Mo_tookNumber.2.1 104 = .ok (.aload_n 0, 1) := by decide +kernel
theorem d_Mo_tookNumber_105 : decode M_Mo_tookNumber.2.1 105 = .ok (.getfield 59, 3) := by decide +kernel
theorem d_Mo_tookNumber_108 : decode M_Mo_tookNumber.2.1 108 = .ok (.iaload, 1) := by decide +kernel
theorem d_Mo_tookNumber_109 : decode M_Mo_tookNumber.2.1 109 = .ok (.if_icmp .ge 18, 3) := by decide +kernel
theorem d_Mo_tookNumber_112 : decode M_Mo_tookNumber.2.1 112 = .ok (.aload_n 0, 1) := by decide +kernel
theorem d_Mo_tookNumber_113 : decode M_Mo_tookNumber.2.1 113 = .ok (.getfield 7, 3) := by decide +kernel
theorem d_Mo_tookNumber_116 : decode M_Mo_tookNumber.2.1 116 = .ok (.iload_n 2, 1) := by decide +kernel
theorem d_Mo_tookNumber_117 : decode M_Mo_tookNumber.2.1 117 = .ok (.iaload, 1) := by decide +kernel
theorem d_Mo_tookNumber_118 : decode M_Mo_tookNumber.2.1 118 = .ok (.bipush 46, 2) := by decide +kernel
theorem d_Mo_tookNumber_120 : decode M_Mo_tookNumber.2.1 120 = .ok (.if_icmp .ne 7, 3) := by decide +kernel
theorem d_Mo_tookNumber_123 : decode M_Mo_tookNumber.2.1 123 = .ok (.iconst 1, 1) := by decide +kernel
theorem d_Mo_tookNumber_124 : decode M_Mo_tookNumber.2.1 124 = .ok (.goto 4, 3) := by decide +kernel
theorem d_Mo_tookNumber_127 : decode M_Mo_tookNumber.2.1 127 = .ok (.iconst 0, 1) := by decide +kernel
theorem d_Mo_tookNumber_128 : decode M_Mo_tookNumber.2.1 128 = .ok (.istore 6, 2) := by decide +kernel
theorem d_Mo_tookNumber_130 : decode M_Mo_tookNumber.2.1 130 = .ok (.iload 6, 2) := by decide +kernel
theorem d_Mo_tookNumber_132 : decode M_Mo_tookNumber.2.1 132 = .ok (.ifCond .eq 6, 3) := by decide +kernel
theorem d_Mo_tookNumber_135 : decode M_Mo_tookNumber.2.1 135 = .ok (.iinc 2 1, 3) := by decide +kernel
theorem d_Mo_tookNumber_138 : decode M_Mo_tookNumber.2.1 138 = .ok (.iload 6, 2) := by decide +kernel
theorem d_Mo_tookNumber_140 : decode M_Mo_tookNumber.2.1 140 = .ok (.ifCond .eq 66, 3) := by decide +kernel
theorem d_Mo_tookNumber_143 : decode M_Mo_tookNumber.2.1 143 = .ok (.iload_n 2, 1) := by decide +kernel
theorem d_Mo_tookNumber_144 : decode M_Mo_tookNumber.2.1 144 = .ok (.aload_n 0, 1) := by decide +kernel
theorem d_Mo_tookNumber_145 : decode M_Mo_tookNumber.2.1 145 = .ok (.getfield 33, 3) := by decide +kernel
theorem d_Mo_tookNumber_148 : decode M_Mo_tookNumber.2.1 148 = .ok (.aload_n 0, 1) := by decide +kernel
theorem d_Mo_tookNumber_149 : decode M_Mo_tookNumber.2.1 149 = .ok (.getfield 59, 3) := by decide +kernel
theorem d_Mo_tookNumber_152 : decode M_Mo_tookNumber.2.1 152 = .ok (.iaload, 1) := by decide +kernel
theorem d_Mo_tookNumber_153 : decode M_Mo_tookNumber.2.1 153 = .ok (.if_icmp .ge 53, 3) := by decide +kernel
theorem d_Mo_tookNumber_156 : decode M_Mo_tookNumber.2.1 156 = .ok (.aload_n 0, 1) := by decide +kernel
theorem d_Mo_tookNumber_157 : decode M_Mo_tookNumber.2.1 157 = .ok (.getfield 7, 3) := by decide +kernel
theorem d_Mo_tookNumber_160 : decode M_Mo_tookNumber.2.1 160 = .ok (.iload_n 2, 1) := by decide +kernel
theorem d_Mo_tookNumber_161 : decode M_Mo_tookNumber.2.1 161 = .ok (.iaload, 1) := by decide +kernel
theorem d_Mo_tookNumber_162 : decode M_Mo_tookNumber.2.1 162 = .ok (.invokestatic 47, 3) := by decide +kernel
theorem d_Mo_tookNumber_165 : decode M_Mo_tookNumber.2.1 165 = .ok (.ifCond .eq 41, 3) := by decide +kernel
theorem d_Mo_tookNumber_168 : decode M_Mo_tookNumber.2.1 168 = .ok (.iload 5, 2) := by decide +kernel
theorem d_Mo_tookNumber_170 : decode M_Mo_tookNumber.2.1 170 = .ok (.bipush 7, 2) := by decide +kernel
theorem d_Mo_tookNumber_172 : decode M_Mo_tookNumber.2.1 172 = .ok (.if_icmp .ge 23, 3) := by decide +kernel
theorem d_Mo_tookNumber_175 : decode M_Mo_tookNumber.2.1 175 = .ok (.ldc2_w 114, 3) := by decide +kernel
theorem d_Mo_tookNumber_178 : decode M_Mo_tookNumber.2.1 178 = .ok (.lload_n 3, 1) := by decide +kernel
theorem d_Mo_tookNumber_179 : decode M_Mo_tookNumber.2.1 179 = .ok (.lmul, 1) := by decide +kernel
theorem d_Mo_tookNumber_180 : decode M_Mo_tookNumber.2.1 180 = .ok (.aload_n 0, 1) := by decide +kernel
theorem d_Mo_tookNumber_181 : decode M_Mo_tookNumber.2.1 181 = .ok (.getfield 7, 3) := by decide +kernel
theorem d_Mo_tookNumber_184 : decode M_Mo_tookNumber.2.1 184 = .ok (.iload_n 2, 1) := by decide +kernel
theorem d_Mo_tookNumber_185 : decode M_Mo_tookNumber.2.1 185 = .ok (.iaload, 1) := by decide +kernel
theorem d_Mo_tookNumber_186 : decode M_Mo_tookNumber.2.1 186 = .ok (.i2l, 1) := by decide +kernel
theorem d_Mo_tookNumber_187 : decode M_Mo_tookNumber.2.1 187 = .ok (.ladd, 1) := by decide +kernel
theorem d_Mo_tookNumber_188 : decode M_Mo_tookNumber.2.1 188 = .ok (.ldc2_w 116, 3) := by decide +kernel
theorem d_Mo_tookNumber_191 : decode M_Mo_tookNumber.2.1 191 = .ok (.lsub, 1) := by decide +kernel
theorem d_Mo_tookNumber_192 : decode M_Mo_tookNumber.2.1 192 = .ok (.goto 4, 3) := by decide +kernel
theorem d_Mo_tookNumber_195 : decode M_Mo_tookNumber.2.1 195 = .ok (.lload_n 3, 1) := by decide +kernel
theorem d_Mo_tookNumber_196 : decode M_Mo_tookNumber.2.1 196 = .ok (.lstore_n 3, 1) := by decide +kernel
theorem d_Mo_tookNumber_197 : decode M_Mo_tookNumber.2.1 197 = .ok (.iinc 5 1, 3) := by decide +kernel
theorem d_Mo_tookNumber_200 : decode M_Mo_tookNumber.2.1 200 = .ok (.iinc 2 1, 3) := by decide +kernel
theorem d_Mo_tookNumber_203 : decode M_Mo_tookNumber.2.1 203 = .ok (.goto (-65), 3) := by decide +kernel
theorem d_Mo_tookNumber_206 : decode M_Mo_tookNumber.2.1 206 = .ok (.iload_n 2, 1) := by decide +kernel
theorem d_Mo_tookNumber_207 : decode M_Mo_tookNumber.2.1 207 = .ok (.aload_n 0, 1) := by decide +kernel
theorem d_Mo_tookNumber_208 : decode M_Mo_tookNumber.2.1 208 = .ok (.getfield 33, 3) := by decide +kernel
theorem d_Mo_tookNumber_211 : decode M_Mo_tookNumber.2.1 211 = .ok (.aload_n 0, 1) := by decide +kernel
theorem d_Mo_tookNumber_212 : decode M_Mo_tookNumber.2.1 212 = .ok (.getfield 59, 3) := by decide +kernel
theorem d_Mo_tookNumber_215 : decode M_Mo_tookNumber.2.1 215 = .ok (.iaload, 1) := by decide +kernel
theorem d_Mo_tookNumber_216 : decode M_Mo_tookNumber.2.1 216 = .ok (.if_icmp .ne 34, 3) := by decide +kernel
theorem d_Mo_tookNumber_219 : decode M_Mo_tookNumber.2.1 219 = .ok (.iload_n 1, 1) := by decide +kernel
theorem d_Mo_tookNumber_220 : decode M_Mo_tookNumber.2.1 220 = .ok (.ifCond .le 30, 3) := by decide +kernel
theorem d_Mo_tookNumber_223 : decode M_Mo_tookNumber.2.1 223 = .ok (.iload_n 1, 1) := by decide +kernel
theorem d_Mo_tookNumber_224 : decode M_Mo_tookNumber.2.1 224 = .ok (.bipush 10, 2) := by decide +kernel
theorem d_Mo_tookNumber_226 : decode M_Mo_tookNumber.2.1 226 = .ok (.if_icmp .ge 24, 3) := by decide +kernel
theorem d_Mo_tookNumber_229 : decode M_Mo_tookNumber.2.1 229 = .ok (.iload 6, 2) := by decide +kernel
theorem d_Mo_tookNumber_231 : decode M_Mo_tookNumber.2.1 231 = .ok (.ifCond .eq 15, 3) := by decide +kernel
theorem d_Mo_tookNumber_234 : decode M_Mo_tookNumber.2.1 234 = .ok (.iload 5, 2) := by decide +kernel
theorem d_Mo_tookNumber_236 : decode M_Mo_tookNumber.2.1 236 = .ok (.ifCond .le 14, 3) := by decide +kernel
theorem d_Mo_tookNumber_239 : decode M_Mo_tookNumber.2.1 239 = .ok (.iload 5, 2) := by decide +kernel
theorem d_Mo_tookNumber_241 : decode M_Mo_tookNumber.2.1 241 = .ok (.bipush 7, 2) := by decide +kernel
theorem d_Mo_tookNumber_243 : decode M_Mo_tookNumber.2.1 243 = .ok (.if_icmp .ge 7, 3) := by decide +kernel
theorem d_Mo_tookNumber_246 : decode M_Mo_tookNumber.2.1 246 = .ok (.iconst 1, 1) := by decide +kernel
theorem d_Mo_tookNumber_247 : decode M_Mo_tookNumber.2.1 247 = .ok (.goto 4, 3) := by decide +kernel
theorem d_Mo_tookNumber_250 : decode M_Mo_tookNumber.2.1 250 = .ok (.iconst 0, 1) := by decide +kernel
theorem d_Mo_tookNumber_251 : decode M_Mo_tookNumber.2.1 251 = .ok (.istore 7, 2) := by decide +kernel
theorem d_Mo_tookNumber_253 : decode M_Mo_tookNumber.2.1 253 = .ok (.iload 7, 2) := by decide +kernel
theorem d_Mo_tookNumber_255 : decode M_Mo_tookNumber.2.1 255 = .ok (.ifCond .ne 5, 3) := by decide +kernel
theorem d_Mo_tookNumber_258 : decode M_Mo_tookNumber.2.1 258 = .ok (.iconst 0, 1) := by decide +kernel
theorem d_Mo_tookNumber_259 : decode M_Mo_tookNumber.2.1 259 = .ok (.ireturn, 1) := by decide +kernel
theorem d_Mo_tookNumber_260 : decode M_Mo_tookNumber.2.1 260 = .ok (.iload 5, 2) := by decide +kernel
theorem d_Mo_tookNumber_262 : decode M_Mo_tookNumber.2.1 262 = .ok (.istore 8, 2) := by decide +kernel
theorem d_Mo_tookNumber_264 : decode M_Mo_tookNumber.2.1 264 = .ok (.iload 8, 2) := by decide +kernel
theorem d_Mo_tookNumber_266 : decode M_Mo_tookNumber.2.1 266 = .ok (.bipush 6, 2) := by decide +kernel
theorem d_Mo_tookNumber_268 : decode M_Mo_tookNumber.2.1 268 = .ok (.if_icmp .ge 15, 3) := by decide +kernel
theorem d_Mo_tookNumber_271 : decode M_Mo_tookNumber.2.1 271 = .ok (.ldc2_w 114, 3) := by decide +kernel
theorem d_Mo_tookNumber_274 : decode M_Mo_tookNumber.2.1 274 = .ok (.lload_n 3, 1) := by decide +kernel
theorem d_Mo_tookNumber_275 : decode M_Mo_tookNumber.2.1 275 = .ok (.lmul, 1) := by decide +kernel
theorem d_Mo_tookNumber_276 : decode M_Mo_tookNumber.2.1 276 = .ok (.lstore_n 3, 1) := by decide +kernel
theorem d_Mo_tookNumber_277 : decode M_Mo_tookNumber.2.1 277 = .ok (.iinc 8 1, 3) := by decide +kernel
theorem d_Mo_tookNumber_280 : decode M_Mo_tookNumber.2.1 280 = .ok (.goto (-16), 3) := by decide +kernel
theorem d_Mo_tookNumber_283 : decode M_Mo_tookNumber.2.1 283 = .ok (.aload_n 0, 1) := by decide +kernel
theorem d_Mo_tookNumber_284 : decode M_Mo_tookNumber.2.1 284 = .ok (.lload_n 3, 1) := by decide +kernel
theorem d_Mo_tookNumber_285 : decode M_Mo_tookNumber.2.1 285 = .ok (.putfield 118, 3) := by decide +kernel
theorem d_Mo_tookNumber_288 : decode M_Mo_tookNumber.2.1 288 = .ok (.aload_n 0, 1) := by decide +kernel
theorem d_Mo_tookNumber_289 : decode M_Mo_tookNumber.2.1 289 = .ok (.dup, 1) := by decide +kernel
theorem d_Mo_tookNumber_290 : decode M_Mo_tookNumber.2.1 290 = .ok (.getfield 59, 3) := by decide +kernel
theorem d_Mo_tookNumber_293 : decode M_Mo_tookNumber.2.1 293 = .ok (.iconst 1, 1) := by decide +kernel
theorem d_Mo_tookNumber_294 : decode M_Mo_tookNumber.2.1 294 = .ok (.iadd, 1) := by decide +kernel
theorem d_Mo_tookNumber_295 : decode M_Mo_tookNumber.2.1 295 = .ok (.putfield 59, 3) := by decide +kernel
theorem d_Mo_tookNumber_298 : decode M_Mo_tookNumber.2.1 298 = .ok (.iconst 1, 1) := by decide +kernel
theorem d_Mo_tookNumber_299 : decode M_Mo_tookNumber.2.1 299 = .ok (.ireturn, 1) := by decide +kernel
section
variable {e : Nat} {t : Nat → Int32}
theorem de_step {i : Nat} (h : i < e) (hb : isDig (t i)) : de e t (e - i) i = de e t (e - (i + 1)) (i + 1) := by
  obtain ⟨f, hf⟩ : ∃ f, e - i = f + 1 := ⟨e - i - 1, by omega⟩
  rw [hf, show e - (i + 1) = f by omega]
  show (if i < e ∧ 48 ≤ (t i).toInt ∧ (t i).toInt ≤ 57 then _ else _) = _
  rw [if_pos ⟨h, hb⟩]
theorem de_stop {i f : Nat} (h : ¬ (i < e ∧ isDig (t i))) : de e t f i = i := by
  cases f with
  | zero => rfl
  | succ f =>
    exact if_neg h
theorem de_dig : ∀ f i, f = e - i → i ≤ e → ∀ x, i ≤ x → x < de e t f i → isDig (t x)
  | 0, i, hf, hi, x, h1, h2 => by
    unfold de at h2
    omega
  | f + 1, i, hf, hi, x, h1, h2 => by
    by_cases hd : isDig (t i)
    · by_cases q : x = i
      · subst q; exact hd
      · refine de_dig f (i + 1) (by omega) (by omega) x (by omega) ?_
        rw [hf, de_step (by omega) hd, show e - (i + 1) = f by omega] at h2
        exact h2
    · rw [hf, de_stop (fun z => hd z.2)] at h2
      omega
theorem dvF_snoc : ∀ c k v, dvF t (c + 1) k v = 10 * dvF t c k v + ((t (k + c)).toInt - 48).toNat
  | 0, k, v => rfl
  | c + 1, k, v => by
    show dvF t (c + 1) (k + 1) _ = 10 * dvF t c (k + 1) _ + _
    rw [dvF_snoc c (k + 1), show k + 1 + c = k + (c + 1) by omega]
theorem dvF_lin : ∀ c k v, dvF t c k v = v * 10 ^ c + dvF t c k 0
  | 0, k, v => by
    show v = v * 1 + 0
    omega
  | c + 1, k, v => by
    rw [dvF_snoc, dvF_snoc, dvF_lin c k v, Nat.pow_succ]
    have : v * (10 ^ c * 10) = 10 * (v * 10 ^ c) := by rw [← Nat.mul_assoc, Nat.mul_comm]
    omega
end
theorem e_mil : (10 : Nat) ^ 6 = 1000000 := by decide
theorem nl_dig {v : Nat} {c : Int32} (hc : isDig c) : Int64.ofNat (10 * v) + c.toInt64 - 48 = Int64.ofNat (10 * v + (c.toInt - 48).toNat) := by
  obtain ⟨d, hd, e⟩ := nI_of (x := c) (by rw [il, i_0]; unfold isDig at hc; omega)
  have h1 : c.toInt = d := by rw [e, nI_toInt hd]
  unfold isDig at hc
  rw [e, nl_i2l hd, nl_add, show (48 : Int64) = Int64.ofNat 48 from rfl, nl_sub (by omega), nI_toInt hd]
  congr 1
  omega
section
variable {nx : Nat} {ct : Nat → Nat × Nat} {m0 : Nat → Nat → Int32} {ml : Nat → Nat → Int64} {mr : Nat → Nat → Option Nat} {n m : Nat} {t : Nat → Int32}
def tnP (n : Nat) (t : Nat → Int32) (j : Nat) (nx : Nat) (ct : Nat → Nat × Nat) (m0 : Nat → Nat → Int32) (ml : Nat → Nat → Int64) (mr : Nat → Nat → Option Nat) : Option Value → rx_S → Prop := fun v τ => match amt n t j with
  | some A => v = some (.int 1) ∧ τ = (nx, ct, mS m0 (nI (j + 1)) (-1), rx_u ml 398 17 (Int64.ofNat (A.1 * 1000000 + A.2)), mr)
  | none => v = some (.int 0) ∧ τ = (nx, ct, mS m0 (nI j) (-1), ml, mr)
theorem sq_tookNumber {j : Nat} (hL : LAY nx ct mr) (h : PMs n m t m0) (hj : j < 4000) : rx_Calls y_Mo_tookNumber M_Mo_tookNumber 1 0 0 [.ref 398] (nx, ct, mS m0 (nI j) (-1), ml, mr) (tnP n t j nx ct m0 ml mr) := by
  refine rx_enter (by decide) rfl rfl (Nat.le_of_ble_eq_true rfl) ?_
  generalize hp : tnP n t j nx ct m0 ml mr = post
  have hle := tk_le (n := n) (t := t) j
  have hn := h.2.2.1
  have ht : mS m0 (nI j) (-1) 399 = t := by rw [mS_r]; exact h.2.1
  have h9 : mS m0 (nI j) (-1) 398 9 = nI m := by rw [mS_k]; exact h.2.2.2.2.1
  have hmn := h.2.2.2.2.2.1
  have hno : amt n t j = none → post (some (.int 0)) (nx, ct, mS m0 (nI j) (-1), ml, mr) := by
    intro e
    rw [← hp]
    unfold tnP
    rw [e]
    exact ⟨rfl, rfl⟩
  by_cases hjm : m ≤ j
  · have e : amt n t j = none := by
      unfold amt
      rw [tk_end h.2.2.2.2.2.2.2 j hjm]
      dsimp only
      rw [de_stop (by omega)]
      exact if_pos (by omega)
    refine ru_aload_n d_Mo_tookNumber_0 rfl rfl ?_
    refine ru_callV (mc := 0) (ms := 0) d_Mo_tookNumber_1 lm_Mo_75 (sq_good hL) (rx_recv_is (ly hL 398 9 0) kx_Mo) (by decide) rfl (Nat.le_of_ble_eq_true rfl) ?_
    intro v τ h
    obtain ⟨rfl, rfl⟩ := h
    refine ru_if_eq (tgt := 18) d_Mo_tookNumber_4 (by decide) (fun h4 => absurd h4 (bI_ne0.mpr rfl)) (fun h4 => ?_)
    refine ru_aload_n d_Mo_tookNumber_7 rfl rfl ?_
    refine ru_getI d_Mo_tookNumber_8 lf_Mo_59 (ly hL 398 9 0) rfl ?_
    refine ru_eqi mS_w ?_
    refine ru_aload_n d_Mo_tookNumber_11 rfl rfl ?_
    refine ru_getI d_Mo_tookNumber_12 lf_Mo_53 (ly hL 398 9 0) rfl ?_
    refine ru_eqi h9 ?_
    refine ru_icmp_lt (tgt := 20) d_Mo_tookNumber_15 (by decide) (fun h15 => absurd h15 (nI_nlt (by omega) (by omega))) (fun h15 => ?_)
    replace h15 := nm_nlt (a := j) (b := m) (by omega) (by omega) h15
    refine ru_iconst (v := 0) d_Mo_tookNumber_18 (by decide) ?_
    refine ru_zret (ty := .boolean) d_Mo_tookNumber_19 rfl rfl ?_
    exact hno e
  replace hjm : j < m := by omega
  have a7 := h.2.2.2.2.2.2.1 j hjm
  have a7' : mS m0 (nI j) (-1) 405 j = nI (tk n t j).1 := by rw [mS_r]; exact a7.1
  have a8' : mS m0 (nI j) (-1) 406 j = nI (tk n t j).2 := by rw [mS_r]; exact a7.2.1
  -- the places are filled up
  have fill : ∀ A, amt n t j = some A → ∀ f k v, f = 6 - k → k ≤ 6 → v * 10 ^ f = A.1 * 1000000 + A.2 → rx_W M_Mo_tookNumber 1 0 0 264 [(0, .ref 398), (3, .long (Int64.ofNat v)), (8, .int (nI k))] [] (nx, ct, mS m0 (nI j) (-1), ml, mr) (pR post) := by
    intro A hA f
    induction f with
    | zero =>
      intro k v hf hk hv
      refine ru_iload d_Mo_tookNumber_264 rfl ?_
      refine ru_bipush (v := 6) d_Mo_tookNumber_266 (by decide) ?_
      refine ru_icmp_ge (tgt := 283) d_Mo_tookNumber_268 (by decide) (fun h268 => ?_) (fun h268 => absurd (nI_le (a := 6) (by omega) (by omega)) h268)
      replace h268 := nm_le (a := 6) (b := k) (by omega) (by omega) h268
      refine ru_aload_n d_Mo_tookNumber_283 rfl rfl ?_
      refine ru_lload_n d_Mo_tookNumber_284 rfl rfl ?_
      refine ru_putL d_Mo_tookNumber_285 lf_Mo_118 (ly hL 398 9 0) rfl (fun q hq => by cases hq; exact Or.inl rfl) ?_
      refine ru_aload_n d_Mo_tookNumber_288 rfl rfl ?_
      refine ru_dup d_Mo_tookNumber_289 rfl ?_
      refine ru_getI d_Mo_tookNumber_290 lf_Mo_59 (ly hL 398 9 0) rfl ?_
      refine ru_eqi mS_w ?_
      refine ru_iconst (v := 1) d_Mo_tookNumber_293 (by decide) ?_
      refine ru_iadd d_Mo_tookNumber_294 ?_
      refine ru_eqi (nm_add j 1 : _ = nI (j + 1)) ?_
      refine ru_putI d_Mo_tookNumber_295 lf_Mo_59 (ly hL 398 9 0) rfl (fun q hq => by cases hq; exact Or.inl rfl) ⟨rfl, rfl⟩ ?_
      refine ru_iconst (v := 1) d_Mo_tookNumber_298 (by decide) ?_
      refine ru_zret (ty := .boolean) d_Mo_tookNumber_299 rfl rfl ?_
      rw [← hp]
      unfold tnP
      rw [hA, mS_sw]
      dsimp only
      rw [← hv, Nat.pow_zero, Nat.mul_one]
      exact ⟨rfl, rfl⟩
    | succ f ih =>
      intro k v hf hk hv
      refine ru_iload d_Mo_tookNumber_264 rfl ?_
      refine ru_bipush (v := 6) d_Mo_tookNumber_266 (by decide) ?_
      refine ru_icmp_ge (tgt := 283) d_Mo_tookNumber_268 (by decide) (fun h268 => absurd h268 (nI_ge (b := 6) (by omega) (by omega))) (fun h268 => ?_)
      replace h268 := nm_nle (a := 6) (b := k) (by omega) (by omega) h268
      refine ru_ldc2 d_Mo_tookNumber_271 lc_Mo_114 ?_
      refine ru_lload_n d_Mo_tookNumber_274 rfl rfl ?_
      refine ru_lmul d_Mo_tookNumber_275 ?_
      refine ru_eql (nl_mul 10 v : _ = Int64.ofNat (10 * v)) ?_
      refine ru_lstore_n d_Mo_tookNumber_276 rfl (by decide) ?_
      refine ru_iinc (v := nI (k + 1)) d_Mo_tookNumber_277 rfl (nm_inc _ 1) (by decide) ?_
      refine ru_goto (tgt := 264) d_Mo_tookNumber_280 (by decide) ?_
      exact ru_to (ih (k + 1) (10 * v) (by omega) (by omega) (by rw [← hv, Nat.pow_succ, ← Nat.mul_assoc, Nat.mul_comm 10 v, Nat.mul_assoc v 10, Nat.mul_comm 10, Nat.mul_assoc])) ⟨rfl, rfl, rfl, trivial⟩
  generalize hb : (tk n t j).1 = b at a7' a7 hle
  generalize he : (tk n t j).2 = e at a8' a7 hle
  have hamt : amt n t j = (if de e t (e - b) b - b < 1 ∨ 9 < de e t (e - b) b - b then none else if de e t (e - b) b = e then some (dvF t (de e t (e - b) b - b) b 0, 0) else if (t (de e t (e - b) b)).toInt = 46 ∧ de e t (e - (de e t (e - b) b + 1)) (de e t (e - b) b + 1) = e ∧ 1 ≤ e - (de e t (e - b) b + 1) ∧ e - (de e t (e - b) b + 1) ≤ 6 then some (dvF t (de e t (e - b) b - b) b 0, dvF t (e - (de e t (e - b) b + 1)) (de e t (e - b) b + 1) 0 * 10 ^ (6 - (e - (de e t (e - b) b + 1)))) else none) := by
    unfold amt
    rw [hb, he]
  -- the second loop
  have loop2 : ∀ (p W : Nat) (K : ∀ (q : Nat) (v : Int64), q = de e t (e - (p + 1)) (p + 1) → (p - b ≤ 9 → q - (p + 1) ≤ 7 → v = Int64.ofNat (dvF t (q - (p + 1)) (p + 1) W)) → rx_W M_Mo_tookNumber 1 0 0 206 [(0, .ref 398), (1, .int (nI (p - b))), (2, .int (nI q)), (3, .long v), (5, .int (nI (q - (p + 1)))), (6, .int 1)] [] (nx, ct, mS m0 (nI j) (-1), ml, mr) (pR post)), p < e → b ≤ p → ∀ f i (v : Int64), f = e - i → i ≤ e → p + 1 ≤ i → de e t (e - (p + 1)) (p + 1) = de e t f i → (p - b ≤ 9 → i - (p + 1) ≤ 7 → v = Int64.ofNat (dvF t (i - (p + 1)) (p + 1) W)) → rx_W M_Mo_tookNumber 1 0 0 138 [(0, .ref 398), (1, .int (nI (p - b))), (2, .int (nI i)), (3, .long v), (5, .int (nI (i - (p + 1)))), (6, .int 1)] [] (nx, ct, mS m0 (nI j) (-1), ml, mr) (pR post) := by
    intro p W K hpe hbp f
    induction f with
    | zero =>
      intro i v hf hi hpi hd hv
      refine ru_iload d_Mo_tookNumber_138 rfl ?_
      refine ru_if_eq (tgt := 206) d_Mo_tookNumber_140 (by decide) (fun h140 => absurd h140 (by decide)) (fun h140 => ?_)
      refine ru_iload_n d_Mo_tookNumber_143 rfl rfl ?_
      refine ru_aload_n d_Mo_tookNumber_144 rfl rfl ?_
      refine ru_getR d_Mo_tookNumber_145 lf_Mo_33 (ly hL 398 9 0) rfl (lr hL 398 11 406) ?_
      refine ru_aload_n d_Mo_tookNumber_148 rfl rfl ?_
      refine ru_getI d_Mo_tookNumber_149 lf_Mo_59 (ly hL 398 9 0) rfl ?_
      refine ru_eqi mS_w ?_
      refine ru_ialdN (j := j) d_Mo_tookNumber_152 (ly hL 406 100 3001) (by omega) (by decide) ?_
      refine ru_eqi a8' ?_
      refine ru_icmp_ge (tgt := 206) d_Mo_tookNumber_153 (by decide) (fun h153 => ?_) (fun h153 => absurd (nI_le (by omega) (by omega)) h153)
      replace h153 := nm_le (a := e) (b := i) (by omega) (by omega) h153
      exact ru_to (K i v hd.symm hv) ⟨rfl, rfl, rfl, rfl, rfl, rfl, trivial⟩
    | succ f ih =>
      intro i v hf hi hpi hd hv
      have hs : i + 1 - (p + 1) = i - (p + 1) + 1 := by omega
      refine ru_iload d_Mo_tookNumber_138 rfl ?_
      refine ru_if_eq (tgt := 206) d_Mo_tookNumber_140 (by decide) (fun h140 => absurd h140 (by decide)) (fun h140 => ?_)
      refine ru_iload_n d_Mo_tookNumber_143 rfl rfl ?_
      refine ru_aload_n d_Mo_tookNumber_144 rfl rfl ?_
      refine ru_getR d_Mo_tookNumber_145 lf_Mo_33 (ly hL 398 9 0) rfl (lr hL 398 11 406) ?_
      refine ru_aload_n d_Mo_tookNumber_148 rfl rfl ?_
      refine ru_getI d_Mo_tookNumber_149 lf_Mo_59 (ly hL 398 9 0) rfl ?_
      refine ru_eqi mS_w ?_
      refine ru_ialdN (j := j) d_Mo_tookNumber_152 (ly hL 406 100 3001) (by omega) (by decide) ?_
      refine ru_eqi a8' ?_
      refine ru_icmp_ge (tgt := 206) d_Mo_tookNumber_153 (by decide) (fun h153 => absurd h153 (nI_ge (by omega) (by omega))) (fun h153 => ?_)
      replace h153 := nm_nle (a := e) (b := i) (by omega) (by omega) h153
      refine ru_aload_n d_Mo_tookNumber_156 rfl rfl ?_
      refine ru_getR d_Mo_tookNumber_157 lf_Mo_7 (ly hL 398 9 0) rfl (lr hL 398 1 399) ?_
      refine ru_iload_n d_Mo_tookNumber_160 rfl rfl ?_
      refine ru_ialdN (j := i) d_Mo_tookNumber_161 (ly hL 399 100 3000) (by omega) (by decide) ?_
      rw [ht]
      refine ru_callS (mc := 0) (ms := 0) d_Mo_tookNumber_162 lm_Mo_47 (sp_Mo_isDigit _ _) (by decide) rfl (Nat.le_of_ble_eq_true rfl) ?_
      intro v τ h
      obtain ⟨rfl, rfl⟩ := h
      refine ru_if_eq (tgt := 206) d_Mo_tookNumber_165 (by decide) (fun h165 => ?_) (fun h165 => ?_)
      · skip
        replace h165 := bI_eq0.mp h165
        rw [hf, de_stop (fun z => h165 z.2)] at hd
        exact ru_to (K i v hd.symm hv) ⟨rfl, rfl, rfl, rfl, rfl, rfl, trivial⟩
      · skip
        replace h165 := bI_ne0.mp h165
        refine ru_iload d_Mo_tookNumber_168 rfl ?_
        refine ru_bipush (v := 7) d_Mo_tookNumber_170 (by decide) ?_
        refine ru_icmp_ge (tgt := 195) d_Mo_tookNumber_172 (by decide) (fun h172 => ?_) (fun h172 => ?_)
        · skip
          replace h172 := nm_le (a := 7) (b := (i-(p+1))) (by omega) (by omega) h172
          refine ru_lload_n d_Mo_tookNumber_195 rfl rfl ?_
          refine ru_lstore_n d_Mo_tookNumber_196 rfl (by decide) ?_
          refine ru_iinc (v := nI ((i-(p+1)) + 1)) d_Mo_tookNumber_197 rfl (nm_inc _ 1) (by decide) ?_
          refine ru_iinc (v := nI (i + 1)) d_Mo_tookNumber_200 rfl (nm_inc _ 1) (by decide) ?_
          refine ru_goto (tgt := 138) d_Mo_tookNumber_203 (by decide) ?_
          rw [hf, de_step (by omega) h165, show e - (i + 1) = f by omega] at hd
          refine ru_to (ih (i + 1) _ (by omega) (by omega) (by omega) hd ?_) ⟨rfl, rfl, rfl, rfl, by rw [hs]; rfl, rfl, trivial⟩
          intro z1 z2
          first | (exfalso; omega) | (rw [hs, dvF_snoc, hv z1 (by omega), show p + 1 + (i - (p + 1)) = i by omega]; exact (congrArg (fun x => x + (t i).toInt64 - 48) (nl_mul 10 _)).trans (nl_dig h165))
        · skip
          replace h172 := nm_nle (a := 7) (b := (i-(p+1))) (by omega) (by omega) h172
          refine ru_ldc2 d_Mo_tookNumber_175 lc_Mo_114 ?_
          refine ru_lload_n d_Mo_tookNumber_178 rfl rfl ?_
          refine ru_lmul d_Mo_tookNumber_179 ?_
          refine ru_aload_n d_Mo_tookNumber_180 rfl rfl ?_
          refine ru_getR d_Mo_tookNumber_181 lf_Mo_7 (ly hL 398 9 0) rfl (lr hL 398 1 399) ?_
          refine ru_iload_n d_Mo_tookNumber_184 rfl rfl ?_
          refine ru_ialdN (j := i) d_Mo_tookNumber_185 (ly hL 399 100 3000) (by omega) (by decide) ?_
          rw [ht]
          refine ru_i2l d_Mo_tookNumber_186 ?_
          refine ru_ladd d_Mo_tookNumber_187 ?_
          refine ru_ldc2 d_Mo_tookNumber_188 lc_Mo_116 ?_
          refine ru_lsub d_Mo_tookNumber_191 ?_
          refine ru_goto (tgt := 196) d_Mo_tookNumber_192 (by decide) ?_
          refine ru_lstore_n d_Mo_tookNumber_196 rfl (by decide) ?_
          refine ru_iinc (v := nI ((i-(p+1)) + 1)) d_Mo_tookNumber_197 rfl (nm_inc _ 1) (by decide) ?_
          refine ru_iinc (v := nI (i + 1)) d_Mo_tookNumber_200 rfl (nm_inc _ 1) (by decide) ?_
          refine ru_goto (tgt := 138) d_Mo_tookNumber_203 (by decide) ?_
          rw [hf, de_step (by omega) h165, show e - (i + 1) = f by omega] at hd
          refine ru_to (ih (i + 1) _ (by omega) (by omega) (by omega) hd ?_) ⟨rfl, rfl, rfl, rfl, by rw [hs]; rfl, rfl, trivial⟩
          intro z1 z2
          first | (exfalso; omega) | (rw [hs, dvF_snoc, hv z1 (by omega), show p + 1 + (i - (p + 1)) = i by omega]; exact (congrArg (fun x => x + (t i).toInt64 - 48) (nl_mul 10 _)).trans (nl_dig h165))
  -- behind the whole part
  have mid : ∀ (p : Nat) (v : Int64), p = de e t (e - b) b → b ≤ p → p ≤ e → (p - b ≤ 10 → v = Int64.ofNat (dvF t (p - b) b 0)) → rx_W M_Mo_tookNumber 1 0 0 96 [(0, .ref 398), (1, .int (nI (p - b))), (2, .int (nI p)), (3, .long v)] [] (nx, ct, mS m0 (nI j) (-1), ml, mr) (pR post) := by
    intro p v hpd hbp hpe hv
    rw [← hpd] at hamt
    by_cases h46 : p < e ∧ t p = 46
    · have hK : ∀ (q : Nat) (v' : Int64), q = de e t (e - (p + 1)) (p + 1) → (p - b ≤ 9 → q - (p + 1) ≤ 7 → v' = Int64.ofNat (dvF t (q - (p + 1)) (p + 1) (dvF t (p - b) b 0))) → rx_W M_Mo_tookNumber 1 0 0 206 [(0, .ref 398), (1, .int (nI (p - b))), (2, .int (nI q)), (3, .long v'), (5, .int (nI (q - (p + 1)))), (6, .int 1)] [] (nx, ct, mS m0 (nI j) (-1), ml, mr) (pR post) := by
        intro q v' hq hv'
        have hqe := de_le e t (e - (p + 1)) (p + 1) (by omega)
        rw [← hq] at hamt hqe
        have h46' : (t p).toInt = 46 := by rw [h46.2, i_46]
        refine ru_iload_n d_Mo_tookNumber_206 rfl rfl ?_
        refine ru_aload_n d_Mo_tookNumber_207 rfl rfl ?_
        refine ru_getR d_Mo_tookNumber_208 lf_Mo_33 (ly hL 398 9 0) rfl (lr hL 398 11 406) ?_
        refine ru_aload_n d_Mo_tookNumber_211 rfl rfl ?_
        refine ru_getI d_Mo_tookNumber_212 lf_Mo_59 (ly hL 398 9 0) rfl ?_
        refine ru_eqi mS_w ?_
        refine ru_ialdN (j := j) d_Mo_tookNumber_215 (ly hL 406 100 3001) (by omega) (by decide) ?_
        refine ru_eqi a8' ?_
        refine ru_icmp_ne (tgt := 250) d_Mo_tookNumber_216 (by decide) (fun h216 => ?_) (fun h216 => ?_)
        · skip
          replace h216 := nm_ne (a := q) (b := e) (by omega) (by omega) h216
          refine ru_iconst (v := 0) d_Mo_tookNumber_250 (by decide) ?_
          refine ru_istore d_Mo_tookNumber_251 (by decide) ?_
          refine ru_iload d_Mo_tookNumber_253 rfl ?_
          refine ru_if_ne (tgt := 260) d_Mo_tookNumber_255 (by decide) (fun h255 => absurd h255 (by decide)) (fun h255 => ?_)
          refine ru_iconst (v := 0) d_Mo_tookNumber_258 (by decide) ?_
          refine ru_zret (ty := .boolean) d_Mo_tookNumber_259 rfl rfl ?_
          exact hno (by rw [hamt]; by_cases h10 : p - b < 1 ∨ 9 < p - b; (exact if_pos h10); rw [if_neg h10, if_neg (by omega)]; exact if_neg (by omega))
        · skip
          replace h216 := nm_eq (a := q) (b := e) (by omega) (by omega) h216
          refine ru_iload_n d_Mo_tookNumber_219 rfl rfl ?_
          refine ru_if_le (tgt := 250) d_Mo_tookNumber_220 (by decide) (fun h220 => ?_) (fun h220 => ?_)
          · skip
            replace h220 := nm_le (a := (p-b)) (b := 0) (by omega) (by omega) h220
            refine ru_iconst (v := 0) d_Mo_tookNumber_250 (by decide) ?_
            refine ru_istore d_Mo_tookNumber_251 (by decide) ?_
            refine ru_iload d_Mo_tookNumber_253 rfl ?_
            refine ru_if_ne (tgt := 260) d_Mo_tookNumber_255 (by decide) (fun h255 => absurd h255 (by decide)) (fun h255 => ?_)
            refine ru_iconst (v := 0) d_Mo_tookNumber_258 (by decide) ?_
            refine ru_zret (ty := .boolean) d_Mo_tookNumber_259 rfl rfl ?_
            exact hno (by rw [hamt]; by_cases h10 : p - b < 1 ∨ 9 < p - b; (exact if_pos h10); rw [if_neg h10, if_neg (by omega)]; exact if_neg (by omega))
          · skip
            replace h220 := nm_nle (a := (p-b)) (b := 0) (by omega) (by omega) h220
            refine ru_iload_n d_Mo_tookNumber_223 rfl rfl ?_
            refine ru_bipush (v := 10) d_Mo_tookNumber_224 (by decide) ?_
            refine ru_icmp_ge (tgt := 250) d_Mo_tookNumber_226 (by decide) (fun h226 => ?_) (fun h226 => ?_)
            · skip
              replace h226 := nm_le (a := 10) (b := (p-b)) (by omega) (by omega) h226
              refine ru_iconst (v := 0) d_Mo_tookNumber_250 (by decide) ?_
              refine ru_istore d_Mo_tookNumber_251 (by decide) ?_
              refine ru_iload d_Mo_tookNumber_253 rfl ?_
              refine ru_if_ne (tgt := 260) d_Mo_tookNumber_255 (by decide) (fun h255 => absurd h255 (by decide)) (fun h255 => ?_)
              refine ru_iconst (v := 0) d_Mo_tookNumber_258 (by decide) ?_
              refine ru_zret (ty := .boolean) d_Mo_tookNumber_259 rfl rfl ?_
              exact hno (by rw [hamt]; by_cases h10 : p - b < 1 ∨ 9 < p - b; (exact if_pos h10); rw [if_neg h10, if_neg (by omega)]; exact if_neg (by omega))
            · skip
              replace h226 := nm_nle (a := 10) (b := (p-b)) (by omega) (by omega) h226
              refine ru_iload d_Mo_tookNumber_229 rfl ?_
              refine ru_if_eq (tgt := 246) d_Mo_tookNumber_231 (by decide) (fun h231 => absurd h231 (by decide)) (fun h231 => ?_)
              refine ru_iload d_Mo_tookNumber_234 rfl ?_
              refine ru_if_le (tgt := 250) d_Mo_tookNumber_236 (by decide) (fun h236 => ?_) (fun h236 => ?_)
              · skip
                replace h236 := nm_le (a := (q-(p+1))) (b := 0) (by omega) (by omega) h236
                refine ru_iconst (v := 0) d_Mo_tookNumber_250 (by decide) ?_
                refine ru_istore d_Mo_tookNumber_251 (by decide) ?_
                refine ru_iload d_Mo_tookNumber_253 rfl ?_
                refine ru_if_ne (tgt := 260) d_Mo_tookNumber_255 (by decide) (fun h255 => absurd h255 (by decide)) (fun h255 => ?_)
                refine ru_iconst (v := 0) d_Mo_tookNumber_258 (by decide) ?_
                refine ru_zret (ty := .boolean) d_Mo_tookNumber_259 rfl rfl ?_
                exact hno (by rw [hamt]; by_cases h10 : p - b < 1 ∨ 9 < p - b; (exact if_pos h10); rw [if_neg h10, if_neg (by omega)]; exact if_neg (by omega))
              · skip
                replace h236 := nm_nle (a := (q-(p+1))) (b := 0) (by omega) (by omega) h236
                refine ru_iload d_Mo_tookNumber_239 rfl ?_
                refine ru_bipush (v := 7) d_Mo_tookNumber_241 (by decide) ?_
                refine ru_icmp_ge (tgt := 250) d_Mo_tookNumber_243 (by decide) (fun h243 => ?_) (fun h243 => ?_)
                · skip
                  replace h243 := nm_le (a := 7) (b := (q-(p+1))) (by omega) (by omega) h243
                  refine ru_iconst (v := 0) d_Mo_tookNumber_250 (by decide) ?_
                  refine ru_istore d_Mo_tookNumber_251 (by decide) ?_
                  refine ru_iload d_Mo_tookNumber_253 rfl ?_
                  refine ru_if_ne (tgt := 260) d_Mo_tookNumber_255 (by decide) (fun h255 => absurd h255 (by decide)) (fun h255 => ?_)
                  refine ru_iconst (v := 0) d_Mo_tookNumber_258 (by decide) ?_
                  refine ru_zret (ty := .boolean) d_Mo_tookNumber_259 rfl rfl ?_
                  exact hno (by rw [hamt]; by_cases h10 : p - b < 1 ∨ 9 < p - b; (exact if_pos h10); rw [if_neg h10, if_neg (by omega)]; exact if_neg (by omega))
                · skip
                  replace h243 := nm_nle (a := 7) (b := (q-(p+1))) (by omega) (by omega) h243
                  refine ru_iconst (v := 1) d_Mo_tookNumber_246 (by decide) ?_
                  refine ru_goto (tgt := 251) d_Mo_tookNumber_247 (by decide) ?_
                  refine ru_istore d_Mo_tookNumber_251 (by decide) ?_
                  refine ru_iload d_Mo_tookNumber_253 rfl ?_
                  refine ru_if_ne (tgt := 260) d_Mo_tookNumber_255 (by decide) (fun h255 => ?_) (fun h255 => absurd h255 (by decide))
                  refine ru_iload d_Mo_tookNumber_260 rfl ?_
                  refine ru_istore d_Mo_tookNumber_262 (by decide) ?_
                  have hA := hamt
                  rw [if_neg (by omega), if_neg (by omega), if_pos ⟨h46', by omega, by omega, by omega⟩] at hA
                  obtain rfl := hv' (by omega) (by omega)
                  subst h216
                  refine ru_to (fill _ hA (6 - (q - (p + 1))) (q - (p + 1)) _ rfl (by omega) ?_) ⟨rfl, rfl, rfl, trivial⟩
                  rw [dvF_lin, Nat.add_mul, Nat.mul_assoc, ← Nat.pow_add, show q - (p + 1) + (6 - (q - (p + 1))) = 6 by omega, e_mil]
      refine ru_iconst (v := 0) d_Mo_tookNumber_96 (by decide) ?_
      refine ru_istore d_Mo_tookNumber_97 (by decide) ?_
      refine ru_iload_n d_Mo_tookNumber_99 rfl rfl ?_
      refine ru_aload_n d_Mo_tookNumber_100 rfl rfl ?_
      refine ru_getR d_Mo_tookNumber_101 lf_Mo_33 (ly hL 398 9 0) rfl (lr hL 398 11 406) ?_
      refine ru_aload_n d_Mo_tookNumber_104 rfl rfl ?_
      refine ru_getI d_Mo_tookNumber_105 lf_Mo_59 (ly hL 398 9 0) rfl ?_
      refine ru_eqi mS_w ?_
      refine ru_ialdN (j := j) d_Mo_tookNumber_108 (ly hL 406 100 3001) (by omega) (by decide) ?_
      refine ru_eqi a8' ?_
      refine ru_icmp_ge (tgt := 127) d_Mo_tookNumber_109 (by decide) (fun h109 => absurd h109 (nI_ge (by omega) (by omega))) (fun h109 => ?_)
      replace h109 := nm_nle (a := e) (b := p) (by omega) (by omega) h109
      refine ru_aload_n d_Mo_tookNumber_112 rfl rfl ?_
      refine ru_getR d_Mo_tookNumber_113 lf_Mo_7 (ly hL 398 9 0) rfl (lr hL 398 1 399) ?_
      refine ru_iload_n d_Mo_tookNumber_116 rfl rfl ?_
      refine ru_ialdN (j := p) d_Mo_tookNumber_117 (ly hL 399 100 3000) (by omega) (by decide) ?_
      rw [ht, h46.2]
      refine ru_bipush (v := 46) d_Mo_tookNumber_118 (by decide) ?_
      refine ru_icmp_ne (tgt := 127) d_Mo_tookNumber_120 (by decide) (fun h120 => absurd h120 (by decide)) (fun h120 => ?_)
      refine ru_iconst (v := 1) d_Mo_tookNumber_123 (by decide) ?_
      refine ru_goto (tgt := 128) d_Mo_tookNumber_124 (by decide) ?_
      refine ru_istore d_Mo_tookNumber_128 (by decide) ?_
      refine ru_iload d_Mo_tookNumber_130 rfl ?_
      refine ru_if_eq (tgt := 138) d_Mo_tookNumber_132 (by decide) (fun h132 => absurd h132 (by decide)) (fun h132 => ?_)
      refine ru_iinc (v := nI (p + 1)) d_Mo_tookNumber_135 rfl (nm_inc _ 1) (by decide) ?_
      exact ru_to (loop2 p _ hK h46.1 hbp _ (p + 1) v rfl (by omega) (Nat.le_refl _) rfl (fun z1 _ => by rw [Nat.sub_self]; exact hv (by omega))) ⟨rfl, rfl, rfl, rfl, by rw [Nat.sub_self]; rfl, rfl, trivial⟩
    · by_cases hpe2 : p = e
      · skip
        refine ru_iconst (v := 0) d_Mo_tookNumber_96 (by decide) ?_
        refine ru_istore d_Mo_tookNumber_97 (by decide) ?_
        refine ru_iload_n d_Mo_tookNumber_99 rfl rfl ?_
        refine ru_aload_n d_Mo_tookNumber_100 rfl rfl ?_
        refine ru_getR d_Mo_tookNumber_101 lf_Mo_33 (ly hL 398 9 0) rfl (lr hL 398 11 406) ?_
        refine ru_aload_n d_Mo_tookNumber_104 rfl rfl ?_
        refine ru_getI d_Mo_tookNumber_105 lf_Mo_59 (ly hL 398 9 0) rfl ?_
        refine ru_eqi mS_w ?_
        refine ru_ialdN (j := j) d_Mo_tookNumber_108 (ly hL 406 100 3001) (by omega) (by decide) ?_
        refine ru_eqi a8' ?_
        refine ru_icmp_ge (tgt := 127) d_Mo_tookNumber_109 (by decide) (fun h109 => ?_) (fun h109 => absurd (nI_le (by omega) (by omega)) h109)
        replace h109 := nm_le (a := e) (b := p) (by omega) (by omega) h109
        refine ru_iconst (v := 0) d_Mo_tookNumber_127 (by decide) ?_
        refine ru_istore d_Mo_tookNumber_128 (by decide) ?_
        refine ru_iload d_Mo_tookNumber_130 rfl ?_
        refine ru_if_eq (tgt := 138) d_Mo_tookNumber_132 (by decide) (fun h132 => ?_) (fun h132 => absurd h132 (by decide))
        refine ru_iload d_Mo_tookNumber_138 rfl ?_
        refine ru_if_eq (tgt := 206) d_Mo_tookNumber_140 (by decide) (fun h140 => ?_) (fun h140 => absurd h140 (by decide))
        refine ru_iload_n d_Mo_tookNumber_206 rfl rfl ?_
        refine ru_aload_n d_Mo_tookNumber_207 rfl rfl ?_
        refine ru_getR d_Mo_tookNumber_208 lf_Mo_33 (ly hL 398 9 0) rfl (lr hL 398 11 406) ?_
        refine ru_aload_n d_Mo_tookNumber_211 rfl rfl ?_
        refine ru_getI d_Mo_tookNumber_212 lf_Mo_59 (ly hL 398 9 0) rfl ?_
        refine ru_eqi mS_w ?_
        refine ru_ialdN (j := j) d_Mo_tookNumber_215 (ly hL 406 100 3001) (by omega) (by decide) ?_
        refine ru_eqi a8' ?_
        refine ru_icmp_ne (tgt := 250) d_Mo_tookNumber_216 (by decide) (fun h216 => ?_) (fun h216 => ?_)
        · skip
          replace h216 := nm_ne (a := p) (b := e) (by omega) (by omega) h216
          refine ru_iconst (v := 0) d_Mo_tookNumber_250 (by decide) ?_
          refine ru_istore d_Mo_tookNumber_251 (by decide) ?_
          refine ru_iload d_Mo_tookNumber_253 rfl ?_
          refine ru_if_ne (tgt := 260) d_Mo_tookNumber_255 (by decide) (fun h255 => absurd h255 (by decide)) (fun h255 => ?_)
          refine ru_iconst (v := 0) d_Mo_tookNumber_258 (by decide) ?_
          refine ru_zret (ty := .boolean) d_Mo_tookNumber_259 rfl rfl ?_
          exact hno (by rw [hamt]; first | exact if_pos (by omega) | (exfalso; omega))
        · skip
          replace h216 := nm_eq (a := p) (b := e) (by omega) (by omega) h216
          refine ru_iload_n d_Mo_tookNumber_219 rfl rfl ?_
          refine ru_if_le (tgt := 250) d_Mo_tookNumber_220 (by decide) (fun h220 => ?_) (fun h220 => ?_)
          · skip
            replace h220 := nm_le (a := (p-b)) (b := 0) (by omega) (by omega) h220
            refine ru_iconst (v := 0) d_Mo_tookNumber_250 (by decide) ?_
            refine ru_istore d_Mo_tookNumber_251 (by decide) ?_
            refine ru_iload d_Mo_tookNumber_253 rfl ?_
            refine ru_if_ne (tgt := 260) d_Mo_tookNumber_255 (by decide) (fun h255 => absurd h255 (by decide)) (fun h255 => ?_)
            refine ru_iconst (v := 0) d_Mo_tookNumber_258 (by decide) ?_
            refine ru_zret (ty := .boolean) d_Mo_tookNumber_259 rfl rfl ?_
            exact hno (by rw [hamt]; first | exact if_pos (by omega) | (exfalso; omega))
          · skip
            replace h220 := nm_nle (a := (p-b)) (b := 0) (by omega) (by omega) h220
            refine ru_iload_n d_Mo_tookNumber_223 rfl rfl ?_
            refine ru_bipush (v := 10) d_Mo_tookNumber_224 (by decide) ?_
            refine ru_icmp_ge (tgt := 250) d_Mo_tookNumber_226 (by decide) (fun h226 => ?_) (fun h226 => ?_)
            · skip
              replace h226 := nm_le (a := 10) (b := (p-b)) (by omega) (by omega) h226
              refine ru_iconst (v := 0) d_Mo_tookNumber_250 (by decide) ?_
              refine ru_istore d_Mo_tookNumber_251 (by decide) ?_
              refine ru_iload d_Mo_tookNumber_253 rfl ?_
              refine ru_if_ne (tgt := 260) d_Mo_tookNumber_255 (by decide) (fun h255 => absurd h255 (by decide)) (fun h255 => ?_)
              refine ru_iconst (v := 0) d_Mo_tookNumber_258 (by decide) ?_
              refine ru_zret (ty := .boolean) d_Mo_tookNumber_259 rfl rfl ?_
              exact hno (by rw [hamt]; first | exact if_pos (by omega) | (exfalso; omega))
            · skip
              replace h226 := nm_nle (a := 10) (b := (p-b)) (by omega) (by omega) h226
              refine ru_iload d_Mo_tookNumber_229 rfl ?_
              refine ru_if_eq (tgt := 246) d_Mo_tookNumber_231 (by decide) (fun h231 => ?_) (fun h231 => absurd h231 (by decide))
              refine ru_iconst (v := 1) d_Mo_tookNumber_246 (by decide) ?_
              refine ru_goto (tgt := 251) d_Mo_tookNumber_247 (by decide) ?_
              refine ru_istore d_Mo_tookNumber_251 (by decide) ?_
              refine ru_iload d_Mo_tookNumber_253 rfl ?_
              refine ru_if_ne (tgt := 260) d_Mo_tookNumber_255 (by decide) (fun h255 => ?_) (fun h255 => absurd h255 (by decide))
              refine ru_iload d_Mo_tookNumber_260 rfl ?_
              refine ru_istore d_Mo_tookNumber_262 (by decide) ?_
              have hA := hamt
              rw [if_neg (by omega), if_pos hpe2] at hA
              obtain rfl := hv (by omega)
              exact ru_to (fill _ hA 6 0 _ rfl (by omega) (by rw [e_mil, Nat.add_zero])) ⟨rfl, rfl, rfl, trivial⟩
      · have hne : ¬ t p = 46 := fun z => h46 ⟨by omega, z⟩
        have hne2 : ¬ (t p).toInt = 46 := fun z => hne (by rw [iq, i_46]; exact z)
        refine ru_iconst (v := 0) d_Mo_tookNumber_96 (by decide) ?_
        refine ru_istore d_Mo_tookNumber_97 (by decide) ?_
        refine ru_iload_n d_Mo_tookNumber_99 rfl rfl ?_
        refine ru_aload_n d_Mo_tookNumber_100 rfl rfl ?_
        refine ru_getR d_Mo_tookNumber_101 lf_Mo_33 (ly hL 398 9 0) rfl (lr hL 398 11 406) ?_
        refine ru_aload_n d_Mo_tookNumber_104 rfl rfl ?_
        refine ru_getI d_Mo_tookNumber_105 lf_Mo_59 (ly hL 398 9 0) rfl ?_
        refine ru_eqi mS_w ?_
        refine ru_ialdN (j := j) d_Mo_tookNumber_108 (ly hL 406 100 3001) (by omega) (by decide) ?_
        refine ru_eqi a8' ?_
        refine ru_icmp_ge (tgt := 127) d_Mo_tookNumber_109 (by decide) (fun h109 => absurd h109 (nI_ge (by omega) (by omega))) (fun h109 => ?_)
        replace h109 := nm_nle (a := e) (b := p) (by omega) (by omega) h109
        refine ru_aload_n d_Mo_tookNumber_112 rfl rfl ?_
        refine ru_getR d_Mo_tookNumber_113 lf_Mo_7 (ly hL 398 9 0) rfl (lr hL 398 1 399) ?_
        refine ru_iload_n d_Mo_tookNumber_116 rfl rfl ?_
        refine ru_ialdN (j := p) d_Mo_tookNumber_117 (ly hL 399 100 3000) (by omega) (by decide) ?_
        rw [ht]
        refine ru_bipush (v := 46) d_Mo_tookNumber_118 (by decide) ?_
        refine ru_icmp_ne (tgt := 127) d_Mo_tookNumber_120 (by decide) (fun h120 => ?_) (fun h120 => absurd h120 hne)
        refine ru_iconst (v := 0) d_Mo_tookNumber_127 (by decide) ?_
        refine ru_istore d_Mo_tookNumber_128 (by decide) ?_
        refine ru_iload d_Mo_tookNumber_130 rfl ?_
        refine ru_if_eq (tgt := 138) d_Mo_tookNumber_132 (by decide) (fun h132 => ?_) (fun h132 => absurd h132 (by decide))
        refine ru_iload d_Mo_tookNumber_138 rfl ?_
        refine ru_if_eq (tgt := 206) d_Mo_tookNumber_140 (by decide) (fun h140 => ?_) (fun h140 => absurd h140 (by decide))
        refine ru_iload_n d_Mo_tookNumber_206 rfl rfl ?_
        refine ru_aload_n d_Mo_tookNumber_207 rfl rfl ?_
        refine ru_getR d_Mo_tookNumber_208 lf_Mo_33 (ly hL 398 9 0) rfl (lr hL 398 11 406) ?_
        refine ru_aload_n d_Mo_tookNumber_211 rfl rfl ?_
        refine ru_getI d_Mo_tookNumber_212 lf_Mo_59 (ly hL 398 9 0) rfl ?_
        refine ru_eqi mS_w ?_
        refine ru_ialdN (j := j) d_Mo_tookNumber_215 (ly hL 406 100 3001) (by omega) (by decide) ?_
        refine ru_eqi a8' ?_
        refine ru_icmp_ne (tgt := 250) d_Mo_tookNumber_216 (by decide) (fun h216 => ?_) (fun h216 => ?_)
        · skip
          replace h216 := nm_ne (a := p) (b := e) (by omega) (by omega) h216
          refine ru_iconst (v := 0) d_Mo_tookNumber_250 (by decide) ?_
          refine ru_istore d_Mo_tookNumber_251 (by decide) ?_
          refine ru_iload d_Mo_tookNumber_253 rfl ?_
          refine ru_if_ne (tgt := 260) d_Mo_tookNumber_255 (by decide) (fun h255 => absurd h255 (by decide)) (fun h255 => ?_)
          refine ru_iconst (v := 0) d_Mo_tookNumber_258 (by decide) ?_
          refine ru_zret (ty := .boolean) d_Mo_tookNumber_259 rfl rfl ?_
          exact hno (by rw [hamt]; by_cases h10 : p - b < 1 ∨ 9 < p - b; (exact if_pos h10); rw [if_neg h10, if_neg (by omega)]; exact if_neg (by omega))
        · skip
          replace h216 := nm_eq (a := p) (b := e) (by omega) (by omega) h216
          exfalso; omega
  have loop1 : ∀ f i (v : Int64), f = e - i → i ≤ e → b ≤ i → de e t (e - b) b = de e t f i → (i - b ≤ 10 → v = Int64.ofNat (dvF t (i - b) b 0)) → rx_W M_Mo_tookNumber 1 0 0 34 [(0, .ref 398), (1, .int (nI (i - b))), (2, .int (nI i)), (3, .long v)] [] (nx, ct, mS m0 (nI j) (-1), ml, mr) (pR post) := by
    intro f
    induction f with
    | zero =>
      intro i v hf hi hpi hd hv
      refine ru_iload_n d_Mo_tookNumber_34 rfl rfl ?_
      refine ru_aload_n d_Mo_tookNumber_35 rfl rfl ?_
      refine ru_getR d_Mo_tookNumber_36 lf_Mo_33 (ly hL 398 9 0) rfl (lr hL 398 11 406) ?_
      refine ru_aload_n d_Mo_tookNumber_39 rfl rfl ?_
      refine ru_getI d_Mo_tookNumber_40 lf_Mo_59 (ly hL 398 9 0) rfl ?_
      refine ru_eqi mS_w ?_
      refine ru_ialdN (j := j) d_Mo_tookNumber_43 (ly hL 406 100 3001) (by omega) (by decide) ?_
      refine ru_eqi a8' ?_
      refine ru_icmp_ge (tgt := 96) d_Mo_tookNumber_44 (by decide) (fun h44 => ?_) (fun h44 => absurd (nI_le (by omega) (by omega)) h44)
      replace h44 := nm_le (a := e) (b := i) (by omega) (by omega) h44
      exact ru_to (mid i v hd.symm hpi hi hv) ⟨rfl, rfl, rfl, rfl, trivial⟩
    | succ f ih =>
      intro i v hf hi hpi hd hv
      have hs : i + 1 - b = i - b + 1 := by omega
      refine ru_iload_n d_Mo_tookNumber_34 rfl rfl ?_
      refine ru_aload_n d_Mo_tookNumber_35 rfl rfl ?_
      refine ru_getR d_Mo_tookNumber_36 lf_Mo_33 (ly hL 398 9 0) rfl (lr hL 398 11 406) ?_
      refine ru_aload_n d_Mo_tookNumber_39 rfl rfl ?_
      refine ru_getI d_Mo_tookNumber_40 lf_Mo_59 (ly hL 398 9 0) rfl ?_
      refine ru_eqi mS_w ?_
      refine ru_ialdN (j := j) d_Mo_tookNumber_43 (ly hL 406 100 3001) (by omega) (by decide) ?_
      refine ru_eqi a8' ?_
      refine ru_icmp_ge (tgt := 96) d_Mo_tookNumber_44 (by decide) (fun h44 => absurd h44 (nI_ge (by omega) (by omega))) (fun h44 => ?_)
      replace h44 := nm_nle (a := e) (b := i) (by omega) (by omega) h44
      refine ru_aload_n d_Mo_tookNumber_47 rfl rfl ?_
      refine ru_getR d_Mo_tookNumber_48 lf_Mo_7 (ly hL 398 9 0) rfl (lr hL 398 1 399) ?_
      refine ru_iload_n d_Mo_tookNumber_51 rfl rfl ?_
      refine ru_ialdN (j := i) d_Mo_tookNumber_52 (ly hL 399 100 3000) (by omega) (by decide) ?_
      rw [ht]
      refine ru_callS (mc := 0) (ms := 0) d_Mo_tookNumber_53 lm_Mo_47 (sp_Mo_isDigit _ _) (by decide) rfl (Nat.le_of_ble_eq_true rfl) ?_
      intro v τ h
      obtain ⟨rfl, rfl⟩ := h
      refine ru_if_eq (tgt := 96) d_Mo_tookNumber_56 (by decide) (fun h56 => ?_) (fun h56 => ?_)
      · skip
        replace h56 := bI_eq0.mp h56
        rw [hf, de_stop (fun z => h56 z.2)] at hd
        exact ru_to (mid i v hd.symm hpi hi hv) ⟨rfl, rfl, rfl, rfl, trivial⟩
      · skip
        replace h56 := bI_ne0.mp h56
        refine ru_iload_n d_Mo_tookNumber_59 rfl rfl ?_
        refine ru_bipush (v := 10) d_Mo_tookNumber_60 (by decide) ?_
        refine ru_icmp_ge (tgt := 85) d_Mo_tookNumber_62 (by decide) (fun h62 => ?_) (fun h62 => ?_)
        · skip
          replace h62 := nm_le (a := 10) (b := (i-b)) (by omega) (by omega) h62
          refine ru_lload_n d_Mo_tookNumber_85 rfl rfl ?_
          refine ru_lstore_n d_Mo_tookNumber_86 rfl (by decide) ?_
          refine ru_iinc (v := nI ((i-b) + 1)) d_Mo_tookNumber_87 rfl (nm_inc _ 1) (by decide) ?_
          refine ru_iinc (v := nI (i + 1)) d_Mo_tookNumber_90 rfl (nm_inc _ 1) (by decide) ?_
          refine ru_goto (tgt := 34) d_Mo_tookNumber_93 (by decide) ?_
          rw [hf, de_step (by omega) h56, show e - (i + 1) = f by omega] at hd
          refine ru_to (ih (i + 1) _ (by omega) (by omega) (by omega) hd ?_) ⟨rfl, by rw [hs]; rfl, rfl, rfl, trivial⟩
          intro z1
          first | (exfalso; omega) | (rw [hs, dvF_snoc, hv (by omega), show b + (i - b) = i by omega]; exact (congrArg (fun x => x + (t i).toInt64 - 48) (nl_mul 10 _)).trans (nl_dig h56))
        · skip
          replace h62 := nm_nle (a := 10) (b := (i-b)) (by omega) (by omega) h62
          refine ru_ldc2 d_Mo_tookNumber_65 lc_Mo_114 ?_
          refine ru_lload_n d_Mo_tookNumber_68 rfl rfl ?_
          refine ru_lmul d_Mo_tookNumber_69 ?_
          refine ru_aload_n d_Mo_tookNumber_70 rfl rfl ?_
          refine ru_getR d_Mo_tookNumber_71 lf_Mo_7 (ly hL 398 9 0) rfl (lr hL 398 1 399) ?_
          refine ru_iload_n d_Mo_tookNumber_74 rfl rfl ?_
          refine ru_ialdN (j := i) d_Mo_tookNumber_75 (ly hL 399 100 3000) (by omega) (by decide) ?_
          rw [ht]
          refine ru_i2l d_Mo_tookNumber_76 ?_
          refine ru_ladd d_Mo_tookNumber_77 ?_
          refine ru_ldc2 d_Mo_tookNumber_78 lc_Mo_116 ?_
          refine ru_lsub d_Mo_tookNumber_81 ?_
          refine ru_goto (tgt := 86) d_Mo_tookNumber_82 (by decide) ?_
          refine ru_lstore_n d_Mo_tookNumber_86 rfl (by decide) ?_
          refine ru_iinc (v := nI ((i-b) + 1)) d_Mo_tookNumber_87 rfl (nm_inc _ 1) (by decide) ?_
          refine ru_iinc (v := nI (i + 1)) d_Mo_tookNumber_90 rfl (nm_inc _ 1) (by decide) ?_
          refine ru_goto (tgt := 34) d_Mo_tookNumber_93 (by decide) ?_
          rw [hf, de_step (by omega) h56, show e - (i + 1) = f by omega] at hd
          refine ru_to (ih (i + 1) _ (by omega) (by omega) (by omega) hd ?_) ⟨rfl, by rw [hs]; rfl, rfl, rfl, trivial⟩
          intro z1
          first | (exfalso; omega) | (rw [hs, dvF_snoc, hv (by omega), show b + (i - b) = i by omega]; exact (congrArg (fun x => x + (t i).toInt64 - 48) (nl_mul 10 _)).trans (nl_dig h56))
  refine ru_aload_n d_Mo_tookNumber_0 rfl rfl ?_
  refine ru_callV (mc := 0) (ms := 0) d_Mo_tookNumber_1 lm_Mo_75 (sq_good hL) (rx_recv_is (ly hL 398 9 0) kx_Mo) (by decide) rfl (Nat.le_of_ble_eq_true rfl) ?_
  intro v τ h
  obtain ⟨rfl, rfl⟩ := h
  refine ru_if_eq (tgt := 18) d_Mo_tookNumber_4 (by decide) (fun h4 => absurd h4 (bI_ne0.mpr rfl)) (fun h4 => ?_)
  refine ru_aload_n d_Mo_tookNumber_7 rfl rfl ?_
  refine ru_getI d_Mo_tookNumber_8 lf_Mo_59 (ly hL 398 9 0) rfl ?_
  refine ru_eqi mS_w ?_
  refine ru_aload_n d_Mo_tookNumber_11 rfl rfl ?_
  refine ru_getI d_Mo_tookNumber_12 lf_Mo_53 (ly hL 398 9 0) rfl ?_
  refine ru_eqi h9 ?_
  refine ru_icmp_lt (tgt := 20) d_Mo_tookNumber_15 (by decide) (fun h15 => ?_) (fun h15 => absurd (nI_lt (by omega) (by omega)) h15)
  replace h15 := nm_lt (a := j) (b := m) (by omega) (by omega) h15
  refine ru_iconst (v := 0) d_Mo_tookNumber_20 (by decide) ?_
  refine ru_istore_n d_Mo_tookNumber_21 rfl (by decide) ?_
  refine ru_aload_n d_Mo_tookNumber_22 rfl rfl ?_
  refine ru_getR d_Mo_tookNumber_23 lf_Mo_30 (ly hL 398 9 0) rfl (lr hL 398 10 405) ?_
  refine ru_aload_n d_Mo_tookNumber_26 rfl rfl ?_
  refine ru_getI d_Mo_tookNumber_27 lf_Mo_59 (ly hL 398 9 0) rfl ?_
  refine ru_eqi mS_w ?_
  refine ru_ialdN (j := j) d_Mo_tookNumber_30 (ly hL 405 100 3001) (by omega) (by decide) ?_
  refine ru_eqi a7' ?_
  refine ru_istore_n d_Mo_tookNumber_31 rfl (by decide) ?_
  refine ru_lconst (v := 0) d_Mo_tookNumber_32 (by decide) ?_
  refine ru_lstore_n d_Mo_tookNumber_33 rfl (by decide) ?_
  exact ru_to (loop1 _ b 0 rfl (by omega) (Nat.le_refl _) rfl (fun _ => by rw [Nat.sub_self]; rfl)) ⟨rfl, by rw [Nat.sub_self]; rfl, rfl, rfl, trivial⟩
end
end
